def sp_end (x : Int32) : Int32 := if x < 0 ∨ ¬ x ≤ 0 then -1 else x
def sp_fault (x : Int32) : Int32 := if x = 0 then 0 else -1
def sp_will (x y : Int32) : Int32 := if x < 0 ∨ 8 < x ∨ y < 0 ∨ 1 < y then -1 else 0
def sp_law (x : Int32) : Int32 := if x < 0 ∨ 20 < x then -1 else 0
def sp_later (x : Int32) : Int32 := if x < 0 ∨ 1000 < x then -1 else x
def sp_about (x : Int32) : Int32 := if x = 0 ∨ x = 1 ∨ x = 2 ∨ x = 3 ∨ x = 4 ∨ x = 5 ∨ x = 6 ∨ x = 7 ∨ x = 8 ∨ x = 9 ∨ x = 10 ∨ x = 11 ∨ x = 12 then 0 else -1
theorem i_out3 {x : Int32} (h : ¬ x = 0 ∧ ¬ x = 1 ∧ ¬ x = 2) (h0 : ¬ x < 0) : ¬ x < 3 := by
  obtain ⟨j, hj, rfl⟩ := nI_of h0
  intro h3
  have h4 : j < 3 := (nI_ltI hj (by decide)).mp h3
  rcases (show j = 0 ∨ j = 1 ∨ j = 2 by omega) with rfl | rfl | rfl
  · exact h.1 rfl
  · exact h.2.1 rfl
  · exact h.2.2 rfl
set_option maxHeartbeats 4000000 in
set_option maxRecDepth 100000 in
theorem c_X10_putNumber_0 {l : Launch} {g : Gx} {h0 tp : Nat} {p0 : Int32} {h0_reader : Value} {h0_draft : Value} {h0_told : Value} {h0_course : Value} {h0_now : Value} {h0_history : Value} {h0_boxes : Value} {h0_boxFilled : Value} {h0_lying : Value} {h0_outlook : Value} {h0_sightings : Value} {h0_time : Int32} {f_tp : Nat → Int32} : MV l g yX10_putNumber cX10_putNumber 3 2 0 0 [.ref h0, .int p0] [(h0, .inr (10, [.ref tp, .int 0, h0_reader, h0_draft, h0_told, h0_course, h0_now, h0_history, h0_boxes, h0_boxFilled, h0_lying, h0_outlook, h0_sightings, .int h0_time])), (tp, .inl (gB g, 1600, .inl f_tp))] (fun W' => ∃ (z0 : Nat → Int32), W' = [(h0, .inr (10, [.ref tp, .int 4, h0_reader, h0_draft, h0_told, h0_course, h0_now, h0_history, h0_boxes, h0_boxFilled, h0_lying, h0_outlook, h0_sightings, .int h0_time])), (tp, .inl (gB g, 1600, .inl z0))]) := by
  refine MVof (by decide) (Nat.le_of_ble_eq_true rfl) ?_
  intro p e s m below meth c A ls H locs hcx hA hP hD hS hl
  obtain ⟨hx, hb, hml, hr, hlocks, hown, hts, hE, hnm⟩ := id hcx
  have hown : s.vm.findClass RX10 = some m.cls := hown
  have hK := hE.1
  have hl : lv_has ls 3 [(0, .ref h0), (1, .int p0)] := hl
  refine lv_bipush (v := 24) hx hb dX10_putNumber_0 (by decide) ?_
  refine lv_istore_n (lv' := [(2, .int 24), (0, .ref h0), (1, .int p0)]) hx hb dX10_putNumber_2 rfl hl (by decide) rfl (fun ls hl => ?_)
  refine lv_iload_n hx hb dX10_putNumber_3 rfl (lv_at hl 0 rfl) ?_
  refine lv_if_lt (tgt := 46) hx hb dX10_putNumber_4 (by decide) (fun c1 => absurd c1 (by decide)) (fun _ => ?_)
  refine lv_aload_n hx hb dX10_putNumber_7 rfl (lv_at hl 1 rfl) ?_
  refine va_get (D := g.1) (ci := 10) (v := Value.int 0) (C := RX10) (T := TX10) (N := 14) hx hb hts inlX10 hown hK hP 0 rfl rfl 1 (by decide) (hts _ q15_14) (fun _ h9 => h9) rfl dX10_putNumber_8 ?_
  refine lv_sipush (v := 1600) hx hb dX10_putNumber_11 (by decide) ?_
  refine lv_icmp_ge (tgt := 46) hx hb dX10_putNumber_14 (by decide) (fun c2 => absurd c2 (by decide)) (fun _ => ?_)
  refine lv_aload_n hx hb dX10_putNumber_17 rfl (lv_at hl 1 rfl) ?_
  refine va_get (D := g.1) (ci := 10) (v := Value.ref tp) (C := RX10) (T := TX10) (N := 14) hx hb hts inlX10 hown hK hP 0 rfl rfl 0 (by decide) (hts _ q1_13) (fun _ h9 => h9) rfl dX10_putNumber_18 ?_
  refine lv_aload_n hx hb dX10_putNumber_21 rfl (lv_at hl 1 rfl) ?_
  refine va_get (D := g.1) (ci := 10) (v := Value.int 0) (C := RX10) (T := TX10) (N := 14) hx hb hts inlX10 hown hK hP 0 rfl rfl 1 (by decide) (hts _ q15_14) (fun _ h9 => h9) rfl dX10_putNumber_22 ?_
  refine lv_iload_n hx hb dX10_putNumber_25 rfl (lv_at hl 2 rfl) ?_
  refine lv_iload_n hx hb dX10_putNumber_26 rfl (lv_at hl 0 rfl) ?_
  refine lv_ishr hx hb dX10_putNumber_27 ?_
  refine lv_topi (fun x3 ex3 => ?_)
  refine lv_i2b hx hb dX10_putNumber_28 rfl ?_
  refine lv_topi (fun x4 ex4 => ?_)
  refine ba_st hx hb hK hP hD hS 1 0 rfl rfl (0) rfl (by decide) (by decide) dX10_putNumber_29 (fun f5 H locs ef5 hP hD hS => ?_)
  have hP : va_P g.1 vwCl [(h0, .inr (10, [.ref tp, .int 0, h0_reader, h0_draft, h0_told, h0_course, h0_now, h0_history, h0_boxes, h0_boxFilled, h0_lying, h0_outlook, h0_sightings, .int h0_time])), (tp, .inl (gB g, 1600, .inl f5))] H := hP
  have hD : va_D A [(h0, .inr (10, [.ref tp, .int 0, h0_reader, h0_draft, h0_told, h0_course, h0_now, h0_history, h0_boxes, h0_boxFilled, h0_lying, h0_outlook, h0_sightings, .int h0_time])), (tp, .inl (gB g, 1600, .inl f5))] := hD
  refine lv_aload_n hx hb dX10_putNumber_30 rfl (lv_at hl 1 rfl) ?_
  refine lv_dup hx hb dX10_putNumber_31 rfl ?_
  refine va_get (D := g.1) (ci := 10) (v := Value.int 0) (C := RX10) (T := TX10) (N := 14) hx hb hts inlX10 hown hK hP 0 rfl rfl 1 (by decide) (hts _ q15_14) (fun _ h9 => h9) rfl dX10_putNumber_32 ?_
  refine lv_iconst (v := 1) hx hb dX10_putNumber_35 (by decide) ?_
  refine lv_iadd hx hb dX10_putNumber_36 ?_
  refine lv_tope (y := 1) (by decide) ?_
  refine va_put (D := g.1) (ci := 10) (v := Value.int 1) (ty := .int) (C := RX10) (T := TX10) (N := 14) hx hb hts inlX10 tyX10 tyX10_ok nmX10 hown hK hP hD hS 0 rfl rfl 1 (by decide) (hts _ q15_14) (fun _ h9 => h9) rfl (by decide +kernel) rfl rfl (Nat.le_of_ble_eq_true rfl) dX10_putNumber_37 (fun H locs hP hD hS => ?_)
  have hP : va_P g.1 vwCl [(h0, .inr (10, [.ref tp, .int 1, h0_reader, h0_draft, h0_told, h0_course, h0_now, h0_history, h0_boxes, h0_boxFilled, h0_lying, h0_outlook, h0_sightings, .int h0_time])), (tp, .inl (gB g, 1600, .inl f5))] H := hP
  have hD : va_D A [(h0, .inr (10, [.ref tp, .int 1, h0_reader, h0_draft, h0_told, h0_course, h0_now, h0_history, h0_boxes, h0_boxFilled, h0_lying, h0_outlook, h0_sightings, .int h0_time])), (tp, .inl (gB g, 1600, .inl f5))] := hD
  refine lv_iinc (v := 16) (lv' := [(2, .int 16), (0, .ref h0), (1, .int p0)]) hx hb dX10_putNumber_40 hl (k := 0) rfl (by decide) (by decide) rfl (fun ls hl => ?_)
  refine lv_goto (tgt := 3) hx hb dX10_putNumber_43 (by decide) ?_
  refine lv_iload_n hx hb dX10_putNumber_3 rfl (lv_at hl 0 rfl) ?_
  refine lv_if_lt (tgt := 46) hx hb dX10_putNumber_4 (by decide) (fun c6 => absurd c6 (by decide)) (fun _ => ?_)
  refine lv_aload_n hx hb dX10_putNumber_7 rfl (lv_at hl 1 rfl) ?_
  refine va_get (D := g.1) (ci := 10) (v := Value.int 1) (C := RX10) (T := TX10) (N := 14) hx hb hts inlX10 hown hK hP 0 rfl rfl 1 (by decide) (hts _ q15_14) (fun _ h9 => h9) rfl dX10_putNumber_8 ?_
  refine lv_sipush (v := 1600) hx hb dX10_putNumber_11 (by decide) ?_
  refine lv_icmp_ge (tgt := 46) hx hb dX10_putNumber_14 (by decide) (fun c7 => absurd c7 (by decide)) (fun _ => ?_)
  refine lv_aload_n hx hb dX10_putNumber_17 rfl (lv_at hl 1 rfl) ?_
  refine va_get (D := g.1) (ci := 10) (v := Value.ref tp) (C := RX10) (T := TX10) (N := 14) hx hb hts inlX10 hown hK hP 0 rfl rfl 0 (by decide) (hts _ q1_13) (fun _ h9 => h9) rfl dX10_putNumber_18 ?_
  refine lv_aload_n hx hb dX10_putNumber_21 rfl (lv_at hl 1 rfl) ?_
  refine va_get (D := g.1) (ci := 10) (v := Value.int 1) (C := RX10) (T := TX10) (N := 14) hx hb hts inlX10 hown hK hP 0 rfl rfl 1 (by decide) (hts _ q15_14) (fun _ h9 => h9) rfl dX10_putNumber_22 ?_
  refine lv_iload_n hx hb dX10_putNumber_25 rfl (lv_at hl 2 rfl) ?_
  refine lv_iload_n hx hb dX10_putNumber_26 rfl (lv_at hl 0 rfl) ?_
  refine lv_ishr hx hb dX10_putNumber_27 ?_
  refine lv_topi (fun x8 ex8 => ?_)
  refine lv_i2b hx hb dX10_putNumber_28 rfl ?_
  refine lv_topi (fun x9 ex9 => ?_)
  refine ba_st hx hb hK hP hD hS 1 0 rfl rfl (1) rfl (by decide) (by decide) dX10_putNumber_29 (fun f10 H locs ef10 hP hD hS => ?_)
  have hP : va_P g.1 vwCl [(h0, .inr (10, [.ref tp, .int 1, h0_reader, h0_draft, h0_told, h0_course, h0_now, h0_history, h0_boxes, h0_boxFilled, h0_lying, h0_outlook, h0_sightings, .int h0_time])), (tp, .inl (gB g, 1600, .inl f10))] H := hP
  have hD : va_D A [(h0, .inr (10, [.ref tp, .int 1, h0_reader, h0_draft, h0_told, h0_course, h0_now, h0_history, h0_boxes, h0_boxFilled, h0_lying, h0_outlook, h0_sightings, .int h0_time])), (tp, .inl (gB g, 1600, .inl f10))] := hD
  refine lv_aload_n hx hb dX10_putNumber_30 rfl (lv_at hl 1 rfl) ?_
  refine lv_dup hx hb dX10_putNumber_31 rfl ?_
  refine va_get (D := g.1) (ci := 10) (v := Value.int 1) (C := RX10) (T := TX10) (N := 14) hx hb hts inlX10 hown hK hP 0 rfl rfl 1 (by decide) (hts _ q15_14) (fun _ h9 => h9) rfl dX10_putNumber_32 ?_
  refine lv_iconst (v := 1) hx hb dX10_putNumber_35 (by decide) ?_
  refine lv_iadd hx hb dX10_putNumber_36 ?_
  refine lv_tope (y := 2) (by decide) ?_
  refine va_put (D := g.1) (ci := 10) (v := Value.int 2) (ty := .int) (C := RX10) (T := TX10) (N := 14) hx hb hts inlX10 tyX10 tyX10_ok nmX10 hown hK hP hD hS 0 rfl rfl 1 (by decide) (hts _ q15_14) (fun _ h9 => h9) rfl (by decide +kernel) rfl rfl (Nat.le_of_ble_eq_true rfl) dX10_putNumber_37 (fun H locs hP hD hS => ?_)
  have hP : va_P g.1 vwCl [(h0, .inr (10, [.ref tp, .int 2, h0_reader, h0_draft, h0_told, h0_course, h0_now, h0_history, h0_boxes, h0_boxFilled, h0_lying, h0_outlook, h0_sightings, .int h0_time])), (tp, .inl (gB g, 1600, .inl f10))] H := hP
  have hD : va_D A [(h0, .inr (10, [.ref tp, .int 2, h0_reader, h0_draft, h0_told, h0_course, h0_now, h0_history, h0_boxes, h0_boxFilled, h0_lying, h0_outlook, h0_sightings, .int h0_time])), (tp, .inl (gB g, 1600, .inl f10))] := hD
  refine lv_iinc (v := 8) (lv' := [(2, .int 8), (0, .ref h0), (1, .int p0)]) hx hb dX10_putNumber_40 hl (k := 0) rfl (by decide) (by decide) rfl (fun ls hl => ?_)
  refine lv_goto (tgt := 3) hx hb dX10_putNumber_43 (by decide) ?_
  refine lv_iload_n hx hb dX10_putNumber_3 rfl (lv_at hl 0 rfl) ?_
  refine lv_if_lt (tgt := 46) hx hb dX10_putNumber_4 (by decide) (fun c11 => absurd c11 (by decide)) (fun _ => ?_)
  refine lv_aload_n hx hb dX10_putNumber_7 rfl (lv_at hl 1 rfl) ?_
  refine va_get (D := g.1) (ci := 10) (v := Value.int 2) (C := RX10) (T := TX10) (N := 14) hx hb hts inlX10 hown hK hP 0 rfl rfl 1 (by decide) (hts _ q15_14) (fun _ h9 => h9) rfl dX10_putNumber_8 ?_
  refine lv_sipush (v := 1600) hx hb dX10_putNumber_11 (by decide) ?_
  refine lv_icmp_ge (tgt := 46) hx hb dX10_putNumber_14 (by decide) (fun c12 => absurd c12 (by decide)) (fun _ => ?_)
  refine lv_aload_n hx hb dX10_putNumber_17 rfl (lv_at hl 1 rfl) ?_
  refine va_get (D := g.1) (ci := 10) (v := Value.ref tp) (C := RX10) (T := TX10) (N := 14) hx hb hts inlX10 hown hK hP 0 rfl rfl 0 (by decide) (hts _ q1_13) (fun _ h9 => h9) rfl dX10_putNumber_18 ?_
  refine lv_aload_n hx hb dX10_putNumber_21 rfl (lv_at hl 1 rfl) ?_
  refine va_get (D := g.1) (ci := 10) (v := Value.int 2) (C := RX10) (T := TX10) (N := 14) hx hb hts inlX10 hown hK hP 0 rfl rfl 1 (by decide) (hts _ q15_14) (fun _ h9 => h9) rfl dX10_putNumber_22 ?_
  refine lv_iload_n hx hb dX10_putNumber_25 rfl (lv_at hl 2 rfl) ?_
  refine lv_iload_n hx hb dX10_putNumber_26 rfl (lv_at hl 0 rfl) ?_
  refine lv_ishr hx hb dX10_putNumber_27 ?_
  refine lv_topi (fun x13 ex13 => ?_)
  refine lv_i2b hx hb dX10_putNumber_28 rfl ?_
  refine lv_topi (fun x14 ex14 => ?_)
  refine ba_st hx hb hK hP hD hS 1 0 rfl rfl (2) rfl (by decide) (by decide) dX10_putNumber_29 (fun f15 H locs ef15 hP hD hS => ?_)
  have hP : va_P g.1 vwCl [(h0, .inr (10, [.ref tp, .int 2, h0_reader, h0_draft, h0_told, h0_course, h0_now, h0_history, h0_boxes, h0_boxFilled, h0_lying, h0_outlook, h0_sightings, .int h0_time])), (tp, .inl (gB g, 1600, .inl f15))] H := hP
  have hD : va_D A [(h0, .inr (10, [.ref tp, .int 2, h0_reader, h0_draft, h0_told, h0_course, h0_now, h0_history, h0_boxes, h0_boxFilled, h0_lying, h0_outlook, h0_sightings, .int h0_time])), (tp, .inl (gB g, 1600, .inl f15))] := hD
  refine lv_aload_n hx hb dX10_putNumber_30 rfl (lv_at hl 1 rfl) ?_
  refine lv_dup hx hb dX10_putNumber_31 rfl ?_
  refine va_get (D := g.1) (ci := 10) (v := Value.int 2) (C := RX10) (T := TX10) (N := 14) hx hb hts inlX10 hown hK hP 0 rfl rfl 1 (by decide) (hts _ q15_14) (fun _ h9 => h9) rfl dX10_putNumber_32 ?_
  refine lv_iconst (v := 1) hx hb dX10_putNumber_35 (by decide) ?_
  refine lv_iadd hx hb dX10_putNumber_36 ?_
  refine lv_tope (y := 3) (by decide) ?_
  refine va_put (D := g.1) (ci := 10) (v := Value.int 3) (ty := .int) (C := RX10) (T := TX10) (N := 14) hx hb hts inlX10 tyX10 tyX10_ok nmX10 hown hK hP hD hS 0 rfl rfl 1 (by decide) (hts _ q15_14) (fun _ h9 => h9) rfl (by decide +kernel) rfl rfl (Nat.le_of_ble_eq_true rfl) dX10_putNumber_37 (fun H locs hP hD hS => ?_)
  have hP : va_P g.1 vwCl [(h0, .inr (10, [.ref tp, .int 3, h0_reader, h0_draft, h0_told, h0_course, h0_now, h0_history, h0_boxes, h0_boxFilled, h0_lying, h0_outlook, h0_sightings, .int h0_time])), (tp, .inl (gB g, 1600, .inl f15))] H := hP
  have hD : va_D A [(h0, .inr (10, [.ref tp, .int 3, h0_reader, h0_draft, h0_told, h0_course, h0_now, h0_history, h0_boxes, h0_boxFilled, h0_lying, h0_outlook, h0_sightings, .int h0_time])), (tp, .inl (gB g, 1600, .inl f15))] := hD
  refine lv_iinc (v := 0) (lv' := [(2, .int 0), (0, .ref h0), (1, .int p0)]) hx hb dX10_putNumber_40 hl (k := 0) rfl (by decide) (by decide) rfl (fun ls hl => ?_)
  refine lv_goto (tgt := 3) hx hb dX10_putNumber_43 (by decide) ?_
  refine lv_iload_n hx hb dX10_putNumber_3 rfl (lv_at hl 0 rfl) ?_
  refine lv_if_lt (tgt := 46) hx hb dX10_putNumber_4 (by decide) (fun c16 => absurd c16 (by decide)) (fun _ => ?_)
  refine lv_aload_n hx hb dX10_putNumber_7 rfl (lv_at hl 1 rfl) ?_
  refine va_get (D := g.1) (ci := 10) (v := Value.int 3) (C := RX10) (T := TX10) (N := 14) hx hb hts inlX10 hown hK hP 0 rfl rfl 1 (by decide) (hts _ q15_14) (fun _ h9 => h9) rfl dX10_putNumber_8 ?_
  refine lv_sipush (v := 1600) hx hb dX10_putNumber_11 (by decide) ?_
  refine lv_icmp_ge (tgt := 46) hx hb dX10_putNumber_14 (by decide) (fun c17 => absurd c17 (by decide)) (fun _ => ?_)
  refine lv_aload_n hx hb dX10_putNumber_17 rfl (lv_at hl 1 rfl) ?_
  refine va_get (D := g.1) (ci := 10) (v := Value.ref tp) (C := RX10) (T := TX10) (N := 14) hx hb hts inlX10 hown hK hP 0 rfl rfl 0 (by decide) (hts _ q1_13) (fun _ h9 => h9) rfl dX10_putNumber_18 ?_
  refine lv_aload_n hx hb dX10_putNumber_21 rfl (lv_at hl 1 rfl) ?_
  refine va_get (D := g.1) (ci := 10) (v := Value.int 3) (C := RX10) (T := TX10) (N := 14) hx hb hts inlX10 hown hK hP 0 rfl rfl 1 (by decide) (hts _ q15_14) (fun _ h9 => h9) rfl dX10_putNumber_22 ?_
  refine lv_iload_n hx hb dX10_putNumber_25 rfl (lv_at hl 2 rfl) ?_
  refine lv_iload_n hx hb dX10_putNumber_26 rfl (lv_at hl 0 rfl) ?_
  refine lv_ishr hx hb dX10_putNumber_27 ?_
  refine lv_topi (fun x18 ex18 => ?_)
  refine lv_i2b hx hb dX10_putNumber_28 rfl ?_
  refine lv_topi (fun x19 ex19 => ?_)
  refine ba_st hx hb hK hP hD hS 1 0 rfl rfl (3) rfl (by decide) (by decide) dX10_putNumber_29 (fun f20 H locs ef20 hP hD hS => ?_)
  have hP : va_P g.1 vwCl [(h0, .inr (10, [.ref tp, .int 3, h0_reader, h0_draft, h0_told, h0_course, h0_now, h0_history, h0_boxes, h0_boxFilled, h0_lying, h0_outlook, h0_sightings, .int h0_time])), (tp, .inl (gB g, 1600, .inl f20))] H := hP
  have hD : va_D A [(h0, .inr (10, [.ref tp, .int 3, h0_reader, h0_draft, h0_told, h0_course, h0_now, h0_history, h0_boxes, h0_boxFilled, h0_lying, h0_outlook, h0_sightings, .int h0_time])), (tp, .inl (gB g, 1600, .inl f20))] := hD
  refine lv_aload_n hx hb dX10_putNumber_30 rfl (lv_at hl 1 rfl) ?_
  refine lv_dup hx hb dX10_putNumber_31 rfl ?_
  refine va_get (D := g.1) (ci := 10) (v := Value.int 3) (C := RX10) (T := TX10) (N := 14) hx hb hts inlX10 hown hK hP 0 rfl rfl 1 (by decide) (hts _ q15_14) (fun _ h9 => h9) rfl dX10_putNumber_32 ?_
  refine lv_iconst (v := 1) hx hb dX10_putNumber_35 (by decide) ?_
  refine lv_iadd hx hb dX10_putNumber_36 ?_
  refine lv_tope (y := 4) (by decide) ?_
  refine va_put (D := g.1) (ci := 10) (v := Value.int 4) (ty := .int) (C := RX10) (T := TX10) (N := 14) hx hb hts inlX10 tyX10 tyX10_ok nmX10 hown hK hP hD hS 0 rfl rfl 1 (by decide) (hts _ q15_14) (fun _ h9 => h9) rfl (by decide +kernel) rfl rfl (Nat.le_of_ble_eq_true rfl) dX10_putNumber_37 (fun H locs hP hD hS => ?_)
  have hP : va_P g.1 vwCl [(h0, .inr (10, [.ref tp, .int 4, h0_reader, h0_draft, h0_told, h0_course, h0_now, h0_history, h0_boxes, h0_boxFilled, h0_lying, h0_outlook, h0_sightings, .int h0_time])), (tp, .inl (gB g, 1600, .inl f20))] H := hP
  have hD : va_D A [(h0, .inr (10, [.ref tp, .int 4, h0_reader, h0_draft, h0_told, h0_course, h0_now, h0_history, h0_boxes, h0_boxFilled, h0_lying, h0_outlook, h0_sightings, .int h0_time])), (tp, .inl (gB g, 1600, .inl f20))] := hD
  refine lv_iinc (v := (-8)) (lv' := [(2, .int (-8)), (0, .ref h0), (1, .int p0)]) hx hb dX10_putNumber_40 hl (k := 0) rfl (by decide) (by decide) rfl (fun ls hl => ?_)
  refine lv_goto (tgt := 3) hx hb dX10_putNumber_43 (by decide) ?_
  refine lv_iload_n hx hb dX10_putNumber_3 rfl (lv_at hl 0 rfl) ?_
  refine lv_if_lt (tgt := 46) hx hb dX10_putNumber_4 (by decide) (fun _ => ?_) (fun c21 => absurd (by decide) c21)
  exact xv hx hb hr hlocks hP hD hS ⟨f20, rfl⟩ (Nat.le_of_ble_eq_true rfl) (Nat.le_of_ble_eq_true rfl) dX10_putNumber_46

set_option maxHeartbeats 4000000 in
set_option maxRecDepth 100000 in
theorem c_X10_putNumber_4 {l : Launch} {g : Gx} {h0 tp : Nat} {p0 : Int32} {h0_reader : Value} {h0_draft : Value} {h0_told : Value} {h0_course : Value} {h0_now : Value} {h0_history : Value} {h0_boxes : Value} {h0_boxFilled : Value} {h0_lying : Value} {h0_outlook : Value} {h0_sightings : Value} {h0_time : Int32} {f_tp : Nat → Int32} : MV l g yX10_putNumber cX10_putNumber 3 2 0 0 [.ref h0, .int p0] [(h0, .inr (10, [.ref tp, .int 4, h0_reader, h0_draft, h0_told, h0_course, h0_now, h0_history, h0_boxes, h0_boxFilled, h0_lying, h0_outlook, h0_sightings, .int h0_time])), (tp, .inl (gB g, 1600, .inl f_tp))] (fun W' => ∃ (z0 : Nat → Int32), W' = [(h0, .inr (10, [.ref tp, .int 8, h0_reader, h0_draft, h0_told, h0_course, h0_now, h0_history, h0_boxes, h0_boxFilled, h0_lying, h0_outlook, h0_sightings, .int h0_time])), (tp, .inl (gB g, 1600, .inl z0))]) := by
  refine MVof (by decide) (Nat.le_of_ble_eq_true rfl) ?_
  intro p e s m below meth c A ls H locs hcx hA hP hD hS hl
  obtain ⟨hx, hb, hml, hr, hlocks, hown, hts, hE, hnm⟩ := id hcx
  have hown : s.vm.findClass RX10 = some m.cls := hown
  have hK := hE.1
  have hl : lv_has ls 3 [(0, .ref h0), (1, .int p0)] := hl
  refine lv_bipush (v := 24) hx hb dX10_putNumber_0 (by decide) ?_
  refine lv_istore_n (lv' := [(2, .int 24), (0, .ref h0), (1, .int p0)]) hx hb dX10_putNumber_2 rfl hl (by decide) rfl (fun ls hl => ?_)
  refine lv_iload_n hx hb dX10_putNumber_3 rfl (lv_at hl 0 rfl) ?_
  refine lv_if_lt (tgt := 46) hx hb dX10_putNumber_4 (by decide) (fun c1 => absurd c1 (by decide)) (fun _ => ?_)
  refine lv_aload_n hx hb dX10_putNumber_7 rfl (lv_at hl 1 rfl) ?_
  refine va_get (D := g.1) (ci := 10) (v := Value.int 4) (C := RX10) (T := TX10) (N := 14) hx hb hts inlX10 hown hK hP 0 rfl rfl 1 (by decide) (hts _ q15_14) (fun _ h9 => h9) rfl dX10_putNumber_8 ?_
  refine lv_sipush (v := 1600) hx hb dX10_putNumber_11 (by decide) ?_
  refine lv_icmp_ge (tgt := 46) hx hb dX10_putNumber_14 (by decide) (fun c2 => absurd c2 (by decide)) (fun _ => ?_)
  refine lv_aload_n hx hb dX10_putNumber_17 rfl (lv_at hl 1 rfl) ?_
  refine va_get (D := g.1) (ci := 10) (v := Value.ref tp) (C := RX10) (T := TX10) (N := 14) hx hb hts inlX10 hown hK hP 0 rfl rfl 0 (by decide) (hts _ q1_13) (fun _ h9 => h9) rfl dX10_putNumber_18 ?_
  refine lv_aload_n hx hb dX10_putNumber_21 rfl (lv_at hl 1 rfl) ?_
  refine va_get (D := g.1) (ci := 10) (v := Value.int 4) (C := RX10) (T := TX10) (N := 14) hx hb hts inlX10 hown hK hP 0 rfl rfl 1 (by decide) (hts _ q15_14) (fun _ h9 => h9) rfl dX10_putNumber_22 ?_
  refine lv_iload_n hx hb dX10_putNumber_25 rfl (lv_at hl 2 rfl) ?_
  refine lv_iload_n hx hb dX10_putNumber_26 rfl (lv_at hl 0 rfl) ?_
  refine lv_ishr hx hb dX10_putNumber_27 ?_
  refine lv_topi (fun x3 ex3 => ?_)
  refine lv_i2b hx hb dX10_putNumber_28 rfl ?_
  refine lv_topi (fun x4 ex4 => ?_)
  refine ba_st hx hb hK hP hD hS 1 0 rfl rfl (4) rfl (by decide) (by decide) dX10_putNumber_29 (fun f5 H locs ef5 hP hD hS => ?_)
  have hP : va_P g.1 vwCl [(h0, .inr (10, [.ref tp, .int 4, h0_reader, h0_draft, h0_told, h0_course, h0_now, h0_history, h0_boxes, h0_boxFilled, h0_lying, h0_outlook, h0_sightings, .int h0_time])), (tp, .inl (gB g, 1600, .inl f5))] H := hP
  have hD : va_D A [(h0, .inr (10, [.ref tp, .int 4, h0_reader, h0_draft, h0_told, h0_course, h0_now, h0_history, h0_boxes, h0_boxFilled, h0_lying, h0_outlook, h0_sightings, .int h0_time])), (tp, .inl (gB g, 1600, .inl f5))] := hD
  refine lv_aload_n hx hb dX10_putNumber_30 rfl (lv_at hl 1 rfl) ?_
  refine lv_dup hx hb dX10_putNumber_31 rfl ?_
  refine va_get (D := g.1) (ci := 10) (v := Value.int 4) (C := RX10) (T := TX10) (N := 14) hx hb hts inlX10 hown hK hP 0 rfl rfl 1 (by decide) (hts _ q15_14) (fun _ h9 => h9) rfl dX10_putNumber_32 ?_
  refine lv_iconst (v := 1) hx hb dX10_putNumber_35 (by decide) ?_
  refine lv_iadd hx hb dX10_putNumber_36 ?_
  refine lv_tope (y := 5) (by decide) ?_
  refine va_put (D := g.1) (ci := 10) (v := Value.int 5) (ty := .int) (C := RX10) (T := TX10) (N := 14) hx hb hts inlX10 tyX10 tyX10_ok nmX10 hown hK hP hD hS 0 rfl rfl 1 (by decide) (hts _ q15_14) (fun _ h9 => h9) rfl (by decide +kernel) rfl rfl (Nat.le_of_ble_eq_true rfl) dX10_putNumber_37 (fun H locs hP hD hS => ?_)
  have hP : va_P g.1 vwCl [(h0, .inr (10, [.ref tp, .int 5, h0_reader, h0_draft, h0_told, h0_course, h0_now, h0_history, h0_boxes, h0_boxFilled, h0_lying, h0_outlook, h0_sightings, .int h0_time])), (tp, .inl (gB g, 1600, .inl f5))] H := hP
  have hD : va_D A [(h0, .inr (10, [.ref tp, .int 5, h0_reader, h0_draft, h0_told, h0_course, h0_now, h0_history, h0_boxes, h0_boxFilled, h0_lying, h0_outlook, h0_sightings, .int h0_time])), (tp, .inl (gB g, 1600, .inl f5))] := hD
  refine lv_iinc (v := 16) (lv' := [(2, .int 16), (0, .ref h0), (1, .int p0)]) hx hb dX10_putNumber_40 hl (k := 0) rfl (by decide) (by decide) rfl (fun ls hl => ?_)
  refine lv_goto (tgt := 3) hx hb dX10_putNumber_43 (by decide) ?_
  refine lv_iload_n hx hb dX10_putNumber_3 rfl (lv_at hl 0 rfl) ?_
  refine lv_if_lt (tgt := 46) hx hb dX10_putNumber_4 (by decide) (fun c6 => absurd c6 (by decide)) (fun _ => ?_)
  refine lv_aload_n hx hb dX10_putNumber_7 rfl (lv_at hl 1 rfl) ?_
  refine va_get (D := g.1) (ci := 10) (v := Value.int 5) (C := RX10) (T := TX10) (N := 14) hx hb hts inlX10 hown hK hP 0 rfl rfl 1 (by decide) (hts _ q15_14) (fun _ h9 => h9) rfl dX10_putNumber_8 ?_
  refine lv_sipush (v := 1600) hx hb dX10_putNumber_11 (by decide) ?_
  refine lv_icmp_ge (tgt := 46) hx hb dX10_putNumber_14 (by decide) (fun c7 => absurd c7 (by decide)) (fun _ => ?_)
  refine lv_aload_n hx hb dX10_putNumber_17 rfl (lv_at hl 1 rfl) ?_
  refine va_get (D := g.1) (ci := 10) (v := Value.ref tp) (C := RX10) (T := TX10) (N := 14) hx hb hts inlX10 hown hK hP 0 rfl rfl 0 (by decide) (hts _ q1_13) (fun _ h9 => h9) rfl dX10_putNumber_18 ?_
  refine lv_aload_n hx hb dX10_putNumber_21 rfl (lv_at hl 1 rfl) ?_
  refine va_get (D := g.1) (ci := 10) (v := Value.int 5) (C := RX10) (T := TX10) (N := 14) hx hb hts inlX10 hown hK hP 0 rfl rfl 1 (by decide) (hts _ q15_14) (fun _ h9 => h9) rfl dX10_putNumber_22 ?_
  refine lv_iload_n hx hb dX10_putNumber_25 rfl (lv_at hl 2 rfl) ?_
  refine lv_iload_n hx hb dX10_putNumber_26 rfl (lv_at hl 0 rfl) ?_
  refine lv_ishr hx hb dX10_putNumber_27 ?_
  refine lv_topi (fun x8 ex8 => ?_)
  refine lv_i2b hx hb dX10_putNumber_28 rfl ?_
  refine lv_topi (fun x9 ex9 => ?_)
  refine ba_st hx hb hK hP hD hS 1 0 rfl rfl (5) rfl (by decide) (by decide) dX10_putNumber_29 (fun f10 H locs ef10 hP hD hS => ?_)
  have hP : va_P g.1 vwCl [(h0, .inr (10, [.ref tp, .int 5, h0_reader, h0_draft, h0_told, h0_course, h0_now, h0_history, h0_boxes, h0_boxFilled, h0_lying, h0_outlook, h0_sightings, .int h0_time])), (tp, .inl (gB g, 1600, .inl f10))] H := hP
  have hD : va_D A [(h0, .inr (10, [.ref tp, .int 5, h0_reader, h0_draft, h0_told, h0_course, h0_now, h0_history, h0_boxes, h0_boxFilled, h0_lying, h0_outlook, h0_sightings, .int h0_time])), (tp, .inl (gB g, 1600, .inl f10))] := hD
  refine lv_aload_n hx hb dX10_putNumber_30 rfl (lv_at hl 1 rfl) ?_
  refine lv_dup hx hb dX10_putNumber_31 rfl ?_
  refine va_get (D := g.1) (ci := 10) (v := Value.int 5) (C := RX10) (T := TX10) (N := 14) hx hb hts inlX10 hown hK hP 0 rfl rfl 1 (by decide) (hts _ q15_14) (fun _ h9 => h9) rfl dX10_putNumber_32 ?_
  refine lv_iconst (v := 1) hx hb dX10_putNumber_35 (by decide) ?_
  refine lv_iadd hx hb dX10_putNumber_36 ?_
  refine lv_tope (y := 6) (by decide) ?_
  refine va_put (D := g.1) (ci := 10) (v := Value.int 6) (ty := .int) (C := RX10) (T := TX10) (N := 14) hx hb hts inlX10 tyX10 tyX10_ok nmX10 hown hK hP hD hS 0 rfl rfl 1 (by decide) (hts _ q15_14) (fun _ h9 => h9) rfl (by decide +kernel) rfl rfl (Nat.le_of_ble_eq_true rfl) dX10_putNumber_37 (fun H locs hP hD hS => ?_)
  have hP : va_P g.1 vwCl [(h0, .inr (10, [.ref tp, .int 6, h0_reader, h0_draft, h0_told, h0_course, h0_now, h0_history, h0_boxes, h0_boxFilled, h0_lying, h0_outlook, h0_sightings, .int h0_time])), (tp, .inl (gB g, 1600, .inl f10))] H := hP
  have hD : va_D A [(h0, .inr (10, [.ref tp, .int 6, h0_reader, h0_draft, h0_told, h0_course, h0_now, h0_history, h0_boxes, h0_boxFilled, h0_lying, h0_outlook, h0_sightings, .int h0_time])), (tp, .inl (gB g, 1600, .inl f10))] := hD
  refine lv_iinc (v := 8) (lv' := [(2, .int 8), (0, .ref h0), (1, .int p0)]) hx hb dX10_putNumber_40 hl (k := 0) rfl (by decide) (by decide) rfl (fun ls hl => ?_)
  refine lv_goto (tgt := 3) hx hb dX10_putNumber_43 (by decide) ?_
  refine lv_iload_n hx hb dX10_putNumber_3 rfl (lv_at hl 0 rfl) ?_
  refine lv_if_lt (tgt := 46) hx hb dX10_putNumber_4 (by decide) (fun c11 => absurd c11 (by decide)) (fun _ => ?_)
  refine lv_aload_n hx hb dX10_putNumber_7 rfl (lv_at hl 1 rfl) ?_
  refine va_get (D := g.1) (ci := 10) (v := Value.int 6) (C := RX10) (T := TX10) (N := 14) hx hb hts inlX10 hown hK hP 0 rfl rfl 1 (by decide) (hts _ q15_14) (fun _ h9 => h9) rfl dX10_putNumber_8 ?_
  refine lv_sipush (v := 1600) hx hb dX10_putNumber_11 (by decide) ?_
  refine lv_icmp_ge (tgt := 46) hx hb dX10_putNumber_14 (by decide) (fun c12 => absurd c12 (by decide)) (fun _ => ?_)
  refine lv_aload_n hx hb dX10_putNumber_17 rfl (lv_at hl 1 rfl) ?_
  refine va_get (D := g.1) (ci := 10) (v := Value.ref tp) (C := RX10) (T := TX10) (N := 14) hx hb hts inlX10 hown hK hP 0 rfl rfl 0 (by decide) (hts _ q1_13) (fun _ h9 => h9) rfl dX10_putNumber_18 ?_
  refine lv_aload_n hx hb dX10_putNumber_21 rfl (lv_at hl 1 rfl) ?_
  refine va_get (D := g.1) (ci := 10) (v := Value.int 6) (C := RX10) (T := TX10) (N := 14) hx hb hts inlX10 hown hK hP 0 rfl rfl 1 (by decide) (hts _ q15_14) (fun _ h9 => h9) rfl dX10_putNumber_22 ?_
  refine lv_iload_n hx hb dX10_putNumber_25 rfl (lv_at hl 2 rfl) ?_
  refine lv_iload_n hx hb dX10_putNumber_26 rfl (lv_at hl 0 rfl) ?_
  refine lv_ishr hx hb dX10_putNumber_27 ?_
  refine lv_topi (fun x13 ex13 => ?_)
  refine lv_i2b hx hb dX10_putNumber_28 rfl ?_
  refine lv_topi (fun x14 ex14 => ?_)
  refine ba_st hx hb hK hP hD hS 1 0 rfl rfl (6) rfl (by decide) (by decide) dX10_putNumber_29 (fun f15 H locs ef15 hP hD hS => ?_)
  have hP : va_P g.1 vwCl [(h0, .inr (10, [.ref tp, .int 6, h0_reader, h0_draft, h0_told, h0_course, h0_now, h0_history, h0_boxes, h0_boxFilled, h0_lying, h0_outlook, h0_sightings, .int h0_time])), (tp, .inl (gB g, 1600, .inl f15))] H := hP
  have hD : va_D A [(h0, .inr (10, [.ref tp, .int 6, h0_reader, h0_draft, h0_told, h0_course, h0_now, h0_history, h0_boxes, h0_boxFilled, h0_lying, h0_outlook, h0_sightings, .int h0_time])), (tp, .inl (gB g, 1600, .inl f15))] := hD
  refine lv_aload_n hx hb dX10_putNumber_30 rfl (lv_at hl 1 rfl) ?_
  refine lv_dup hx hb dX10_putNumber_31 rfl ?_
  refine va_get (D := g.1) (ci := 10) (v := Value.int 6) (C := RX10) (T := TX10) (N := 14) hx hb hts inlX10 hown hK hP 0 rfl rfl 1 (by decide) (hts _ q15_14) (fun _ h9 => h9) rfl dX10_putNumber_32 ?_
  refine lv_iconst (v := 1) hx hb dX10_putNumber_35 (by decide) ?_
  refine lv_iadd hx hb dX10_putNumber_36 ?_
  refine lv_tope (y := 7) (by decide) ?_
  refine va_put (D := g.1) (ci := 10) (v := Value.int 7) (ty := .int) (C := RX10) (T := TX10) (N := 14) hx hb hts inlX10 tyX10 tyX10_ok nmX10 hown hK hP hD hS 0 rfl rfl 1 (by decide) (hts _ q15_14) (fun _ h9 => h9) rfl (by decide +kernel) rfl rfl (Nat.le_of_ble_eq_true rfl) dX10_putNumber_37 (fun H locs hP hD hS => ?_)
  have hP : va_P g.1 vwCl [(h0, .inr (10, [.ref tp, .int 7, h0_reader, h0_draft, h0_told, h0_course, h0_now, h0_history, h0_boxes, h0_boxFilled, h0_lying, h0_outlook, h0_sightings, .int h0_time])), (tp, .inl (gB g, 1600, .inl f15))] H := hP
  have hD : va_D A [(h0, .inr (10, [.ref tp, .int 7, h0_reader, h0_draft, h0_told, h0_course, h0_now, h0_history, h0_boxes, h0_boxFilled, h0_lying, h0_outlook, h0_sightings, .int h0_time])), (tp, .inl (gB g, 1600, .inl f15))] := hD
  refine lv_iinc (v := 0) (lv' := [(2, .int 0), (0, .ref h0), (1, .int p0)]) hx hb dX10_putNumber_40 hl (k := 0) rfl (by decide) (by decide) rfl (fun ls hl => ?_)
  refine lv_goto (tgt := 3) hx hb dX10_putNumber_43 (by decide) ?_
  refine lv_iload_n hx hb dX10_putNumber_3 rfl (lv_at hl 0 rfl) ?_
  refine lv_if_lt (tgt := 46) hx hb dX10_putNumber_4 (by decide) (fun c16 => absurd c16 (by decide)) (fun _ => ?_)
  refine lv_aload_n hx hb dX10_putNumber_7 rfl (lv_at hl 1 rfl) ?_
  refine va_get (D := g.1) (ci := 10) (v := Value.int 7) (C := RX10) (T := TX10) (N := 14) hx hb hts inlX10 hown hK hP 0 rfl rfl 1 (by decide) (hts _ q15_14) (fun _ h9 => h9) rfl dX10_putNumber_8 ?_
  refine lv_sipush (v := 1600) hx hb dX10_putNumber_11 (by decide) ?_
  refine lv_icmp_ge (tgt := 46) hx hb dX10_putNumber_14 (by decide) (fun c17 => absurd c17 (by decide)) (fun _ => ?_)
  refine lv_aload_n hx hb dX10_putNumber_17 rfl (lv_at hl 1 rfl) ?_
  refine va_get (D := g.1) (ci := 10) (v := Value.ref tp) (C := RX10) (T := TX10) (N := 14) hx hb hts inlX10 hown hK hP 0 rfl rfl 0 (by decide) (hts _ q1_13) (fun _ h9 => h9) rfl dX10_putNumber_18 ?_
  refine lv_aload_n hx hb dX10_putNumber_21 rfl (lv_at hl 1 rfl) ?_
  refine va_get (D := g.1) (ci := 10) (v := Value.int 7) (C := RX10) (T := TX10) (N := 14) hx hb hts inlX10 hown hK hP 0 rfl rfl 1 (by decide) (hts _ q15_14) (fun _ h9 => h9) rfl dX10_putNumber_22 ?_
  refine lv_iload_n hx hb dX10_putNumber_25 rfl (lv_at hl 2 rfl) ?_
  refine lv_iload_n hx hb dX10_putNumber_26 rfl (lv_at hl 0 rfl) ?_
  refine lv_ishr hx hb dX10_putNumber_27 ?_
  refine lv_topi (fun x18 ex18 => ?_)
  refine lv_i2b hx hb dX10_putNumber_28 rfl ?_
  refine lv_topi (fun x19 ex19 => ?_)
  refine ba_st hx hb hK hP hD hS 1 0 rfl rfl (7) rfl (by decide) (by decide) dX10_putNumber_29 (fun f20 H locs ef20 hP hD hS => ?_)
  have hP : va_P g.1 vwCl [(h0, .inr (10, [.ref tp, .int 7, h0_reader, h0_draft, h0_told, h0_course, h0_now, h0_history, h0_boxes, h0_boxFilled, h0_lying, h0_outlook, h0_sightings, .int h0_time])), (tp, .inl (gB g, 1600, .inl f20))] H := hP
  have hD : va_D A [(h0, .inr (10, [.ref tp, .int 7, h0_reader, h0_draft, h0_told, h0_course, h0_now, h0_history, h0_boxes, h0_boxFilled, h0_lying, h0_outlook, h0_sightings, .int h0_time])), (tp, .inl (gB g, 1600, .inl f20))] := hD
  refine lv_aload_n hx hb dX10_putNumber_30 rfl (lv_at hl 1 rfl) ?_
  refine lv_dup hx hb dX10_putNumber_31 rfl ?_
  refine va_get (D := g.1) (ci := 10) (v := Value.int 7) (C := RX10) (T := TX10) (N := 14) hx hb hts inlX10 hown hK hP 0 rfl rfl 1 (by decide) (hts _ q15_14) (fun _ h9 => h9) rfl dX10_putNumber_32 ?_
  refine lv_iconst (v := 1) hx hb dX10_putNumber_35 (by decide) ?_
  refine lv_iadd hx hb dX10_putNumber_36 ?_
  refine lv_tope (y := 8) (by decide) ?_
  refine va_put (D := g.1) (ci := 10) (v := Value.int 8) (ty := .int) (C := RX10) (T := TX10) (N := 14) hx hb hts inlX10 tyX10 tyX10_ok nmX10 hown hK hP hD hS 0 rfl rfl 1 (by decide) (hts _ q15_14) (fun _ h9 => h9) rfl (by decide +kernel) rfl rfl (Nat.le_of_ble_eq_true rfl) dX10_putNumber_37 (fun H locs hP hD hS => ?_)
  have hP : va_P g.1 vwCl [(h0, .inr (10, [.ref tp, .int 8, h0_reader, h0_draft, h0_told, h0_course, h0_now, h0_history, h0_boxes, h0_boxFilled, h0_lying, h0_outlook, h0_sightings, .int h0_time])), (tp, .inl (gB g, 1600, .inl f20))] H := hP
  have hD : va_D A [(h0, .inr (10, [.ref tp, .int 8, h0_reader, h0_draft, h0_told, h0_course, h0_now, h0_history, h0_boxes, h0_boxFilled, h0_lying, h0_outlook, h0_sightings, .int h0_time])), (tp, .inl (gB g, 1600, .inl f20))] := hD
  refine lv_iinc (v := (-8)) (lv' := [(2, .int (-8)), (0, .ref h0), (1, .int p0)]) hx hb dX10_putNumber_40 hl (k := 0) rfl (by decide) (by decide) rfl (fun ls hl => ?_)
  refine lv_goto (tgt := 3) hx hb dX10_putNumber_43 (by decide) ?_
  refine lv_iload_n hx hb dX10_putNumber_3 rfl (lv_at hl 0 rfl) ?_
  refine lv_if_lt (tgt := 46) hx hb dX10_putNumber_4 (by decide) (fun _ => ?_) (fun c21 => absurd (by decide) c21)
  exact xv hx hb hr hlocks hP hD hS ⟨f20, rfl⟩ (Nat.le_of_ble_eq_true rfl) (Nat.le_of_ble_eq_true rfl) dX10_putNumber_46

set_option maxHeartbeats 4000000 in
set_option maxRecDepth 100000 in
theorem c_X10_putNumber_8 {l : Launch} {g : Gx} {h0 tp : Nat} {p0 : Int32} {h0_reader : Value} {h0_draft : Value} {h0_told : Value} {h0_course : Value} {h0_now : Value} {h0_history : Value} {h0_boxes : Value} {h0_boxFilled : Value} {h0_lying : Value} {h0_outlook : Value} {h0_sightings : Value} {h0_time : Int32} {f_tp : Nat → Int32} : MV l g yX10_putNumber cX10_putNumber 3 2 0 0 [.ref h0, .int p0] [(h0, .inr (10, [.ref tp, .int 8, h0_reader, h0_draft, h0_told, h0_course, h0_now, h0_history, h0_boxes, h0_boxFilled, h0_lying, h0_outlook, h0_sightings, .int h0_time])), (tp, .inl (gB g, 1600, .inl f_tp))] (fun W' => ∃ (z0 : Nat → Int32), W' = [(h0, .inr (10, [.ref tp, .int 12, h0_reader, h0_draft, h0_told, h0_course, h0_now, h0_history, h0_boxes, h0_boxFilled, h0_lying, h0_outlook, h0_sightings, .int h0_time])), (tp, .inl (gB g, 1600, .inl z0))]) := by
  refine MVof (by decide) (Nat.le_of_ble_eq_true rfl) ?_
  intro p e s m below meth c A ls H locs hcx hA hP hD hS hl
  obtain ⟨hx, hb, hml, hr, hlocks, hown, hts, hE, hnm⟩ := id hcx
  have hown : s.vm.findClass RX10 = some m.cls := hown
  have hK := hE.1
  have hl : lv_has ls 3 [(0, .ref h0), (1, .int p0)] := hl
  refine lv_bipush (v := 24) hx hb dX10_putNumber_0 (by decide) ?_
  refine lv_istore_n (lv' := [(2, .int 24), (0, .ref h0), (1, .int p0)]) hx hb dX10_putNumber_2 rfl hl (by decide) rfl (fun ls hl => ?_)
  refine lv_iload_n hx hb dX10_putNumber_3 rfl (lv_at hl 0 rfl) ?_
  refine lv_if_lt (tgt := 46) hx hb dX10_putNumber_4 (by decide) (fun c1 => absurd c1 (by decide)) (fun _ => ?_)
  refine lv_aload_n hx hb dX10_putNumber_7 rfl (lv_at hl 1 rfl) ?_
  refine va_get (D := g.1) (ci := 10) (v := Value.int 8) (C := RX10) (T := TX10) (N := 14) hx hb hts inlX10 hown hK hP 0 rfl rfl 1 (by decide) (hts _ q15_14) (fun _ h9 => h9) rfl dX10_putNumber_8 ?_
  refine lv_sipush (v := 1600) hx hb dX10_putNumber_11 (by decide) ?_
  refine lv_icmp_ge (tgt := 46) hx hb dX10_putNumber_14 (by decide) (fun c2 => absurd c2 (by decide)) (fun _ => ?_)
  refine lv_aload_n hx hb dX10_putNumber_17 rfl (lv_at hl 1 rfl) ?_
  refine va_get (D := g.1) (ci := 10) (v := Value.ref tp) (C := RX10) (T := TX10) (N := 14) hx hb hts inlX10 hown hK hP 0 rfl rfl 0 (by decide) (hts _ q1_13) (fun _ h9 => h9) rfl dX10_putNumber_18 ?_
  refine lv_aload_n hx hb dX10_putNumber_21 rfl (lv_at hl 1 rfl) ?_
  refine va_get (D := g.1) (ci := 10) (v := Value.int 8) (C := RX10) (T := TX10) (N := 14) hx hb hts inlX10 hown hK hP 0 rfl rfl 1 (by decide) (hts _ q15_14) (fun _ h9 => h9) rfl dX10_putNumber_22 ?_
  refine lv_iload_n hx hb dX10_putNumber_25 rfl (lv_at hl 2 rfl) ?_
  refine lv_iload_n hx hb dX10_putNumber_26 rfl (lv_at hl 0 rfl) ?_
  refine lv_ishr hx hb dX10_putNumber_27 ?_
  refine lv_topi (fun x3 ex3 => ?_)
  refine lv_i2b hx hb dX10_putNumber_28 rfl ?_
  refine lv_topi (fun x4 ex4 => ?_)
  refine ba_st hx hb hK hP hD hS 1 0 rfl rfl (8) rfl (by decide) (by decide) dX10_putNumber_29 (fun f5 H locs ef5 hP hD hS => ?_)
  have hP : va_P g.1 vwCl [(h0, .inr (10, [.ref tp, .int 8, h0_reader, h0_draft, h0_told, h0_course, h0_now, h0_history, h0_boxes, h0_boxFilled, h0_lying, h0_outlook, h0_sightings, .int h0_time])), (tp, .inl (gB g, 1600, .inl f5))] H := hP
  have hD : va_D A [(h0, .inr (10, [.ref tp, .int 8, h0_reader, h0_draft, h0_told, h0_course, h0_now, h0_history, h0_boxes, h0_boxFilled, h0_lying, h0_outlook, h0_sightings, .int h0_time])), (tp, .inl (gB g, 1600, .inl f5))] := hD
  refine lv_aload_n hx hb dX10_putNumber_30 rfl (lv_at hl 1 rfl) ?_
  refine lv_dup hx hb dX10_putNumber_31 rfl ?_
  refine va_get (D := g.1) (ci := 10) (v := Value.int 8) (C := RX10) (T := TX10) (N := 14) hx hb hts inlX10 hown hK hP 0 rfl rfl 1 (by decide) (hts _ q15_14) (fun _ h9 => h9) rfl dX10_putNumber_32 ?_
  refine lv_iconst (v := 1) hx hb dX10_putNumber_35 (by decide) ?_
  refine lv_iadd hx hb dX10_putNumber_36 ?_
  refine lv_tope (y := 9) (by decide) ?_
  refine va_put (D := g.1) (ci := 10) (v := Value.int 9) (ty := .int) (C := RX10) (T := TX10) (N := 14) hx hb hts inlX10 tyX10 tyX10_ok nmX10 hown hK hP hD hS 0 rfl rfl 1 (by decide) (hts _ q15_14) (fun _ h9 => h9) rfl (by decide +kernel) rfl rfl (Nat.le_of_ble_eq_true rfl) dX10_putNumber_37 (fun H locs hP hD hS => ?_)
  have hP : va_P g.1 vwCl [(h0, .inr (10, [.ref tp, .int 9, h0_reader, h0_draft, h0_told, h0_course, h0_now, h0_history, h0_boxes, h0_boxFilled, h0_lying, h0_outlook, h0_sightings, .int h0_time])), (tp, .inl (gB g, 1600, .inl f5))] H := hP
  have hD : va_D A [(h0, .inr (10, [.ref tp, .int 9, h0_reader, h0_draft, h0_told, h0_course, h0_now, h0_history, h0_boxes, h0_boxFilled, h0_lying, h0_outlook, h0_sightings, .int h0_time])), (tp, .inl (gB g, 1600, .inl f5))] := hD
  refine lv_iinc (v := 16) (lv' := [(2, .int 16), (0, .ref h0), (1, .int p0)]) hx hb dX10_putNumber_40 hl (k := 0) rfl (by decide) (by decide) rfl (fun ls hl => ?_)
  refine lv_goto (tgt := 3) hx hb dX10_putNumber_43 (by decide) ?_
  refine lv_iload_n hx hb dX10_putNumber_3 rfl (lv_at hl 0 rfl) ?_
  refine lv_if_lt (tgt := 46) hx hb dX10_putNumber_4 (by decide) (fun c6 => absurd c6 (by decide)) (fun _ => ?_)
  refine lv_aload_n hx hb dX10_putNumber_7 rfl (lv_at hl 1 rfl) ?_
  refine va_get (D := g.1) (ci := 10) (v := Value.int 9) (C := RX10) (T := TX10) (N := 14) hx hb hts inlX10 hown hK hP 0 rfl rfl 1 (by decide) (hts _ q15_14) (fun _ h9 => h9) rfl dX10_putNumber_8 ?_
  refine lv_sipush (v := 1600) hx hb dX10_putNumber_11 (by decide) ?_
  refine lv_icmp_ge (tgt := 46) hx hb dX10_putNumber_14 (by decide) (fun c7 => absurd c7 (by decide)) (fun _ => ?_)
  refine lv_aload_n hx hb dX10_putNumber_17 rfl (lv_at hl 1 rfl) ?_
  refine va_get (D := g.1) (ci := 10) (v := Value.ref tp) (C := RX10) (T := TX10) (N := 14) hx hb hts inlX10 hown hK hP 0 rfl rfl 0 (by decide) (hts _ q1_13) (fun _ h9 => h9) rfl dX10_putNumber_18 ?_
  refine lv_aload_n hx hb dX10_putNumber_21 rfl (lv_at hl 1 rfl) ?_
  refine va_get (D := g.1) (ci := 10) (v := Value.int 9) (C := RX10) (T := TX10) (N := 14) hx hb hts inlX10 hown hK hP 0 rfl rfl 1 (by decide) (hts _ q15_14) (fun _ h9 => h9) rfl dX10_putNumber_22 ?_
  refine lv_iload_n hx hb dX10_putNumber_25 rfl (lv_at hl 2 rfl) ?_
  refine lv_iload_n hx hb dX10_putNumber_26 rfl (lv_at hl 0 rfl) ?_
  refine lv_ishr hx hb dX10_putNumber_27 ?_
  refine lv_topi (fun x8 ex8 => ?_)
  refine lv_i2b hx hb dX10_putNumber_28 rfl ?_
  refine lv_topi (fun x9 ex9 => ?_)
  refine ba_st hx hb hK hP hD hS 1 0 rfl rfl (9) rfl (by decide) (by decide) dX10_putNumber_29 (fun f10 H locs ef10 hP hD hS => ?_)
  have hP : va_P g.1 vwCl [(h0, .inr (10, [.ref tp, .int 9, h0_reader, h0_draft, h0_told, h0_course, h0_now, h0_history, h0_boxes, h0_boxFilled, h0_lying, h0_outlook, h0_sightings, .int h0_time])), (tp, .inl (gB g, 1600, .inl f10))] H := hP
  have hD : va_D A [(h0, .inr (10, [.ref tp, .int 9, h0_reader, h0_draft, h0_told, h0_course, h0_now, h0_history, h0_boxes, h0_boxFilled, h0_lying, h0_outlook, h0_sightings, .int h0_time])), (tp, .inl (gB g, 1600, .inl f10))] := hD
  refine lv_aload_n hx hb dX10_putNumber_30 rfl (lv_at hl 1 rfl) ?_
  refine lv_dup hx hb dX10_putNumber_31 rfl ?_
  refine va_get (D := g.1) (ci := 10) (v := Value.int 9) (C := RX10) (T := TX10) (N := 14) hx hb hts inlX10 hown hK hP 0 rfl rfl 1 (by decide) (hts _ q15_14) (fun _ h9 => h9) rfl dX10_putNumber_32 ?_
  refine lv_iconst (v := 1) hx hb dX10_putNumber_35 (by decide) ?_
  refine lv_iadd hx hb dX10_putNumber_36 ?_
  refine lv_tope (y := 10) (by decide) ?_
  refine va_put (D := g.1) (ci := 10) (v := Value.int 10) (ty := .int) (C := RX10) (T := TX10) (N := 14) hx hb hts inlX10 tyX10 tyX10_ok nmX10 hown hK hP hD hS 0 rfl rfl 1 (by decide) (hts _ q15_14) (fun _ h9 => h9) rfl (by decide +kernel) rfl rfl (Nat.le_of_ble_eq_true rfl) dX10_putNumber_37 (fun H locs hP hD hS => ?_)
  have hP : va_P g.1 vwCl [(h0, .inr (10, [.ref tp, .int 10, h0_reader, h0_draft, h0_told, h0_course, h0_now, h0_history, h0_boxes, h0_boxFilled, h0_lying, h0_outlook, h0_sightings, .int h0_time])), (tp, .inl (gB g, 1600, .inl f10))] H := hP
  have hD : va_D A [(h0, .inr (10, [.ref tp, .int 10, h0_reader, h0_draft, h0_told, h0_course, h0_now, h0_history, h0_boxes, h0_boxFilled, h0_lying, h0_outlook, h0_sightings, .int h0_time])), (tp, .inl (gB g, 1600, .inl f10))] := hD
  refine lv_iinc (v := 8) (lv' := [(2, .int 8), (0, .ref h0), (1, .int p0)]) hx hb dX10_putNumber_40 hl (k := 0) rfl (by decide) (by decide) rfl (fun ls hl => ?_)
  refine lv_goto (tgt := 3) hx hb dX10_putNumber_43 (by decide) ?_
  refine lv_iload_n hx hb dX10_putNumber_3 rfl (lv_at hl 0 rfl) ?_
  refine lv_if_lt (tgt := 46) hx hb dX10_putNumber_4 (by decide) (fun c11 => absurd c11 (by decide)) (fun _ => ?_)
  refine lv_aload_n hx hb dX10_putNumber_7 rfl (lv_at hl 1 rfl) ?_
  refine va_get (D := g.1) (ci := 10) (v := Value.int 10) (C := RX10) (T := TX10) (N := 14) hx hb hts inlX10 hown hK hP 0 rfl rfl 1 (by decide) (hts _ q15_14) (fun _ h9 => h9) rfl dX10_putNumber_8 ?_
  refine lv_sipush (v := 1600) hx hb dX10_putNumber_11 (by decide) ?_
  refine lv_icmp_ge (tgt := 46) hx hb dX10_putNumber_14 (by decide) (fun c12 => absurd c12 (by decide)) (fun _ => ?_)
  refine lv_aload_n hx hb dX10_putNumber_17 rfl (lv_at hl 1 rfl) ?_
  refine va_get (D := g.1) (ci := 10) (v := Value.ref tp) (C := RX10) (T := TX10) (N := 14) hx hb hts inlX10 hown hK hP 0 rfl rfl 0 (by decide) (hts _ q1_13) (fun _ h9 => h9) rfl dX10_putNumber_18 ?_
  refine lv_aload_n hx hb dX10_putNumber_21 rfl (lv_at hl 1 rfl) ?_
  refine va_get (D := g.1) (ci := 10) (v := Value.int 10) (C := RX10) (T := TX10) (N := 14) hx hb hts inlX10 hown hK hP 0 rfl rfl 1 (by decide) (hts _ q15_14) (fun _ h9 => h9) rfl dX10_putNumber_22 ?_
  refine lv_iload_n hx hb dX10_putNumber_25 rfl (lv_at hl 2 rfl) ?_
  refine lv_iload_n hx hb dX10_putNumber_26 rfl (lv_at hl 0 rfl) ?_
  refine lv_ishr hx hb dX10_putNumber_27 ?_
  refine lv_topi (fun x13 ex13 => ?_)
  refine lv_i2b hx hb dX10_putNumber_28 rfl ?_
  refine lv_topi (fun x14 ex14 => ?_)
  refine ba_st hx hb hK hP hD hS 1 0 rfl rfl (10) rfl (by decide) (by decide) dX10_putNumber_29 (fun f15 H locs ef15 hP hD hS => ?_)
  have hP : va_P g.1 vwCl [(h0, .inr (10, [.ref tp, .int 10, h0_reader, h0_draft, h0_told, h0_course, h0_now, h0_history, h0_boxes, h0_boxFilled, h0_lying, h0_outlook, h0_sightings, .int h0_time])), (tp, .inl (gB g, 1600, .inl f15))] H := hP
  have hD : va_D A [(h0, .inr (10, [.ref tp, .int 10, h0_reader, h0_draft, h0_told, h0_course, h0_now, h0_history, h0_boxes, h0_boxFilled, h0_lying, h0_outlook, h0_sightings, .int h0_time])), (tp, .inl (gB g, 1600, .inl f15))] := hD
  refine lv_aload_n hx hb dX10_putNumber_30 rfl (lv_at hl 1 rfl) ?_
  refine lv_dup hx hb dX10_putNumber_31 rfl ?_
  refine va_get (D := g.1) (ci := 10) (v := Value.int 10) (C := RX10) (T := TX10) (N := 14) hx hb hts inlX10 hown hK hP 0 rfl rfl 1 (by decide) (hts _ q15_14) (fun _ h9 => h9) rfl dX10_putNumber_32 ?_
  refine lv_iconst (v := 1) hx hb dX10_putNumber_35 (by decide) ?_
  refine lv_iadd hx hb dX10_putNumber_36 ?_
  refine lv_tope (y := 11) (by decide) ?_
  refine va_put (D := g.1) (ci := 10) (v := Value.int 11) (ty := .int) (C := RX10) (T := TX10) (N := 14) hx hb hts inlX10 tyX10 tyX10_ok nmX10 hown hK hP hD hS 0 rfl rfl 1 (by decide) (hts _ q15_14) (fun _ h9 => h9) rfl (by decide +kernel) rfl rfl (Nat.le_of_ble_eq_true rfl) dX10_putNumber_37 (fun H locs hP hD hS => ?_)
  have hP : va_P g.1 vwCl [(h0, .inr (10, [.ref tp, .int 11, h0_reader, h0_draft, h0_told, h0_course, h0_now, h0_history, h0_boxes, h0_boxFilled, h0_lying, h0_outlook, h0_sightings, .int h0_time])), (tp, .inl (gB g, 1600, .inl f15))] H := hP
  have hD : va_D A [(h0, .inr (10, [.ref tp, .int 11, h0_reader, h0_draft, h0_told, h0_course, h0_now, h0_history, h0_boxes, h0_boxFilled, h0_lying, h0_outlook, h0_sightings, .int h0_time])), (tp, .inl (gB g, 1600, .inl f15))] := hD
  refine lv_iinc (v := 0) (lv' := [(2, .int 0), (0, .ref h0), (1, .int p0)]) hx hb dX10_putNumber_40 hl (k := 0) rfl (by decide) (by decide) rfl (fun ls hl => ?_)
  refine lv_goto (tgt := 3) hx hb dX10_putNumber_43 (by decide) ?_
  refine lv_iload_n hx hb dX10_putNumber_3 rfl (lv_at hl 0 rfl) ?_
  refine lv_if_lt (tgt := 46) hx hb dX10_putNumber_4 (by decide) (fun c16 => absurd c16 (by decide)) (fun _ => ?_)
  refine lv_aload_n hx hb dX10_putNumber_7 rfl (lv_at hl 1 rfl) ?_
  refine va_get (D := g.1) (ci := 10) (v := Value.int 11) (C := RX10) (T := TX10) (N := 14) hx hb hts inlX10 hown hK hP 0 rfl rfl 1 (by decide) (hts _ q15_14) (fun _ h9 => h9) rfl dX10_putNumber_8 ?_
  refine lv_sipush (v := 1600) hx hb dX10_putNumber_11 (by decide) ?_
  refine lv_icmp_ge (tgt := 46) hx hb dX10_putNumber_14 (by decide) (fun c17 => absurd c17 (by decide)) (fun _ => ?_)
  refine lv_aload_n hx hb dX10_putNumber_17 rfl (lv_at hl 1 rfl) ?_
  refine va_get (D := g.1) (ci := 10) (v := Value.ref tp) (C := RX10) (T := TX10) (N := 14) hx hb hts inlX10 hown hK hP 0 rfl rfl 0 (by decide) (hts _ q1_13) (fun _ h9 => h9) rfl dX10_putNumber_18 ?_
  refine lv_aload_n hx hb dX10_putNumber_21 rfl (lv_at hl 1 rfl) ?_
  refine va_get (D := g.1) (ci := 10) (v := Value.int 11) (C := RX10) (T := TX10) (N := 14) hx hb hts inlX10 hown hK hP 0 rfl rfl 1 (by decide) (hts _ q15_14) (fun _ h9 => h9) rfl dX10_putNumber_22 ?_
  refine lv_iload_n hx hb dX10_putNumber_25 rfl (lv_at hl 2 rfl) ?_
  refine lv_iload_n hx hb dX10_putNumber_26 rfl (lv_at hl 0 rfl) ?_
  refine lv_ishr hx hb dX10_putNumber_27 ?_
  refine lv_topi (fun x18 ex18 => ?_)
  refine lv_i2b hx hb dX10_putNumber_28 rfl ?_
  refine lv_topi (fun x19 ex19 => ?_)
  refine ba_st hx hb hK hP hD hS 1 0 rfl rfl (11) rfl (by decide) (by decide) dX10_putNumber_29 (fun f20 H locs ef20 hP hD hS => ?_)
  have hP : va_P g.1 vwCl [(h0, .inr (10, [.ref tp, .int 11, h0_reader, h0_draft, h0_told, h0_course, h0_now, h0_history, h0_boxes, h0_boxFilled, h0_lying, h0_outlook, h0_sightings, .int h0_time])), (tp, .inl (gB g, 1600, .inl f20))] H := hP
  have hD : va_D A [(h0, .inr (10, [.ref tp, .int 11, h0_reader, h0_draft, h0_told, h0_course, h0_now, h0_history, h0_boxes, h0_boxFilled, h0_lying, h0_outlook, h0_sightings, .int h0_time])), (tp, .inl (gB g, 1600, .inl f20))] := hD
  refine lv_aload_n hx hb dX10_putNumber_30 rfl (lv_at hl 1 rfl) ?_
  refine lv_dup hx hb dX10_putNumber_31 rfl ?_
  refine va_get (D := g.1) (ci := 10) (v := Value.int 11) (C := RX10) (T := TX10) (N := 14) hx hb hts inlX10 hown hK hP 0 rfl rfl 1 (by decide) (hts _ q15_14) (fun _ h9 => h9) rfl dX10_putNumber_32 ?_
  refine lv_iconst (v := 1) hx hb dX10_putNumber_35 (by decide) ?_
  refine lv_iadd hx hb dX10_putNumber_36 ?_
  refine lv_tope (y := 12) (by decide) ?_
  refine va_put (D := g.1) (ci := 10) (v := Value.int 12) (ty := .int) (C := RX10) (T := TX10) (N := 14) hx hb hts inlX10 tyX10 tyX10_ok nmX10 hown hK hP hD hS 0 rfl rfl 1 (by decide) (hts _ q15_14) (fun _ h9 => h9) rfl (by decide +kernel) rfl rfl (Nat.le_of_ble_eq_true rfl) dX10_putNumber_37 (fun H locs hP hD hS => ?_)
  have hP : va_P g.1 vwCl [(h0, .inr (10, [.ref tp, .int 12, h0_reader, h0_draft, h0_told, h0_course, h0_now, h0_history, h0_boxes, h0_boxFilled, h0_lying, h0_outlook, h0_sightings, .int h0_time])), (tp, .inl (gB g, 1600, .inl f20))] H := hP
  have hD : va_D A [(h0, .inr (10, [.ref tp, .int 12, h0_reader, h0_draft, h0_told, h0_course, h0_now, h0_history, h0_boxes, h0_boxFilled, h0_lying, h0_outlook, h0_sightings, .int h0_time])), (tp, .inl (gB g, 1600, .inl f20))] := hD
  refine lv_iinc (v := (-8)) (lv' := [(2, .int (-8)), (0, .ref h0), (1, .int p0)]) hx hb dX10_putNumber_40 hl (k := 0) rfl (by decide) (by decide) rfl (fun ls hl => ?_)
  refine lv_goto (tgt := 3) hx hb dX10_putNumber_43 (by decide) ?_
  refine lv_iload_n hx hb dX10_putNumber_3 rfl (lv_at hl 0 rfl) ?_
  refine lv_if_lt (tgt := 46) hx hb dX10_putNumber_4 (by decide) (fun _ => ?_) (fun c21 => absurd (by decide) c21)
  exact xv hx hb hr hlocks hP hD hS ⟨f20, rfl⟩ (Nat.le_of_ble_eq_true rfl) (Nat.le_of_ble_eq_true rfl) dX10_putNumber_46

set_option maxHeartbeats 4000000 in
set_option maxRecDepth 100000 in
theorem c_X10_putNumber_12 {l : Launch} {g : Gx} {h0 tp : Nat} {p0 : Int32} {h0_reader : Value} {h0_draft : Value} {h0_told : Value} {h0_course : Value} {h0_now : Value} {h0_history : Value} {h0_boxes : Value} {h0_boxFilled : Value} {h0_lying : Value} {h0_outlook : Value} {h0_sightings : Value} {h0_time : Int32} {f_tp : Nat → Int32} : MV l g yX10_putNumber cX10_putNumber 3 2 0 0 [.ref h0, .int p0] [(h0, .inr (10, [.ref tp, .int 12, h0_reader, h0_draft, h0_told, h0_course, h0_now, h0_history, h0_boxes, h0_boxFilled, h0_lying, h0_outlook, h0_sightings, .int h0_time])), (tp, .inl (gB g, 1600, .inl f_tp))] (fun W' => ∃ (z0 : Nat → Int32), W' = [(h0, .inr (10, [.ref tp, .int 16, h0_reader, h0_draft, h0_told, h0_course, h0_now, h0_history, h0_boxes, h0_boxFilled, h0_lying, h0_outlook, h0_sightings, .int h0_time])), (tp, .inl (gB g, 1600, .inl z0))]) := by
  refine MVof (by decide) (Nat.le_of_ble_eq_true rfl) ?_
  intro p e s m below meth c A ls H locs hcx hA hP hD hS hl
  obtain ⟨hx, hb, hml, hr, hlocks, hown, hts, hE, hnm⟩ := id hcx
  have hown : s.vm.findClass RX10 = some m.cls := hown
  have hK := hE.1
  have hl : lv_has ls 3 [(0, .ref h0), (1, .int p0)] := hl
  refine lv_bipush (v := 24) hx hb dX10_putNumber_0 (by decide) ?_
  refine lv_istore_n (lv' := [(2, .int 24), (0, .ref h0), (1, .int p0)]) hx hb dX10_putNumber_2 rfl hl (by decide) rfl (fun ls hl => ?_)
  refine lv_iload_n hx hb dX10_putNumber_3 rfl (lv_at hl 0 rfl) ?_
  refine lv_if_lt (tgt := 46) hx hb dX10_putNumber_4 (by decide) (fun c1 => absurd c1 (by decide)) (fun _ => ?_)
  refine lv_aload_n hx hb dX10_putNumber_7 rfl (lv_at hl 1 rfl) ?_
  refine va_get (D := g.1) (ci := 10) (v := Value.int 12) (C := RX10) (T := TX10) (N := 14) hx hb hts inlX10 hown hK hP 0 rfl rfl 1 (by decide) (hts _ q15_14) (fun _ h9 => h9) rfl dX10_putNumber_8 ?_
  refine lv_sipush (v := 1600) hx hb dX10_putNumber_11 (by decide) ?_
  refine lv_icmp_ge (tgt := 46) hx hb dX10_putNumber_14 (by decide) (fun c2 => absurd c2 (by decide)) (fun _ => ?_)
  refine lv_aload_n hx hb dX10_putNumber_17 rfl (lv_at hl 1 rfl) ?_
  refine va_get (D := g.1) (ci := 10) (v := Value.ref tp) (C := RX10) (T := TX10) (N := 14) hx hb hts inlX10 hown hK hP 0 rfl rfl 0 (by decide) (hts _ q1_13) (fun _ h9 => h9) rfl dX10_putNumber_18 ?_
  refine lv_aload_n hx hb dX10_putNumber_21 rfl (lv_at hl 1 rfl) ?_
  refine va_get (D := g.1) (ci := 10) (v := Value.int 12) (C := RX10) (T := TX10) (N := 14) hx hb hts inlX10 hown hK hP 0 rfl rfl 1 (by decide) (hts _ q15_14) (fun _ h9 => h9) rfl dX10_putNumber_22 ?_
  refine lv_iload_n hx hb dX10_putNumber_25 rfl (lv_at hl 2 rfl) ?_
  refine lv_iload_n hx hb dX10_putNumber_26 rfl (lv_at hl 0 rfl) ?_
  refine lv_ishr hx hb dX10_putNumber_27 ?_
  refine lv_topi (fun x3 ex3 => ?_)
  refine lv_i2b hx hb dX10_putNumber_28 rfl ?_
  refine lv_topi (fun x4 ex4 => ?_)
  refine ba_st hx hb hK hP hD hS 1 0 rfl rfl (12) rfl (by decide) (by decide) dX10_putNumber_29 (fun f5 H locs ef5 hP hD hS => ?_)
  have hP : va_P g.1 vwCl [(h0, .inr (10, [.ref tp, .int 12, h0_reader, h0_draft, h0_told, h0_course, h0_now, h0_history, h0_boxes, h0_boxFilled, h0_lying, h0_outlook, h0_sightings, .int h0_time])), (tp, .inl (gB g, 1600, .inl f5))] H := hP
  have hD : va_D A [(h0, .inr (10, [.ref tp, .int 12, h0_reader, h0_draft, h0_told, h0_course, h0_now, h0_history, h0_boxes, h0_boxFilled, h0_lying, h0_outlook, h0_sightings, .int h0_time])), (tp, .inl (gB g, 1600, .inl f5))] := hD
  refine lv_aload_n hx hb dX10_putNumber_30 rfl (lv_at hl 1 rfl) ?_
  refine lv_dup hx hb dX10_putNumber_31 rfl ?_
  refine va_get (D := g.1) (ci := 10) (v := Value.int 12) (C := RX10) (T := TX10) (N := 14) hx hb hts inlX10 hown hK hP 0 rfl rfl 1 (by decide) (hts _ q15_14) (fun _ h9 => h9) rfl dX10_putNumber_32 ?_
  refine lv_iconst (v := 1) hx hb dX10_putNumber_35 (by decide) ?_
  refine lv_iadd hx hb dX10_putNumber_36 ?_
  refine lv_tope (y := 13) (by decide) ?_
  refine va_put (D := g.1) (ci := 10) (v := Value.int 13) (ty := .int) (C := RX10) (T := TX10) (N := 14) hx hb hts inlX10 tyX10 tyX10_ok nmX10 hown hK hP hD hS 0 rfl rfl 1 (by decide) (hts _ q15_14) (fun _ h9 => h9) rfl (by decide +kernel) rfl rfl (Nat.le_of_ble_eq_true rfl) dX10_putNumber_37 (fun H locs hP hD hS => ?_)
  have hP : va_P g.1 vwCl [(h0, .inr (10, [.ref tp, .int 13, h0_reader, h0_draft, h0_told, h0_course, h0_now, h0_history, h0_boxes, h0_boxFilled, h0_lying, h0_outlook, h0_sightings, .int h0_time])), (tp, .inl (gB g, 1600, .inl f5))] H := hP
  have hD : va_D A [(h0, .inr (10, [.ref tp, .int 13, h0_reader, h0_draft, h0_told, h0_course, h0_now, h0_history, h0_boxes, h0_boxFilled, h0_lying, h0_outlook, h0_sightings, .int h0_time])), (tp, .inl (gB g, 1600, .inl f5))] := hD
  refine lv_iinc (v := 16) (lv' := [(2, .int 16), (0, .ref h0), (1, .int p0)]) hx hb dX10_putNumber_40 hl (k := 0) rfl (by decide) (by decide) rfl (fun ls hl => ?_)
  refine lv_goto (tgt := 3) hx hb dX10_putNumber_43 (by decide) ?_
  refine lv_iload_n hx hb dX10_putNumber_3 rfl (lv_at hl 0 rfl) ?_
  refine lv_if_lt (tgt := 46) hx hb dX10_putNumber_4 (by decide) (fun c6 => absurd c6 (by decide)) (fun _ => ?_)
  refine lv_aload_n hx hb dX10_putNumber_7 rfl (lv_at hl 1 rfl) ?_
  refine va_get (D := g.1) (ci := 10) (v := Value.int 13) (C := RX10) (T := TX10) (N := 14) hx hb hts inlX10 hown hK hP 0 rfl rfl 1 (by decide) (hts _ q15_14) (fun _ h9 => h9) rfl dX10_putNumber_8 ?_
  refine lv_sipush (v := 1600) hx hb dX10_putNumber_11 (by decide) ?_
  refine lv_icmp_ge (tgt := 46) hx hb dX10_putNumber_14 (by decide) (fun c7 => absurd c7 (by decide)) (fun _ => ?_)
  refine lv_aload_n hx hb dX10_putNumber_17 rfl (lv_at hl 1 rfl) ?_
  refine va_get (D := g.1) (ci := 10) (v := Value.ref tp) (C := RX10) (T := TX10) (N := 14) hx hb hts inlX10 hown hK hP 0 rfl rfl 0 (by decide) (hts _ q1_13) (fun _ h9 => h9) rfl dX10_putNumber_18 ?_
  refine lv_aload_n hx hb dX10_putNumber_21 rfl (lv_at hl 1 rfl) ?_
  refine va_get (D := g.1) (ci := 10) (v := Value.int 13) (C := RX10) (T := TX10) (N := 14) hx hb hts inlX10 hown hK hP 0 rfl rfl 1 (by decide) (hts _ q15_14) (fun _ h9 => h9) rfl dX10_putNumber_22 ?_
  refine lv_iload_n hx hb dX10_putNumber_25 rfl (lv_at hl 2 rfl) ?_
  refine lv_iload_n hx hb dX10_putNumber_26 rfl (lv_at hl 0 rfl) ?_
  refine lv_ishr hx hb dX10_putNumber_27 ?_
  refine lv_topi (fun x8 ex8 => ?_)
  refine lv_i2b hx hb dX10_putNumber_28 rfl ?_
  refine lv_topi (fun x9 ex9 => ?_)
  refine ba_st hx hb hK hP hD hS 1 0 rfl rfl (13) rfl (by decide) (by decide) dX10_putNumber_29 (fun f10 H locs ef10 hP hD hS => ?_)
  have hP : va_P g.1 vwCl [(h0, .inr (10, [.ref tp, .int 13, h0_reader, h0_draft, h0_told, h0_course, h0_now, h0_history, h0_boxes, h0_boxFilled, h0_lying, h0_outlook, h0_sightings, .int h0_time])), (tp, .inl (gB g, 1600, .inl f10))] H := hP
  have hD : va_D A [(h0, .inr (10, [.ref tp, .int 13, h0_reader, h0_draft, h0_told, h0_course, h0_now, h0_history, h0_boxes, h0_boxFilled, h0_lying, h0_outlook, h0_sightings, .int h0_time])), (tp, .inl (gB g, 1600, .inl f10))] := hD
  refine lv_aload_n hx hb dX10_putNumber_30 rfl (lv_at hl 1 rfl) ?_
  refine lv_dup hx hb dX10_putNumber_31 rfl ?_
  refine va_get (D := g.1) (ci := 10) (v := Value.int 13) (C := RX10) (T := TX10) (N := 14) hx hb hts inlX10 hown hK hP 0 rfl rfl 1 (by decide) (hts _ q15_14) (fun _ h9 => h9) rfl dX10_putNumber_32 ?_
  refine lv_iconst (v := 1) hx hb dX10_putNumber_35 (by decide) ?_
  refine lv_iadd hx hb dX10_putNumber_36 ?_
  refine lv_tope (y := 14) (by decide) ?_
  refine va_put (D := g.1) (ci := 10) (v := Value.int 14) (ty := .int) (C := RX10) (T := TX10) (N := 14) hx hb hts inlX10 tyX10 tyX10_ok nmX10 hown hK hP hD hS 0 rfl rfl 1 (by decide) (hts _ q15_14) (fun _ h9 => h9) rfl (by decide +kernel) rfl rfl (Nat.le_of_ble_eq_true rfl) dX10_putNumber_37 (fun H locs hP hD hS => ?_)
  have hP : va_P g.1 vwCl [(h0, .inr (10, [.ref tp, .int 14, h0_reader, h0_draft, h0_told, h0_course, h0_now, h0_history, h0_boxes, h0_boxFilled, h0_lying, h0_outlook, h0_sightings, .int h0_time])), (tp, .inl (gB g, 1600, .inl f10))] H := hP
  have hD : va_D A [(h0, .inr (10, [.ref tp, .int 14, h0_reader, h0_draft, h0_told, h0_course, h0_now, h0_history, h0_boxes, h0_boxFilled, h0_lying, h0_outlook, h0_sightings, .int h0_time])), (tp, .inl (gB g, 1600, .inl f10))] := hD
  refine lv_iinc (v := 8) (lv' := [(2, .int 8), (0, .ref h0), (1, .int p0)]) hx hb dX10_putNumber_40 hl (k := 0) rfl (by decide) (by decide) rfl (fun ls hl => ?_)
  refine lv_goto (tgt := 3) hx hb dX10_putNumber_43 (by decide) ?_
  refine lv_iload_n hx hb dX10_putNumber_3 rfl (lv_at hl 0 rfl) ?_
  refine lv_if_lt (tgt := 46) hx hb dX10_putNumber_4 (by decide) (fun c11 => absurd c11 (by decide)) (fun _ => ?_)
  refine lv_aload_n hx hb dX10_putNumber_7 rfl (lv_at hl 1 rfl) ?_
  refine va_get (D := g.1) (ci := 10) (v := Value.int 14) (C := RX10) (T := TX10) (N := 14) hx hb hts inlX10 hown hK hP 0 rfl rfl 1 (by decide) (hts _ q15_14) (fun _ h9 => h9) rfl dX10_putNumber_8 ?_
  refine lv_sipush (v := 1600) hx hb dX10_putNumber_11 (by decide) ?_
  refine lv_icmp_ge (tgt := 46) hx hb dX10_putNumber_14 (by decide) (fun c12 => absurd c12 (by decide)) (fun _ => ?_)
  refine lv_aload_n hx hb dX10_putNumber_17 rfl (lv_at hl 1 rfl) ?_
  refine va_get (D := g.1) (ci := 10) (v := Value.ref tp) (C := RX10) (T := TX10) (N := 14) hx hb hts inlX10 hown hK hP 0 rfl rfl 0 (by decide) (hts _ q1_13) (fun _ h9 => h9) rfl dX10_putNumber_18 ?_
  refine lv_aload_n hx hb dX10_putNumber_21 rfl (lv_at hl 1 rfl) ?_
  refine va_get (D := g.1) (ci := 10) (v := Value.int 14) (C := RX10) (T := TX10) (N := 14) hx hb hts inlX10 hown hK hP 0 rfl rfl 1 (by decide) (hts _ q15_14) (fun _ h9 => h9) rfl dX10_putNumber_22 ?_
  refine lv_iload_n hx hb dX10_putNumber_25 rfl (lv_at hl 2 rfl) ?_
  refine lv_iload_n hx hb dX10_putNumber_26 rfl (lv_at hl 0 rfl) ?_
  refine lv_ishr hx hb dX10_putNumber_27 ?_
  refine lv_topi (fun x13 ex13 => ?_)
  refine lv_i2b hx hb dX10_putNumber_28 rfl ?_
  refine lv_topi (fun x14 ex14 => ?_)
  refine ba_st hx hb hK hP hD hS 1 0 rfl rfl (14) rfl (by decide) (by decide) dX10_putNumber_29 (fun f15 H locs ef15 hP hD hS => ?_)
  have hP : va_P g.1 vwCl [(h0, .inr (10, [.ref tp, .int 14, h0_reader, h0_draft, h0_told, h0_course, h0_now, h0_history, h0_boxes, h0_boxFilled, h0_lying, h0_outlook, h0_sightings, .int h0_time])), (tp, .inl (gB g, 1600, .inl f15))] H := hP
  have hD : va_D A [(h0, .inr (10, [.ref tp, .int 14, h0_reader, h0_draft, h0_told, h0_course, h0_now, h0_history, h0_boxes, h0_boxFilled, h0_lying, h0_outlook, h0_sightings, .int h0_time])), (tp, .inl (gB g, 1600, .inl f15))] := hD
  refine lv_aload_n hx hb dX10_putNumber_30 rfl (lv_at hl 1 rfl) ?_
  refine lv_dup hx hb dX10_putNumber_31 rfl ?_
  refine va_get (D := g.1) (ci := 10) (v := Value.int 14) (C := RX10) (T := TX10) (N := 14) hx hb hts inlX10 hown hK hP 0 rfl rfl 1 (by decide) (hts _ q15_14) (fun _ h9 => h9) rfl dX10_putNumber_32 ?_
  refine lv_iconst (v := 1) hx hb dX10_putNumber_35 (by decide) ?_
  refine lv_iadd hx hb dX10_putNumber_36 ?_
  refine lv_tope (y := 15) (by decide) ?_
  refine va_put (D := g.1) (ci := 10) (v := Value.int 15) (ty := .int) (C := RX10) (T := TX10) (N := 14) hx hb hts inlX10 tyX10 tyX10_ok nmX10 hown hK hP hD hS 0 rfl rfl 1 (by decide) (hts _ q15_14) (fun _ h9 => h9) rfl (by decide +kernel) rfl rfl (Nat.le_of_ble_eq_true rfl) dX10_putNumber_37 (fun H locs hP hD hS => ?_)
  have hP : va_P g.1 vwCl [(h0, .inr (10, [.ref tp, .int 15, h0_reader, h0_draft, h0_told, h0_course, h0_now, h0_history, h0_boxes, h0_boxFilled, h0_lying, h0_outlook, h0_sightings, .int h0_time])), (tp, .inl (gB g, 1600, .inl f15))] H := hP
  have hD : va_D A [(h0, .inr (10, [.ref tp, .int 15, h0_reader, h0_draft, h0_told, h0_course, h0_now, h0_history, h0_boxes, h0_boxFilled, h0_lying, h0_outlook, h0_sightings, .int h0_time])), (tp, .inl (gB g, 1600, .inl f15))] := hD
  refine lv_iinc (v := 0) (lv' := [(2, .int 0), (0, .ref h0), (1, .int p0)]) hx hb dX10_putNumber_40 hl (k := 0) rfl (by decide) (by decide) rfl (fun ls hl => ?_)
  refine lv_goto (tgt := 3) hx hb dX10_putNumber_43 (by decide) ?_
  refine lv_iload_n hx hb dX10_putNumber_3 rfl (lv_at hl 0 rfl) ?_
  refine lv_if_lt (tgt := 46) hx hb dX10_putNumber_4 (by decide) (fun c16 => absurd c16 (by decide)) (fun _ => ?_)
  refine lv_aload_n hx hb dX10_putNumber_7 rfl (lv_at hl 1 rfl) ?_
  refine va_get (D := g.1) (ci := 10) (v := Value.int 15) (C := RX10) (T := TX10) (N := 14) hx hb hts inlX10 hown hK hP 0 rfl rfl 1 (by decide) (hts _ q15_14) (fun _ h9 => h9) rfl dX10_putNumber_8 ?_
  refine lv_sipush (v := 1600) hx hb dX10_putNumber_11 (by decide) ?_
  refine lv_icmp_ge (tgt := 46) hx hb dX10_putNumber_14 (by decide) (fun c17 => absurd c17 (by decide)) (fun _ => ?_)
  refine lv_aload_n hx hb dX10_putNumber_17 rfl (lv_at hl 1 rfl) ?_
  refine va_get (D := g.1) (ci := 10) (v := Value.ref tp) (C := RX10) (T := TX10) (N := 14) hx hb hts inlX10 hown hK hP 0 rfl rfl 0 (by decide) (hts _ q1_13) (fun _ h9 => h9) rfl dX10_putNumber_18 ?_
  refine lv_aload_n hx hb dX10_putNumber_21 rfl (lv_at hl 1 rfl) ?_
  refine va_get (D := g.1) (ci := 10) (v := Value.int 15) (C := RX10) (T := TX10) (N := 14) hx hb hts inlX10 hown hK hP 0 rfl rfl 1 (by decide) (hts _ q15_14) (fun _ h9 => h9) rfl dX10_putNumber_22 ?_
  refine lv_iload_n hx hb dX10_putNumber_25 rfl (lv_at hl 2 rfl) ?_
  refine lv_iload_n hx hb dX10_putNumber_26 rfl (lv_at hl 0 rfl) ?_
  refine lv_ishr hx hb dX10_putNumber_27 ?_
  refine lv_topi (fun x18 ex18 => ?_)
  refine lv_i2b hx hb dX10_putNumber_28 rfl ?_
  refine lv_topi (fun x19 ex19 => ?_)
  refine ba_st hx hb hK hP hD hS 1 0 rfl rfl (15) rfl (by decide) (by decide) dX10_putNumber_29 (fun f20 H locs ef20 hP hD hS => ?_)
  have hP : va_P g.1 vwCl [(h0, .inr (10, [.ref tp, .int 15, h0_reader, h0_draft, h0_told, h0_course, h0_now, h0_history, h0_boxes, h0_boxFilled, h0_lying, h0_outlook, h0_sightings, .int h0_time])), (tp, .inl (gB g, 1600, .inl f20))] H := hP
  have hD : va_D A [(h0, .inr (10, [.ref tp, .int 15, h0_reader, h0_draft, h0_told, h0_course, h0_now, h0_history, h0_boxes, h0_boxFilled, h0_lying, h0_outlook, h0_sightings, .int h0_time])), (tp, .inl (gB g, 1600, .inl f20))] := hD
  refine lv_aload_n hx hb dX10_putNumber_30 rfl (lv_at hl 1 rfl) ?_
  refine lv_dup hx hb dX10_putNumber_31 rfl ?_
  refine va_get (D := g.1) (ci := 10) (v := Value.int 15) (C := RX10) (T := TX10) (N := 14) hx hb hts inlX10 hown hK hP 0 rfl rfl 1 (by decide) (hts _ q15_14) (fun _ h9 => h9) rfl dX10_putNumber_32 ?_
  refine lv_iconst (v := 1) hx hb dX10_putNumber_35 (by decide) ?_
  refine lv_iadd hx hb dX10_putNumber_36 ?_
  refine lv_tope (y := 16) (by decide) ?_
  refine va_put (D := g.1) (ci := 10) (v := Value.int 16) (ty := .int) (C := RX10) (T := TX10) (N := 14) hx hb hts inlX10 tyX10 tyX10_ok nmX10 hown hK hP hD hS 0 rfl rfl 1 (by decide) (hts _ q15_14) (fun _ h9 => h9) rfl (by decide +kernel) rfl rfl (Nat.le_of_ble_eq_true rfl) dX10_putNumber_37 (fun H locs hP hD hS => ?_)
  have hP : va_P g.1 vwCl [(h0, .inr (10, [.ref tp, .int 16, h0_reader, h0_draft, h0_told, h0_course, h0_now, h0_history, h0_boxes, h0_boxFilled, h0_lying, h0_outlook, h0_sightings, .int h0_time])), (tp, .inl (gB g, 1600, .inl f20))] H := hP
  have hD : va_D A [(h0, .inr (10, [.ref tp, .int 16, h0_reader, h0_draft, h0_told, h0_course, h0_now, h0_history, h0_boxes, h0_boxFilled, h0_lying, h0_outlook, h0_sightings, .int h0_time])), (tp, .inl (gB g, 1600, .inl f20))] := hD
  refine lv_iinc (v := (-8)) (lv' := [(2, .int (-8)), (0, .ref h0), (1, .int p0)]) hx hb dX10_putNumber_40 hl (k := 0) rfl (by decide) (by decide) rfl (fun ls hl => ?_)
  refine lv_goto (tgt := 3) hx hb dX10_putNumber_43 (by decide) ?_
  refine lv_iload_n hx hb dX10_putNumber_3 rfl (lv_at hl 0 rfl) ?_
  refine lv_if_lt (tgt := 46) hx hb dX10_putNumber_4 (by decide) (fun _ => ?_) (fun c21 => absurd (by decide) c21)
  exact xv hx hb hr hlocks hP hD hS ⟨f20, rfl⟩ (Nat.le_of_ble_eq_true rfl) (Nat.le_of_ble_eq_true rfl) dX10_putNumber_46

set_option maxHeartbeats 4000000 in
set_option maxRecDepth 100000 in
theorem c_X10_putNumber_16 {l : Launch} {g : Gx} {h0 tp : Nat} {p0 : Int32} {h0_reader : Value} {h0_draft : Value} {h0_told : Value} {h0_course : Value} {h0_now : Value} {h0_history : Value} {h0_boxes : Value} {h0_boxFilled : Value} {h0_lying : Value} {h0_outlook : Value} {h0_sightings : Value} {h0_time : Int32} {f_tp : Nat → Int32} : MV l g yX10_putNumber cX10_putNumber 3 2 0 0 [.ref h0, .int p0] [(h0, .inr (10, [.ref tp, .int 16, h0_reader, h0_draft, h0_told, h0_course, h0_now, h0_history, h0_boxes, h0_boxFilled, h0_lying, h0_outlook, h0_sightings, .int h0_time])), (tp, .inl (gB g, 1600, .inl f_tp))] (fun W' => ∃ (z0 : Nat → Int32), W' = [(h0, .inr (10, [.ref tp, .int 20, h0_reader, h0_draft, h0_told, h0_course, h0_now, h0_history, h0_boxes, h0_boxFilled, h0_lying, h0_outlook, h0_sightings, .int h0_time])), (tp, .inl (gB g, 1600, .inl z0))]) := by
  refine MVof (by decide) (Nat.le_of_ble_eq_true rfl) ?_
  intro p e s m below meth c A ls H locs hcx hA hP hD hS hl
  obtain ⟨hx, hb, hml, hr, hlocks, hown, hts, hE, hnm⟩ := id hcx
  have hown : s.vm.findClass RX10 = some m.cls := hown
  have hK := hE.1
  have hl : lv_has ls 3 [(0, .ref h0), (1, .int p0)] := hl
  refine lv_bipush (v := 24) hx hb dX10_putNumber_0 (by decide) ?_
  refine lv_istore_n (lv' := [(2, .int 24), (0, .ref h0), (1, .int p0)]) hx hb dX10_putNumber_2 rfl hl (by decide) rfl (fun ls hl => ?_)
  refine lv_iload_n hx hb dX10_putNumber_3 rfl (lv_at hl 0 rfl) ?_
  refine lv_if_lt (tgt := 46) hx hb dX10_putNumber_4 (by decide) (fun c1 => absurd c1 (by decide)) (fun _ => ?_)
  refine lv_aload_n hx hb dX10_putNumber_7 rfl (lv_at hl 1 rfl) ?_
  refine va_get (D := g.1) (ci := 10) (v := Value.int 16) (C := RX10) (T := TX10) (N := 14) hx hb hts inlX10 hown hK hP 0 rfl rfl 1 (by decide) (hts _ q15_14) (fun _ h9 => h9) rfl dX10_putNumber_8 ?_
  refine lv_sipush (v := 1600) hx hb dX10_putNumber_11 (by decide) ?_
  refine lv_icmp_ge (tgt := 46) hx hb dX10_putNumber_14 (by decide) (fun c2 => absurd c2 (by decide)) (fun _ => ?_)
  refine lv_aload_n hx hb dX10_putNumber_17 rfl (lv_at hl 1 rfl) ?_
  refine va_get (D := g.1) (ci := 10) (v := Value.ref tp) (C := RX10) (T := TX10) (N := 14) hx hb hts inlX10 hown hK hP 0 rfl rfl 0 (by decide) (hts _ q1_13) (fun _ h9 => h9) rfl dX10_putNumber_18 ?_
  refine lv_aload_n hx hb dX10_putNumber_21 rfl (lv_at hl 1 rfl) ?_
  refine va_get (D := g.1) (ci := 10) (v := Value.int 16) (C := RX10) (T := TX10) (N := 14) hx hb hts inlX10 hown hK hP 0 rfl rfl 1 (by decide) (hts _ q15_14) (fun _ h9 => h9) rfl dX10_putNumber_22 ?_
  refine lv_iload_n hx hb dX10_putNumber_25 rfl (lv_at hl 2 rfl) ?_
  refine lv_iload_n hx hb dX10_putNumber_26 rfl (lv_at hl 0 rfl) ?_
  refine lv_ishr hx hb dX10_putNumber_27 ?_
  refine lv_topi (fun x3 ex3 => ?_)
  refine lv_i2b hx hb dX10_putNumber_28 rfl ?_
  refine lv_topi (fun x4 ex4 => ?_)
  refine ba_st hx hb hK hP hD hS 1 0 rfl rfl (16) rfl (by decide) (by decide) dX10_putNumber_29 (fun f5 H locs ef5 hP hD hS => ?_)
  have hP : va_P g.1 vwCl [(h0, .inr (10, [.ref tp, .int 16, h0_reader, h0_draft, h0_told, h0_course, h0_now, h0_history, h0_boxes, h0_boxFilled, h0_lying, h0_outlook, h0_sightings, .int h0_time])), (tp, .inl (gB g, 1600, .inl f5))] H := hP
  have hD : va_D A [(h0, .inr (10, [.ref tp, .int 16, h0_reader, h0_draft, h0_told, h0_course, h0_now, h0_history, h0_boxes, h0_boxFilled, h0_lying, h0_outlook, h0_sightings, .int h0_time])), (tp, .inl (gB g, 1600, .inl f5))] := hD
  refine lv_aload_n hx hb dX10_putNumber_30 rfl (lv_at hl 1 rfl) ?_
  refine lv_dup hx hb dX10_putNumber_31 rfl ?_
  refine va_get (D := g.1) (ci := 10) (v := Value.int 16) (C := RX10) (T := TX10) (N := 14) hx hb hts inlX10 hown hK hP 0 rfl rfl 1 (by decide) (hts _ q15_14) (fun _ h9 => h9) rfl dX10_putNumber_32 ?_
  refine lv_iconst (v := 1) hx hb dX10_putNumber_35 (by decide) ?_
  refine lv_iadd hx hb dX10_putNumber_36 ?_
  refine lv_tope (y := 17) (by decide) ?_
  refine va_put (D := g.1) (ci := 10) (v := Value.int 17) (ty := .int) (C := RX10) (T := TX10) (N := 14) hx hb hts inlX10 tyX10 tyX10_ok nmX10 hown hK hP hD hS 0 rfl rfl 1 (by decide) (hts _ q15_14) (fun _ h9 => h9) rfl (by decide +kernel) rfl rfl (Nat.le_of_ble_eq_true rfl) dX10_putNumber_37 (fun H locs hP hD hS => ?_)
  have hP : va_P g.1 vwCl [(h0, .inr (10, [.ref tp, .int 17, h0_reader, h0_draft, h0_told, h0_course, h0_now, h0_history, h0_boxes, h0_boxFilled, h0_lying, h0_outlook, h0_sightings, .int h0_time])), (tp, .inl (gB g, 1600, .inl f5))] H := hP
  have hD : va_D A [(h0, .inr (10, [.ref tp, .int 17, h0_reader, h0_draft, h0_told, h0_course, h0_now, h0_history, h0_boxes, h0_boxFilled, h0_lying, h0_outlook, h0_sightings, .int h0_time])), (tp, .inl (gB g, 1600, .inl f5))] := hD
  refine lv_iinc (v := 16) (lv' := [(2, .int 16), (0, .ref h0), (1, .int p0)]) hx hb dX10_putNumber_40 hl (k := 0) rfl (by decide) (by decide) rfl (fun ls hl => ?_)
  refine lv_goto (tgt := 3) hx hb dX10_putNumber_43 (by decide) ?_
  refine lv_iload_n hx hb dX10_putNumber_3 rfl (lv_at hl 0 rfl) ?_
  refine lv_if_lt (tgt := 46) hx hb dX10_putNumber_4 (by decide) (fun c6 => absurd c6 (by decide)) (fun _ => ?_)
  refine lv_aload_n hx hb dX10_putNumber_7 rfl (lv_at hl 1 rfl) ?_
  refine va_get (D := g.1) (ci := 10) (v := Value.int 17) (C := RX10) (T := TX10) (N := 14) hx hb hts inlX10 hown hK hP 0 rfl rfl 1 (by decide) (hts _ q15_14) (fun _ h9 => h9) rfl dX10_putNumber_8 ?_
  refine lv_sipush (v := 1600) hx hb dX10_putNumber_11 (by decide) ?_
  refine lv_icmp_ge (tgt := 46) hx hb dX10_putNumber_14 (by decide) (fun c7 => absurd c7 (by decide)) (fun _ => ?_)
  refine lv_aload_n hx hb dX10_putNumber_17 rfl (lv_at hl 1 rfl) ?_
  refine va_get (D := g.1) (ci := 10) (v := Value.ref tp) (C := RX10) (T := TX10) (N := 14) hx hb hts inlX10 hown hK hP 0 rfl rfl 0 (by decide) (hts _ q1_13) (fun _ h9 => h9) rfl dX10_putNumber_18 ?_
  refine lv_aload_n hx hb dX10_putNumber_21 rfl (lv_at hl 1 rfl) ?_
  refine va_get (D := g.1) (ci := 10) (v := Value.int 17) (C := RX10) (T := TX10) (N := 14) hx hb hts inlX10 hown hK hP 0 rfl rfl 1 (by decide) (hts _ q15_14) (fun _ h9 => h9) rfl dX10_putNumber_22 ?_
  refine lv_iload_n hx hb dX10_putNumber_25 rfl (lv_at hl 2 rfl) ?_
  refine lv_iload_n hx hb dX10_putNumber_26 rfl (lv_at hl 0 rfl) ?_
  refine lv_ishr hx hb dX10_putNumber_27 ?_
  refine lv_topi (fun x8 ex8 => ?_)
  refine lv_i2b hx hb dX10_putNumber_28 rfl ?_
  refine lv_topi (fun x9 ex9 => ?_)
  refine ba_st hx hb hK hP hD hS 1 0 rfl rfl (17) rfl (by decide) (by decide) dX10_putNumber_29 (fun f10 H locs ef10 hP hD hS => ?_)
  have hP : va_P g.1 vwCl [(h0, .inr (10, [.ref tp, .int 17, h0_reader, h0_draft, h0_told, h0_course, h0_now, h0_history, h0_boxes, h0_boxFilled, h0_lying, h0_outlook, h0_sightings, .int h0_time])), (tp, .inl (gB g, 1600, .inl f10))] H := hP
  have hD : va_D A [(h0, .inr (10, [.ref tp, .int 17, h0_reader, h0_draft, h0_told, h0_course, h0_now, h0_history, h0_boxes, h0_boxFilled, h0_lying, h0_outlook, h0_sightings, .int h0_time])), (tp, .inl (gB g, 1600, .inl f10))] := hD
  refine lv_aload_n hx hb dX10_putNumber_30 rfl (lv_at hl 1 rfl) ?_
  refine lv_dup hx hb dX10_putNumber_31 rfl ?_
  refine va_get (D := g.1) (ci := 10) (v := Value.int 17) (C := RX10) (T := TX10) (N := 14) hx hb hts inlX10 hown hK hP 0 rfl rfl 1 (by decide) (hts _ q15_14) (fun _ h9 => h9) rfl dX10_putNumber_32 ?_
  refine lv_iconst (v := 1) hx hb dX10_putNumber_35 (by decide) ?_
  refine lv_iadd hx hb dX10_putNumber_36 ?_
  refine lv_tope (y := 18) (by decide) ?_
  refine va_put (D := g.1) (ci := 10) (v := Value.int 18) (ty := .int) (C := RX10) (T := TX10) (N := 14) hx hb hts inlX10 tyX10 tyX10_ok nmX10 hown hK hP hD hS 0 rfl rfl 1 (by decide) (hts _ q15_14) (fun _ h9 => h9) rfl (by decide +kernel) rfl rfl (Nat.le_of_ble_eq_true rfl) dX10_putNumber_37 (fun H locs hP hD hS => ?_)
  have hP : va_P g.1 vwCl [(h0, .inr (10, [.ref tp, .int 18, h0_reader, h0_draft, h0_told, h0_course, h0_now, h0_history, h0_boxes, h0_boxFilled, h0_lying, h0_outlook, h0_sightings, .int h0_time])), (tp, .inl (gB g, 1600, .inl f10))] H := hP
  have hD : va_D A [(h0, .inr (10, [.ref tp, .int 18, h0_reader, h0_draft, h0_told, h0_course, h0_now, h0_history, h0_boxes, h0_boxFilled, h0_lying, h0_outlook, h0_sightings, .int h0_time])), (tp, .inl (gB g, 1600, .inl f10))] := hD
  refine lv_iinc (v := 8) (lv' := [(2, .int 8), (0, .ref h0), (1, .int p0)]) hx hb dX10_putNumber_40 hl (k := 0) rfl (by decide) (by decide) rfl (fun ls hl => ?_)
  refine lv_goto (tgt := 3) hx hb dX10_putNumber_43 (by decide) ?_
  refine lv_iload_n hx hb dX10_putNumber_3 rfl (lv_at hl 0 rfl) ?_
  refine lv_if_lt (tgt := 46) hx hb dX10_putNumber_4 (by decide) (fun c11 => absurd c11 (by decide)) (fun _ => ?_)
  refine lv_aload_n hx hb dX10_putNumber_7 rfl (lv_at hl 1 rfl) ?_
  refine va_get (D := g.1) (ci := 10) (v := Value.int 18) (C := RX10) (T := TX10) (N := 14) hx hb hts inlX10 hown hK hP 0 rfl rfl 1 (by decide) (hts _ q15_14) (fun _ h9 => h9) rfl dX10_putNumber_8 ?_
  refine lv_sipush (v := 1600) hx hb dX10_putNumber_11 (by decide) ?_
  refine lv_icmp_ge (tgt := 46) hx hb dX10_putNumber_14 (by decide) (fun c12 => absurd c12 (by decide)) (fun _ => ?_)
  refine lv_aload_n hx hb dX10_putNumber_17 rfl (lv_at hl 1 rfl) ?_
  refine va_get (D := g.1) (ci := 10) (v := Value.ref tp) (C := RX10) (T := TX10) (N := 14) hx hb hts inlX10 hown hK hP 0 rfl rfl 0 (by decide) (hts _ q1_13) (fun _ h9 => h9) rfl dX10_putNumber_18 ?_
  refine lv_aload_n hx hb dX10_putNumber_21 rfl (lv_at hl 1 rfl) ?_
  refine va_get (D := g.1) (ci := 10) (v := Value.int 18) (C := RX10) (T := TX10) (N := 14) hx hb hts inlX10 hown hK hP 0 rfl rfl 1 (by decide) (hts _ q15_14) (fun _ h9 => h9) rfl dX10_putNumber_22 ?_
  refine lv_iload_n hx hb dX10_putNumber_25 rfl (lv_at hl 2 rfl) ?_
  refine lv_iload_n hx hb dX10_putNumber_26 rfl (lv_at hl 0 rfl) ?_
  refine lv_ishr hx hb dX10_putNumber_27 ?_
  refine lv_topi (fun x13 ex13 => ?_)
  refine lv_i2b hx hb dX10_putNumber_28 rfl ?_
  refine lv_topi (fun x14 ex14 => ?_)
  refine ba_st hx hb hK hP hD hS 1 0 rfl rfl (18) rfl (by decide) (by decide) dX10_putNumber_29 (fun f15 H locs ef15 hP hD hS => ?_)
  have hP : va_P g.1 vwCl [(h0, .inr (10, [.ref tp, .int 18, h0_reader, h0_draft, h0_told, h0_course, h0_now, h0_history, h0_boxes, h0_boxFilled, h0_lying, h0_outlook, h0_sightings, .int h0_time])), (tp, .inl (gB g, 1600, .inl f15))] H := hP
  have hD : va_D A [(h0, .inr (10, [.ref tp, .int 18, h0_reader, h0_draft, h0_told, h0_course, h0_now, h0_history, h0_boxes, h0_boxFilled, h0_lying, h0_outlook, h0_sightings, .int h0_time])), (tp, .inl (gB g, 1600, .inl f15))] := hD
  refine lv_aload_n hx hb dX10_putNumber_30 rfl (lv_at hl 1 rfl) ?_
  refine lv_dup hx hb dX10_putNumber_31 rfl ?_
  refine va_get (D := g.1) (ci := 10) (v := Value.int 18) (C := RX10) (T := TX10) (N := 14) hx hb hts inlX10 hown hK hP 0 rfl rfl 1 (by decide) (hts _ q15_14) (fun _ h9 => h9) rfl dX10_putNumber_32 ?_
  refine lv_iconst (v := 1) hx hb dX10_putNumber_35 (by decide) ?_
  refine lv_iadd hx hb dX10_putNumber_36 ?_
  refine lv_tope (y := 19) (by decide) ?_
  refine va_put (D := g.1) (ci := 10) (v := Value.int 19) (ty := .int) (C := RX10) (T := TX10) (N := 14) hx hb hts inlX10 tyX10 tyX10_ok nmX10 hown hK hP hD hS 0 rfl rfl 1 (by decide) (hts _ q15_14) (fun _ h9 => h9) rfl (by decide +kernel) rfl rfl (Nat.le_of_ble_eq_true rfl) dX10_putNumber_37 (fun H locs hP hD hS => ?_)
  have hP : va_P g.1 vwCl [(h0, .inr (10, [.ref tp, .int 19, h0_reader, h0_draft, h0_told, h0_course, h0_now, h0_history, h0_boxes, h0_boxFilled, h0_lying, h0_outlook, h0_sightings, .int h0_time])), (tp, .inl (gB g, 1600, .inl f15))] H := hP
  have hD : va_D A [(h0, .inr (10, [.ref tp, .int 19, h0_reader, h0_draft, h0_told, h0_course, h0_now, h0_history, h0_boxes, h0_boxFilled, h0_lying, h0_outlook, h0_sightings, .int h0_time])), (tp, .inl (gB g, 1600, .inl f15))] := hD
  refine lv_iinc (v := 0) (lv' := [(2, .int 0), (0, .ref h0), (1, .int p0)]) hx hb dX10_putNumber_40 hl (k := 0) rfl (by decide) (by decide) rfl (fun ls hl => ?_)
  refine lv_goto (tgt := 3) hx hb dX10_putNumber_43 (by decide) ?_
  refine lv_iload_n hx hb dX10_putNumber_3 rfl (lv_at hl 0 rfl) ?_
  refine lv_if_lt (tgt := 46) hx hb dX10_putNumber_4 (by decide) (fun c16 => absurd c16 (by decide)) (fun _ => ?_)
  refine lv_aload_n hx hb dX10_putNumber_7 rfl (lv_at hl 1 rfl) ?_
  refine va_get (D := g.1) (ci := 10) (v := Value.int 19) (C := RX10) (T := TX10) (N := 14) hx hb hts inlX10 hown hK hP 0 rfl rfl 1 (by decide) (hts _ q15_14) (fun _ h9 => h9) rfl dX10_putNumber_8 ?_
  refine lv_sipush (v := 1600) hx hb dX10_putNumber_11 (by decide) ?_
  refine lv_icmp_ge (tgt := 46) hx hb dX10_putNumber_14 (by decide) (fun c17 => absurd c17 (by decide)) (fun _ => ?_)
  refine lv_aload_n hx hb dX10_putNumber_17 rfl (lv_at hl 1 rfl) ?_
  refine va_get (D := g.1) (ci := 10) (v := Value.ref tp) (C := RX10) (T := TX10) (N := 14) hx hb hts inlX10 hown hK hP 0 rfl rfl 0 (by decide) (hts _ q1_13) (fun _ h9 => h9) rfl dX10_putNumber_18 ?_
  refine lv_aload_n hx hb dX10_putNumber_21 rfl (lv_at hl 1 rfl) ?_
  refine va_get (D := g.1) (ci := 10) (v := Value.int 19) (C := RX10) (T := TX10) (N := 14) hx hb hts inlX10 hown hK hP 0 rfl rfl 1 (by decide) (hts _ q15_14) (fun _ h9 => h9) rfl dX10_putNumber_22 ?_
  refine lv_iload_n hx hb dX10_putNumber_25 rfl (lv_at hl 2 rfl) ?_
  refine lv_iload_n hx hb dX10_putNumber_26 rfl (lv_at hl 0 rfl) ?_
  refine lv_ishr hx hb dX10_putNumber_27 ?_
  refine lv_topi (fun x18 ex18 => ?_)
  refine lv_i2b hx hb dX10_putNumber_28 rfl ?_
  refine lv_topi (fun x19 ex19 => ?_)
  refine ba_st hx hb hK hP hD hS 1 0 rfl rfl (19) rfl (by decide) (by decide) dX10_putNumber_29 (fun f20 H locs ef20 hP hD hS => ?_)
  have hP : va_P g.1 vwCl [(h0, .inr (10, [.ref tp, .int 19, h0_reader, h0_draft, h0_told, h0_course, h0_now, h0_history, h0_boxes, h0_boxFilled, h0_lying, h0_outlook, h0_sightings, .int h0_time])), (tp, .inl (gB g, 1600, .inl f20))] H := hP
  have hD : va_D A [(h0, .inr (10, [.ref tp, .int 19, h0_reader, h0_draft, h0_told, h0_course, h0_now, h0_history, h0_boxes, h0_boxFilled, h0_lying, h0_outlook, h0_sightings, .int h0_time])), (tp, .inl (gB g, 1600, .inl f20))] := hD
  refine lv_aload_n hx hb dX10_putNumber_30 rfl (lv_at hl 1 rfl) ?_
  refine lv_dup hx hb dX10_putNumber_31 rfl ?_
  refine va_get (D := g.1) (ci := 10) (v := Value.int 19) (C := RX10) (T := TX10) (N := 14) hx hb hts inlX10 hown hK hP 0 rfl rfl 1 (by decide) (hts _ q15_14) (fun _ h9 => h9) rfl dX10_putNumber_32 ?_
  refine lv_iconst (v := 1) hx hb dX10_putNumber_35 (by decide) ?_
  refine lv_iadd hx hb dX10_putNumber_36 ?_
  refine lv_tope (y := 20) (by decide) ?_
  refine va_put (D := g.1) (ci := 10) (v := Value.int 20) (ty := .int) (C := RX10) (T := TX10) (N := 14) hx hb hts inlX10 tyX10 tyX10_ok nmX10 hown hK hP hD hS 0 rfl rfl 1 (by decide) (hts _ q15_14) (fun _ h9 => h9) rfl (by decide +kernel) rfl rfl (Nat.le_of_ble_eq_true rfl) dX10_putNumber_37 (fun H locs hP hD hS => ?_)
  have hP : va_P g.1 vwCl [(h0, .inr (10, [.ref tp, .int 20, h0_reader, h0_draft, h0_told, h0_course, h0_now, h0_history, h0_boxes, h0_boxFilled, h0_lying, h0_outlook, h0_sightings, .int h0_time])), (tp, .inl (gB g, 1600, .inl f20))] H := hP
  have hD : va_D A [(h0, .inr (10, [.ref tp, .int 20, h0_reader, h0_draft, h0_told, h0_course, h0_now, h0_history, h0_boxes, h0_boxFilled, h0_lying, h0_outlook, h0_sightings, .int h0_time])), (tp, .inl (gB g, 1600, .inl f20))] := hD
  refine lv_iinc (v := (-8)) (lv' := [(2, .int (-8)), (0, .ref h0), (1, .int p0)]) hx hb dX10_putNumber_40 hl (k := 0) rfl (by decide) (by decide) rfl (fun ls hl => ?_)
  refine lv_goto (tgt := 3) hx hb dX10_putNumber_43 (by decide) ?_
  refine lv_iload_n hx hb dX10_putNumber_3 rfl (lv_at hl 0 rfl) ?_
  refine lv_if_lt (tgt := 46) hx hb dX10_putNumber_4 (by decide) (fun _ => ?_) (fun c21 => absurd (by decide) c21)
  exact xv hx hb hr hlocks hP hD hS ⟨f20, rfl⟩ (Nat.le_of_ble_eq_true rfl) (Nat.le_of_ble_eq_true rfl) dX10_putNumber_46

set_option maxHeartbeats 4000000 in
set_option maxRecDepth 100000 in
theorem c_X10_feed {l : Launch} {g : Gx} {h0 tp : Nat} {p0 : Int32} {p1 : Int32} {p2 : Int32} {p3 : Int32} {p4 : Int32} {h0_reader : Value} {h0_draft : Value} {h0_told : Value} {h0_course : Value} {h0_now : Value} {h0_history : Value} {h0_boxes : Value} {h0_boxFilled : Value} {h0_lying : Value} {h0_outlook : Value} {h0_sightings : Value} {h0_time : Int32} {f_tp : Nat → Int32} : MI l g yX10_feed cX10_feed 6 (some .int) 3 0 0 [.ref h0, .int p0, .int p1, .int p2, .int p3, .int p4] [(h0, .inr (10, [.ref tp, .int 0, h0_reader, h0_draft, h0_told, h0_course, h0_now, h0_history, h0_boxes, h0_boxFilled, h0_lying, h0_outlook, h0_sightings, .int h0_time])), (tp, .inl (gB g, 1600, .inl f_tp))] (fun r W' => 20 = r ∧ W' = []) := by
  refine MIof (by decide) (Nat.le_of_ble_eq_true rfl) ?_
  intro p e s m below meth c A ls H locs hcx hA hP hD hS hl
  obtain ⟨hx, hb, hml, hr, hlocks, hown, hts, hE, hnm⟩ := id hcx
  have hown : s.vm.findClass RX10 = some m.cls := hown
  have hK := hE.1
  have hl : lv_has ls 6 [(0, .ref h0), (1, .int p0), (2, .int p1), (3, .int p2), (4, .int p3), (5, .int p4)] := hl
  refine lv_aload_n hx hb dX10_feed_0 rfl (lv_at hl 0 rfl) ?_
  refine va_get (D := g.1) (ci := 10) (v := Value.int 0) (C := RX10) (T := TX10) (N := 14) hx hb hts inlX10 hown hK hP 0 rfl rfl 1 (by decide) (hts _ q15_14) (fun _ h9 => h9) rfl dX10_feed_1 ?_
  refine lv_bipush (v := 20) hx hb dX10_feed_4 (by decide) ?_
  refine lv_iadd hx hb dX10_feed_6 ?_
  refine lv_tope (y := 20) (by decide) ?_
  refine lv_sipush (v := 1600) hx hb dX10_feed_7 (by decide) ?_
  refine lv_icmp_le (tgt := 15) hx hb dX10_feed_10 (by decide) (fun _ => ?_) (fun c1 => absurd (by decide) c1)
  refine lv_aload_n hx hb dX10_feed_15 rfl (lv_at hl 0 rfl) ?_
  refine lv_iload_n hx hb dX10_feed_16 rfl (lv_at hl 1 rfl) ?_
  refine kV (wc := [(h0, .inr (10, [.ref tp, .int 0, h0_reader, h0_draft, h0_told, h0_course, h0_now, h0_history, h0_boxes, h0_boxFilled, h0_lying, h0_outlook, h0_sightings, .int h0_time])), (tp, .inl (gB g, 1600, .inl f_tp))]) (wr := []) (rV (As := [.int p0]) (rest := []) (meth2 := "") hcx (c_X10_putNumber_0 H.size) (gdV q15_15 q15_16 q15_17 q1_2 q15_18) dvX10_putNumber ⟨Nat.le_of_ble_eq_true rfl, Nat.le_of_ble_eq_true rfl⟩ (hP.sub [0, 1] rfl) (hD.sub [0, 1] (by decide) rfl) (va_recv hK hP (ci := 10) (q0 := 0) rfl rfl) rfl hl.1 rfl (Nat.le_of_ble_eq_true rfl) dX10_feed_17 ⟨Nat.le_of_ble_eq_true rfl, Nat.le_of_ble_eq_true rfl⟩) hP hD hS hA [0, 1] [] rfl rfl (by decide) (by decide) (fun W' H locs hw hP hD hS => ?_)
  obtain ⟨f2, rfl⟩ := hw
  have hP : va_P g.1 vwCl [(h0, .inr (10, [.ref tp, .int 4, h0_reader, h0_draft, h0_told, h0_course, h0_now, h0_history, h0_boxes, h0_boxFilled, h0_lying, h0_outlook, h0_sightings, .int h0_time])), (tp, .inl (gB g, 1600, .inl f2))] H := hP
  have hD : va_D A [(h0, .inr (10, [.ref tp, .int 4, h0_reader, h0_draft, h0_told, h0_course, h0_now, h0_history, h0_boxes, h0_boxFilled, h0_lying, h0_outlook, h0_sightings, .int h0_time])), (tp, .inl (gB g, 1600, .inl f2))] := hD
  refine lv_aload_n hx hb dX10_feed_20 rfl (lv_at hl 0 rfl) ?_
  refine lv_iload_n hx hb dX10_feed_21 rfl (lv_at hl 2 rfl) ?_
  refine kV (wc := [(h0, .inr (10, [.ref tp, .int 4, h0_reader, h0_draft, h0_told, h0_course, h0_now, h0_history, h0_boxes, h0_boxFilled, h0_lying, h0_outlook, h0_sightings, .int h0_time])), (tp, .inl (gB g, 1600, .inl f2))]) (wr := []) (rV (As := [.int p1]) (rest := []) (meth2 := "") hcx (c_X10_putNumber_4 H.size) (gdV q15_15 q15_16 q15_17 q1_2 q15_18) dvX10_putNumber ⟨Nat.le_of_ble_eq_true rfl, Nat.le_of_ble_eq_true rfl⟩ (hP.sub [0, 1] rfl) (hD.sub [0, 1] (by decide) rfl) (va_recv hK hP (ci := 10) (q0 := 0) rfl rfl) rfl hl.1 rfl (Nat.le_of_ble_eq_true rfl) dX10_feed_22 ⟨Nat.le_of_ble_eq_true rfl, Nat.le_of_ble_eq_true rfl⟩) hP hD hS hA [0, 1] [] rfl rfl (by decide) (by decide) (fun W' H locs hw hP hD hS => ?_)
  obtain ⟨f3, rfl⟩ := hw
  have hP : va_P g.1 vwCl [(h0, .inr (10, [.ref tp, .int 8, h0_reader, h0_draft, h0_told, h0_course, h0_now, h0_history, h0_boxes, h0_boxFilled, h0_lying, h0_outlook, h0_sightings, .int h0_time])), (tp, .inl (gB g, 1600, .inl f3))] H := hP
  have hD : va_D A [(h0, .inr (10, [.ref tp, .int 8, h0_reader, h0_draft, h0_told, h0_course, h0_now, h0_history, h0_boxes, h0_boxFilled, h0_lying, h0_outlook, h0_sightings, .int h0_time])), (tp, .inl (gB g, 1600, .inl f3))] := hD
  refine lv_aload_n hx hb dX10_feed_25 rfl (lv_at hl 0 rfl) ?_
  refine lv_iload_n hx hb dX10_feed_26 rfl (lv_at hl 3 rfl) ?_
  refine kV (wc := [(h0, .inr (10, [.ref tp, .int 8, h0_reader, h0_draft, h0_told, h0_course, h0_now, h0_history, h0_boxes, h0_boxFilled, h0_lying, h0_outlook, h0_sightings, .int h0_time])), (tp, .inl (gB g, 1600, .inl f3))]) (wr := []) (rV (As := [.int p2]) (rest := []) (meth2 := "") hcx (c_X10_putNumber_8 H.size) (gdV q15_15 q15_16 q15_17 q1_2 q15_18) dvX10_putNumber ⟨Nat.le_of_ble_eq_true rfl, Nat.le_of_ble_eq_true rfl⟩ (hP.sub [0, 1] rfl) (hD.sub [0, 1] (by decide) rfl) (va_recv hK hP (ci := 10) (q0 := 0) rfl rfl) rfl hl.1 rfl (Nat.le_of_ble_eq_true rfl) dX10_feed_27 ⟨Nat.le_of_ble_eq_true rfl, Nat.le_of_ble_eq_true rfl⟩) hP hD hS hA [0, 1] [] rfl rfl (by decide) (by decide) (fun W' H locs hw hP hD hS => ?_)
  obtain ⟨f4, rfl⟩ := hw
  have hP : va_P g.1 vwCl [(h0, .inr (10, [.ref tp, .int 12, h0_reader, h0_draft, h0_told, h0_course, h0_now, h0_history, h0_boxes, h0_boxFilled, h0_lying, h0_outlook, h0_sightings, .int h0_time])), (tp, .inl (gB g, 1600, .inl f4))] H := hP
  have hD : va_D A [(h0, .inr (10, [.ref tp, .int 12, h0_reader, h0_draft, h0_told, h0_course, h0_now, h0_history, h0_boxes, h0_boxFilled, h0_lying, h0_outlook, h0_sightings, .int h0_time])), (tp, .inl (gB g, 1600, .inl f4))] := hD
  refine lv_aload_n hx hb dX10_feed_30 rfl (lv_at hl 0 rfl) ?_
  refine lv_iload hx hb dX10_feed_31 (lv_at hl 4 rfl) ?_
  refine kV (wc := [(h0, .inr (10, [.ref tp, .int 12, h0_reader, h0_draft, h0_told, h0_course, h0_now, h0_history, h0_boxes, h0_boxFilled, h0_lying, h0_outlook, h0_sightings, .int h0_time])), (tp, .inl (gB g, 1600, .inl f4))]) (wr := []) (rV (As := [.int p3]) (rest := []) (meth2 := "") hcx (c_X10_putNumber_12 H.size) (gdV q15_15 q15_16 q15_17 q1_2 q15_18) dvX10_putNumber ⟨Nat.le_of_ble_eq_true rfl, Nat.le_of_ble_eq_true rfl⟩ (hP.sub [0, 1] rfl) (hD.sub [0, 1] (by decide) rfl) (va_recv hK hP (ci := 10) (q0 := 0) rfl rfl) rfl hl.1 rfl (Nat.le_of_ble_eq_true rfl) dX10_feed_33 ⟨Nat.le_of_ble_eq_true rfl, Nat.le_of_ble_eq_true rfl⟩) hP hD hS hA [0, 1] [] rfl rfl (by decide) (by decide) (fun W' H locs hw hP hD hS => ?_)
  obtain ⟨f5, rfl⟩ := hw
  have hP : va_P g.1 vwCl [(h0, .inr (10, [.ref tp, .int 16, h0_reader, h0_draft, h0_told, h0_course, h0_now, h0_history, h0_boxes, h0_boxFilled, h0_lying, h0_outlook, h0_sightings, .int h0_time])), (tp, .inl (gB g, 1600, .inl f5))] H := hP
  have hD : va_D A [(h0, .inr (10, [.ref tp, .int 16, h0_reader, h0_draft, h0_told, h0_course, h0_now, h0_history, h0_boxes, h0_boxFilled, h0_lying, h0_outlook, h0_sightings, .int h0_time])), (tp, .inl (gB g, 1600, .inl f5))] := hD
  refine lv_aload_n hx hb dX10_feed_36 rfl (lv_at hl 0 rfl) ?_
  refine lv_iload hx hb dX10_feed_37 (lv_at hl 5 rfl) ?_
  refine kV (wc := [(h0, .inr (10, [.ref tp, .int 16, h0_reader, h0_draft, h0_told, h0_course, h0_now, h0_history, h0_boxes, h0_boxFilled, h0_lying, h0_outlook, h0_sightings, .int h0_time])), (tp, .inl (gB g, 1600, .inl f5))]) (wr := []) (rV (As := [.int p4]) (rest := []) (meth2 := "") hcx (c_X10_putNumber_16 H.size) (gdV q15_15 q15_16 q15_17 q1_2 q15_18) dvX10_putNumber ⟨Nat.le_of_ble_eq_true rfl, Nat.le_of_ble_eq_true rfl⟩ (hP.sub [0, 1] rfl) (hD.sub [0, 1] (by decide) rfl) (va_recv hK hP (ci := 10) (q0 := 0) rfl rfl) rfl hl.1 rfl (Nat.le_of_ble_eq_true rfl) dX10_feed_39 ⟨Nat.le_of_ble_eq_true rfl, Nat.le_of_ble_eq_true rfl⟩) hP hD hS hA [0, 1] [] rfl rfl (by decide) (by decide) (fun W' H locs hw hP hD hS => ?_)
  obtain ⟨f6, rfl⟩ := hw
  have hP : va_P g.1 vwCl [(h0, .inr (10, [.ref tp, .int 20, h0_reader, h0_draft, h0_told, h0_course, h0_now, h0_history, h0_boxes, h0_boxFilled, h0_lying, h0_outlook, h0_sightings, .int h0_time])), (tp, .inl (gB g, 1600, .inl f6))] H := hP
  have hD : va_D A [(h0, .inr (10, [.ref tp, .int 20, h0_reader, h0_draft, h0_told, h0_course, h0_now, h0_history, h0_boxes, h0_boxFilled, h0_lying, h0_outlook, h0_sightings, .int h0_time])), (tp, .inl (gB g, 1600, .inl f6))] := hD
  refine lv_aload_n hx hb dX10_feed_42 rfl (lv_at hl 0 rfl) ?_
  refine va_get (D := g.1) (ci := 10) (v := Value.int 20) (C := RX10) (T := TX10) (N := 14) hx hb hts inlX10 hown hK hP 0 rfl rfl 1 (by decide) (hts _ q15_14) (fun _ h9 => h9) rfl dX10_feed_43 ?_
  have hP9 : va_P g.1 vwCl [] H := hP.sub [] rfl
  have hD9 : va_D A [] := hD.sub [] (by decide) rfl
  exact xi hx hb hr hlocks rfl hP9 hD9 hS ⟨rfl, rfl⟩ (Nat.le_of_ble_eq_true rfl) (Nat.le_of_ble_eq_true rfl) dX10_feed_46

set_option maxHeartbeats 4000000 in
set_option maxRecDepth 100000 in
theorem c_X10_end {l : Launch} {g : Gx} {h0 : Nat} {p0 : Int32} {h0_tape : Value} {h0_reader : Value} {h0_draft : Value} {h0_told : Value} {h0_course : Value} {h0_now : Value} {h0_history : Value} {h0_boxes : Value} {h0_boxFilled : Value} {h0_lying : Value} {h0_outlook : Value} {h0_sightings : Value} {h0_time : Int32} : MI l g yX10_end cX10_end 2 (some .int) 2 0 0 [.ref h0, .int p0] [(h0, .inr (10, [h0_tape, .int 0, h0_reader, h0_draft, h0_told, h0_course, h0_now, h0_history, h0_boxes, h0_boxFilled, h0_lying, h0_outlook, h0_sightings, .int h0_time]))] (fun r W' => r = sp_end p0 ∧ W' = []) := by
  refine MIof (by decide) (Nat.le_of_ble_eq_true rfl) ?_
  intro p e s m below meth c A ls H locs hcx hA hP hD hS hl
  obtain ⟨hx, hb, hml, hr, hlocks, hown, hts, hE, hnm⟩ := id hcx
  have hown : s.vm.findClass RX10 = some m.cls := hown
  have hK := hE.1
  have hl : lv_has ls 2 [(0, .ref h0), (1, .int p0)] := hl
  refine lv_iload_n hx hb dX10_end_0 rfl (lv_at hl 1 rfl) ?_
  refine lv_if_lt (tgt := 12) hx hb dX10_end_1 (by decide) (fun c1 => ?_) (fun c1 => ?_)
  · refine lv_iconst (v := (-1)) hx hb dX10_end_12 (by decide) ?_
    have hP9 : va_P g.1 vwCl [] H := hP.sub [] rfl
    have hD9 : va_D A [] := hD.sub [] (by decide) rfl
    exact xi hx hb hr hlocks rfl hP9 hD9 hS ⟨(by rw [sp_end, if_pos (Or.inl c1)]), rfl⟩ (Nat.le_of_ble_eq_true rfl) (Nat.le_of_ble_eq_true rfl) dX10_end_13
  · refine lv_iload_n hx hb dX10_end_4 rfl (lv_at hl 1 rfl) ?_
    refine lv_aload_n hx hb dX10_end_5 rfl (lv_at hl 0 rfl) ?_
    refine va_get (D := g.1) (ci := 10) (v := Value.int 0) (C := RX10) (T := TX10) (N := 14) hx hb hts inlX10 hown hK hP 0 rfl rfl 1 (by decide) (hts _ q15_14) (fun _ h9 => h9) rfl dX10_end_6 ?_
    refine lv_icmp_le (tgt := 14) hx hb dX10_end_9 (by decide) (fun c2 => ?_) (fun c2 => ?_)
    · refine lv_aload_n hx hb dX10_end_14 rfl (lv_at hl 0 rfl) ?_
      refine lv_iload_n hx hb dX10_end_15 rfl (lv_at hl 1 rfl) ?_
      refine va_put (D := g.1) (ci := 10) (v := Value.int p0) (ty := .int) (C := RX10) (T := TX10) (N := 14) hx hb hts inlX10 tyX10 tyX10_ok nmX10 hown hK hP hD hS 0 rfl rfl 1 (by decide) (hts _ q15_14) (fun _ h9 => h9) rfl (by decide +kernel) rfl rfl (Nat.le_of_ble_eq_true rfl) dX10_end_16 (fun H locs hP hD hS => ?_)
      have hP : va_P g.1 vwCl [(h0, .inr (10, [h0_tape, .int p0, h0_reader, h0_draft, h0_told, h0_course, h0_now, h0_history, h0_boxes, h0_boxFilled, h0_lying, h0_outlook, h0_sightings, .int h0_time]))] H := hP
      have hD : va_D A [(h0, .inr (10, [h0_tape, .int p0, h0_reader, h0_draft, h0_told, h0_course, h0_now, h0_history, h0_boxes, h0_boxFilled, h0_lying, h0_outlook, h0_sightings, .int h0_time]))] := hD
      refine lv_iload_n hx hb dX10_end_19 rfl (lv_at hl 1 rfl) ?_
      have hP9 : va_P g.1 vwCl [] H := hP.sub [] rfl
      have hD9 : va_D A [] := hD.sub [] (by decide) rfl
      exact xi hx hb hr hlocks rfl hP9 hD9 hS ⟨(by rw [sp_end, if_neg (fun h => h.elim c1 (fun z => z c2))]), rfl⟩ (Nat.le_of_ble_eq_true rfl) (Nat.le_of_ble_eq_true rfl) dX10_end_20
    · refine lv_iconst (v := (-1)) hx hb dX10_end_12 (by decide) ?_
      have hP9 : va_P g.1 vwCl [] H := hP.sub [] rfl
      have hD9 : va_D A [] := hD.sub [] (by decide) rfl
      exact xi hx hb hr hlocks rfl hP9 hD9 hS ⟨(by rw [sp_end, if_pos (Or.inr c2)]), rfl⟩ (Nat.le_of_ble_eq_true rfl) (Nat.le_of_ble_eq_true rfl) dX10_end_13

set_option maxHeartbeats 4000000 in
set_option maxRecDepth 100000 in
theorem c_X10_fault {l : Launch} {g : Gx} {h0 rd : Nat} {p0 : Int32} {h0_tape : Value} {h0_tapeLength : Int32} {h0_draft : Value} {h0_told : Value} {h0_course : Value} {h0_now : Value} {h0_history : Value} {h0_boxes : Value} {h0_boxFilled : Value} {h0_lying : Value} {h0_outlook : Value} {h0_sightings : Value} {h0_time : Int32} {rd_tokens : Value} {rd_units : Int32} {rd_number : Int32} : MI l g yX10_fault cX10_fault 2 (some .int) 2 0 0 [.ref h0, .int p0] [(h0, .inr (10, [h0_tape, .int h0_tapeLength, .ref rd, h0_draft, h0_told, h0_course, h0_now, h0_history, h0_boxes, h0_boxFilled, h0_lying, h0_outlook, h0_sightings, .int h0_time])), (rd, .inr (5, [rd_tokens, .int rd_units, .int rd_number, .int 0, .int (-1)]))] (fun r W' => r = sp_fault p0 ∧ W' = []) := by
  refine MIof (by decide) (Nat.le_of_ble_eq_true rfl) ?_
  intro p e s m below meth c A ls H locs hcx hA hP hD hS hl
  obtain ⟨hx, hb, hml, hr, hlocks, hown, hts, hE, hnm⟩ := id hcx
  have hown : s.vm.findClass RX10 = some m.cls := hown
  have hK := hE.1
  have hl : lv_has ls 2 [(0, .ref h0), (1, .int p0)] := hl
  refine lv_iload_n hx hb dX10_fault_0 rfl (lv_at hl 1 rfl) ?_
  by_cases c1 : p0 = 0
  · refine lv_lookup (off := 27) (tgt := 28) hx hb dX10_fault_1 (by decide) (by rw [c1]; decide) (by decide) ?_
    refine lv_aload_n hx hb dX10_fault_28 rfl (lv_at hl 0 rfl) ?_
    refine va_get (D := g.1) (ci := 10) (v := Value.ref rd) (C := RX10) (T := TX10) (N := 14) hx hb hts inlX10 hown hK hP 0 rfl rfl 2 (by decide) (hts _ q1_17) (fun _ h9 => h9) rfl dX10_fault_29 ?_
    refine va_get (D := g.1) (ci := 5) (v := Value.int 0) (C := RX5) (T := TX5) (N := 5) hx hb hts inlX5 hown hK hP 1 rfl rfl 3 (by decide) (hts _ q32_1) (fun _ h9 => h9) rfl dX10_fault_32 ?_
    have hP9 : va_P g.1 vwCl [] H := hP.sub [] rfl
    have hD9 : va_D A [] := hD.sub [] (by decide) rfl
    exact xi hx hb hr hlocks rfl hP9 hD9 hS ⟨(by simp [sp_fault, c1]), rfl⟩ (Nat.le_of_ble_eq_true rfl) (Nat.le_of_ble_eq_true rfl) dX10_fault_35
  by_cases c2 : p0 = 1
  · refine lv_lookup (off := 35) (tgt := 36) hx hb dX10_fault_1 (by decide) (by rw [c2]; decide) (by decide) ?_
    refine lv_aload_n hx hb dX10_fault_36 rfl (lv_at hl 0 rfl) ?_
    refine va_get (D := g.1) (ci := 10) (v := Value.ref rd) (C := RX10) (T := TX10) (N := 14) hx hb hts inlX10 hown hK hP 0 rfl rfl 2 (by decide) (hts _ q1_17) (fun _ h9 => h9) rfl dX10_fault_37 ?_
    refine va_get (D := g.1) (ci := 5) (v := Value.int (-1)) (C := RX5) (T := TX5) (N := 5) hx hb hts inlX5 hown hK hP 1 rfl rfl 4 (by decide) (hts _ q32_2) (fun _ h9 => h9) rfl dX10_fault_40 ?_
    have hP9 : va_P g.1 vwCl [] H := hP.sub [] rfl
    have hD9 : va_D A [] := hD.sub [] (by decide) rfl
    exact xi hx hb hr hlocks rfl hP9 hD9 hS ⟨(by simp [sp_fault, c2]), rfl⟩ (Nat.le_of_ble_eq_true rfl) (Nat.le_of_ble_eq_true rfl) dX10_fault_43
  refine lv_lookup (off := 43) (tgt := 44) hx hb dX10_fault_1 (by decide) ((lv_osw (k := 0) c1 (by decide)).trans ((lv_osw (k := 1) c2 (by decide)).trans (rfl))) (by decide) ?_
  refine lv_iconst (v := (-1)) hx hb dX10_fault_44 (by decide) ?_
  have hP9 : va_P g.1 vwCl [] H := hP.sub [] rfl
  have hD9 : va_D A [] := hD.sub [] (by decide) rfl
  exact xi hx hb hr hlocks rfl hP9 hD9 hS ⟨(by simp [sp_fault, c1, c2]), rfl⟩ (Nat.le_of_ble_eq_true rfl) (Nat.le_of_ble_eq_true rfl) dX10_fault_45

set_option maxHeartbeats 4000000 in
set_option maxRecDepth 100000 in
theorem c_X10_guild {l : Launch} {g : Gx} {h0 to : Nat} {p0 : Int32} {p1 : Int32} {h0_tape : Value} {h0_tapeLength : Int32} {h0_reader : Value} {h0_draft : Value} {h0_course : Value} {h0_now : Value} {h0_history : Value} {h0_boxes : Value} {h0_boxFilled : Value} {h0_lying : Value} {h0_outlook : Value} {h0_sightings : Value} {h0_time : Int32} {to_gustyCorners : Int32} {to_draw : Int32} {to_drawTold : Int32} {to_cornerNames : Value} {to_winds : Value} {to_lees : Value} {to_gustChances : Value} {to_gusts : Value} {to_guildNames : Value} {to_cloths : Value} {to_trues : Value} {to_strengths : Value} {to_reefs : Value} {to_pull : Value} {to_hold : Value} : MI l g yX10_guild cX10_guild 4 (some .int) 3 0 0 [.ref h0, .int p0, .int p1] [(h0, .inr (10, [h0_tape, .int h0_tapeLength, h0_reader, h0_draft, .ref to, h0_course, h0_now, h0_history, h0_boxes, h0_boxFilled, h0_lying, h0_outlook, h0_sightings, .int h0_time])), (to, .inr (9, [.int 0, .int to_gustyCorners, .int 0, .int to_draw, .int to_drawTold, to_cornerNames, to_winds, to_lees, to_gustChances, to_gusts, to_guildNames, to_cloths, to_trues, to_strengths, to_reefs, to_pull, to_hold]))] (fun r W' => (-2) = r ∧ W' = []) := by
  refine MIof (by decide) (Nat.le_of_ble_eq_true rfl) ?_
  intro p e s m below meth c A ls H locs hcx hA hP hD hS hl
  obtain ⟨hx, hb, hml, hr, hlocks, hown, hts, hE, hnm⟩ := id hcx
  have hown : s.vm.findClass RX10 = some m.cls := hown
  have hK := hE.1
  have hl : lv_has ls 4 [(0, .ref h0), (1, .int p0), (2, .int p1)] := hl
  refine lv_aload_n hx hb dX10_guild_0 rfl (lv_at hl 0 rfl) ?_
  refine va_get (D := g.1) (ci := 10) (v := Value.ref to) (C := RX10) (T := TX10) (N := 14) hx hb hts inlX10 hown hK hP 0 rfl rfl 4 (by decide) (hts _ q1_22) (fun _ h9 => h9) rfl dX10_guild_1 ?_
  refine lv_iload_n hx hb dX10_guild_4 rfl (lv_at hl 1 rfl) ?_
  refine kI (wc := [(to, .inr (9, [.int 0, .int to_gustyCorners, .int 0, .int to_draw, .int to_drawTold, to_cornerNames, to_winds, to_lees, to_gustChances, to_gusts, to_guildNames, to_cloths, to_trues, to_strengths, to_reefs, to_pull, to_hold]))]) (wr := [(h0, .inr (10, [h0_tape, .int h0_tapeLength, h0_reader, h0_draft, .ref to, h0_course, h0_now, h0_history, h0_boxes, h0_boxFilled, h0_lying, h0_outlook, h0_sightings, .int h0_time]))]) (rV (As := [.int p0]) (rest := []) (meth2 := "") hcx (c_X9_hasGuild H.size) (gdV q32_17 q32_18 q32_19 q1_20 q32_20) dvX9_hasGuild ⟨Nat.le_of_ble_eq_true rfl, Nat.le_of_ble_eq_true rfl⟩ (hP.sub [1] rfl) (hD.sub [1] (by decide) rfl) (va_recv hK hP (ci := 9) (q0 := 1) rfl rfl) rfl hl.1 rfl (Nat.le_of_ble_eq_true rfl) dX10_guild_5 ⟨Nat.le_of_ble_eq_true rfl, Nat.le_of_ble_eq_true rfl⟩) hP hD hS hA [1] [0] rfl rfl (by decide) (by decide) (fun r W' H locs hw hP hD hS => ?_)
  obtain ⟨rfl, rfl⟩ := hw
  have hP : va_P g.1 vwCl [(h0, .inr (10, [h0_tape, .int h0_tapeLength, h0_reader, h0_draft, .ref to, h0_course, h0_now, h0_history, h0_boxes, h0_boxFilled, h0_lying, h0_outlook, h0_sightings, .int h0_time])), (to, .inr (9, [.int 0, .int to_gustyCorners, .int 0, .int to_draw, .int to_drawTold, to_cornerNames, to_winds, to_lees, to_gustChances, to_gusts, to_guildNames, to_cloths, to_trues, to_strengths, to_reefs, to_pull, to_hold]))] H := hP
  have hD : va_D A [(h0, .inr (10, [h0_tape, .int h0_tapeLength, h0_reader, h0_draft, .ref to, h0_course, h0_now, h0_history, h0_boxes, h0_boxFilled, h0_lying, h0_outlook, h0_sightings, .int h0_time])), (to, .inr (9, [.int 0, .int to_gustyCorners, .int 0, .int to_draw, .int to_drawTold, to_cornerNames, to_winds, to_lees, to_gustChances, to_gusts, to_guildNames, to_cloths, to_trues, to_strengths, to_reefs, to_pull, to_hold]))] := hD
  refine lv_if_ne (tgt := 14) hx hb dX10_guild_8 (by decide) (fun c1 => absurd (by decide) c1) (fun _ => ?_)
  refine lv_bipush (v := (-2)) hx hb dX10_guild_11 (by decide) ?_
  have hP9 : va_P g.1 vwCl [] H := hP.sub [] rfl
  have hD9 : va_D A [] := hD.sub [] (by decide) rfl
  exact xi hx hb hr hlocks rfl hP9 hD9 hS ⟨rfl, rfl⟩ (Nat.le_of_ble_eq_true rfl) (Nat.le_of_ble_eq_true rfl) dX10_guild_13

set_option maxHeartbeats 4000000 in
set_option maxRecDepth 100000 in
theorem c_X10_corner {l : Launch} {g : Gx} {h0 to : Nat} {p0 : Int32} {p1 : Int32} {h0_tape : Value} {h0_tapeLength : Int32} {h0_reader : Value} {h0_draft : Value} {h0_course : Value} {h0_now : Value} {h0_history : Value} {h0_boxes : Value} {h0_boxFilled : Value} {h0_lying : Value} {h0_outlook : Value} {h0_sightings : Value} {h0_time : Int32} {to_gustyCorners : Int32} {to_draw : Int32} {to_drawTold : Int32} {to_cornerNames : Value} {to_winds : Value} {to_lees : Value} {to_gustChances : Value} {to_gusts : Value} {to_guildNames : Value} {to_cloths : Value} {to_trues : Value} {to_strengths : Value} {to_reefs : Value} {to_pull : Value} {to_hold : Value} : MI l g yX10_corner cX10_corner 3 (some .int) 2 0 0 [.ref h0, .int p0, .int p1] [(h0, .inr (10, [h0_tape, .int h0_tapeLength, h0_reader, h0_draft, .ref to, h0_course, h0_now, h0_history, h0_boxes, h0_boxFilled, h0_lying, h0_outlook, h0_sightings, .int h0_time])), (to, .inr (9, [.int 0, .int to_gustyCorners, .int 0, .int to_draw, .int to_drawTold, to_cornerNames, to_winds, to_lees, to_gustChances, to_gusts, to_guildNames, to_cloths, to_trues, to_strengths, to_reefs, to_pull, to_hold]))] (fun r W' => (-1) = r ∧ W' = []) := by
  refine MIof (by decide) (Nat.le_of_ble_eq_true rfl) ?_
  intro p e s m below meth c A ls H locs hcx hA hP hD hS hl
  obtain ⟨hx, hb, hml, hr, hlocks, hown, hts, hE, hnm⟩ := id hcx
  have hown : s.vm.findClass RX10 = some m.cls := hown
  have hK := hE.1
  have hl : lv_has ls 3 [(0, .ref h0), (1, .int p0), (2, .int p1)] := hl
  refine lv_iload_n hx hb dX10_corner_0 rfl (lv_at hl 1 rfl) ?_
  refine lv_if_lt (tgt := 15) hx hb dX10_corner_1 (by decide) (fun c1 => ?_) (fun c1 => ?_)
  · refine lv_iconst (v := (-1)) hx hb dX10_corner_15 (by decide) ?_
    have hP9 : va_P g.1 vwCl [] H := hP.sub [] rfl
    have hD9 : va_D A [] := hD.sub [] (by decide) rfl
    exact xi hx hb hr hlocks rfl hP9 hD9 hS ⟨rfl, rfl⟩ (Nat.le_of_ble_eq_true rfl) (Nat.le_of_ble_eq_true rfl) dX10_corner_16
  · refine lv_iload_n hx hb dX10_corner_4 rfl (lv_at hl 1 rfl) ?_
    refine lv_aload_n hx hb dX10_corner_5 rfl (lv_at hl 0 rfl) ?_
    refine va_get (D := g.1) (ci := 10) (v := Value.ref to) (C := RX10) (T := TX10) (N := 14) hx hb hts inlX10 hown hK hP 0 rfl rfl 4 (by decide) (hts _ q1_22) (fun _ h9 => h9) rfl dX10_corner_6 ?_
    refine va_get (D := g.1) (ci := 9) (v := Value.int 0) (C := RX9) (T := TX9) (N := 17) hx hb hts inlX9 hown hK hP 1 rfl rfl 0 (by decide) (hts _ q36_8) (fun _ h9 => h9) rfl dX10_corner_9 ?_
    refine lv_icmp_lt (tgt := 17) hx hb dX10_corner_12 (by decide) (fun c2 => absurd c2 c1) (fun _ => ?_)
    refine lv_iconst (v := (-1)) hx hb dX10_corner_15 (by decide) ?_
    have hP9 : va_P g.1 vwCl [] H := hP.sub [] rfl
    have hD9 : va_D A [] := hD.sub [] (by decide) rfl
    exact xi hx hb hr hlocks rfl hP9 hD9 hS ⟨rfl, rfl⟩ (Nat.le_of_ble_eq_true rfl) (Nat.le_of_ble_eq_true rfl) dX10_corner_16

set_option maxHeartbeats 4000000 in
set_option maxRecDepth 100000 in
theorem c_X10_place {l : Launch} {g : Gx} {h0 to : Nat} {p0 : Int32} {h0_tape : Value} {h0_tapeLength : Int32} {h0_reader : Value} {h0_draft : Value} {h0_course : Value} {h0_now : Value} {h0_history : Value} {h0_boxes : Value} {h0_boxFilled : Value} {h0_lying : Value} {h0_outlook : Value} {h0_sightings : Value} {h0_time : Int32} {to_gustyCorners : Int32} {to_draw : Int32} {to_drawTold : Int32} {to_cornerNames : Value} {to_winds : Value} {to_lees : Value} {to_gustChances : Value} {to_gusts : Value} {to_guildNames : Value} {to_cloths : Value} {to_trues : Value} {to_strengths : Value} {to_reefs : Value} {to_pull : Value} {to_hold : Value} : MI l g yX10_place cX10_place 2 (some .int) 3 0 0 [.ref h0, .int p0] [(h0, .inr (10, [h0_tape, .int h0_tapeLength, h0_reader, h0_draft, .ref to, h0_course, h0_now, h0_history, h0_boxes, h0_boxFilled, h0_lying, h0_outlook, h0_sightings, .int h0_time])), (to, .inr (9, [.int 0, .int to_gustyCorners, .int 0, .int to_draw, .int to_drawTold, to_cornerNames, to_winds, to_lees, to_gustChances, to_gusts, to_guildNames, to_cloths, to_trues, to_strengths, to_reefs, to_pull, to_hold]))] (fun r W' => (-1) = r ∧ W' = []) := by
  refine MIof (by decide) (Nat.le_of_ble_eq_true rfl) ?_
  intro p e s m below meth c A ls H locs hcx hA hP hD hS hl
  obtain ⟨hx, hb, hml, hr, hlocks, hown, hts, hE, hnm⟩ := id hcx
  have hown : s.vm.findClass RX10 = some m.cls := hown
  have hK := hE.1
  have hl : lv_has ls 2 [(0, .ref h0), (1, .int p0)] := hl
  refine lv_aload_n hx hb dX10_place_0 rfl (lv_at hl 0 rfl) ?_
  refine va_get (D := g.1) (ci := 10) (v := Value.ref to) (C := RX10) (T := TX10) (N := 14) hx hb hts inlX10 hown hK hP 0 rfl rfl 4 (by decide) (hts _ q1_22) (fun _ h9 => h9) rfl dX10_place_1 ?_
  refine lv_iload_n hx hb dX10_place_4 rfl (lv_at hl 1 rfl) ?_
  refine kI (wc := [(to, .inr (9, [.int 0, .int to_gustyCorners, .int 0, .int to_draw, .int to_drawTold, to_cornerNames, to_winds, to_lees, to_gustChances, to_gusts, to_guildNames, to_cloths, to_trues, to_strengths, to_reefs, to_pull, to_hold]))]) (wr := [(h0, .inr (10, [h0_tape, .int h0_tapeLength, h0_reader, h0_draft, .ref to, h0_course, h0_now, h0_history, h0_boxes, h0_boxFilled, h0_lying, h0_outlook, h0_sightings, .int h0_time]))]) (rV (As := [.int p0]) (rest := []) (meth2 := "") hcx (c_X9_hasGuild H.size) (gdV q32_17 q32_18 q32_19 q1_20 q32_20) dvX9_hasGuild ⟨Nat.le_of_ble_eq_true rfl, Nat.le_of_ble_eq_true rfl⟩ (hP.sub [1] rfl) (hD.sub [1] (by decide) rfl) (va_recv hK hP (ci := 9) (q0 := 1) rfl rfl) rfl hl.1 rfl (Nat.le_of_ble_eq_true rfl) dX10_place_5 ⟨Nat.le_of_ble_eq_true rfl, Nat.le_of_ble_eq_true rfl⟩) hP hD hS hA [1] [0] rfl rfl (by decide) (by decide) (fun r W' H locs hw hP hD hS => ?_)
  obtain ⟨rfl, rfl⟩ := hw
  have hP : va_P g.1 vwCl [(h0, .inr (10, [h0_tape, .int h0_tapeLength, h0_reader, h0_draft, .ref to, h0_course, h0_now, h0_history, h0_boxes, h0_boxFilled, h0_lying, h0_outlook, h0_sightings, .int h0_time])), (to, .inr (9, [.int 0, .int to_gustyCorners, .int 0, .int to_draw, .int to_drawTold, to_cornerNames, to_winds, to_lees, to_gustChances, to_gusts, to_guildNames, to_cloths, to_trues, to_strengths, to_reefs, to_pull, to_hold]))] H := hP
  have hD : va_D A [(h0, .inr (10, [h0_tape, .int h0_tapeLength, h0_reader, h0_draft, .ref to, h0_course, h0_now, h0_history, h0_boxes, h0_boxFilled, h0_lying, h0_outlook, h0_sightings, .int h0_time])), (to, .inr (9, [.int 0, .int to_gustyCorners, .int 0, .int to_draw, .int to_drawTold, to_cornerNames, to_winds, to_lees, to_gustChances, to_gusts, to_guildNames, to_cloths, to_trues, to_strengths, to_reefs, to_pull, to_hold]))] := hD
  refine lv_if_eq (tgt := 23) hx hb dX10_place_8 (by decide) (fun _ => ?_) (fun c1 => absurd (by decide) c1)
  refine lv_iconst (v := (-1)) hx hb dX10_place_23 (by decide) ?_
  have hP9 : va_P g.1 vwCl [] H := hP.sub [] rfl
  have hD9 : va_D A [] := hD.sub [] (by decide) rfl
  exact xi hx hb hr hlocks rfl hP9 hD9 hS ⟨rfl, rfl⟩ (Nat.le_of_ble_eq_true rfl) (Nat.le_of_ble_eq_true rfl) dX10_place_24

set_option maxHeartbeats 4000000 in
set_option maxRecDepth 100000 in
theorem c_X10_strain {l : Launch} {g : Gx} {h0 to co no : Nat} {p0 : Int32} {p1 : Int32} {h0_tape : Value} {h0_tapeLength : Int32} {h0_reader : Value} {h0_draft : Value} {h0_history : Value} {h0_boxes : Value} {h0_boxFilled : Value} {h0_lying : Value} {h0_outlook : Value} {h0_sightings : Value} {h0_time : Int32} {to_gustyCorners : Int32} {to_draw : Int32} {to_drawTold : Int32} {to_cornerNames : Value} {to_winds : Value} {to_lees : Value} {to_gustChances : Value} {to_gusts : Value} {to_guildNames : Value} {to_cloths : Value} {to_trues : Value} {to_strengths : Value} {to_reefs : Value} {to_pull : Value} {to_hold : Value} {co_values : Value} {co_pull : Int32} {co_hold : Int32} {no_order : Value} {no_reefs : Value} {no_children : Value} {no_hosts : Value} {no_guests : Value} {no_up : Int32} {no_day : Int32} {no_seed : Int32} {no_firstTrue : Int32} : MI l g yX10_strain cX10_strain 4 (some .int) 3 0 0 [.ref h0, .int p0, .int p1] [(h0, .inr (10, [h0_tape, .int h0_tapeLength, h0_reader, h0_draft, .ref to, .ref co, .ref no, h0_history, h0_boxes, h0_boxFilled, h0_lying, h0_outlook, h0_sightings, .int h0_time])), (to, .inr (9, [.int 0, .int to_gustyCorners, .int 0, .int to_draw, .int to_drawTold, to_cornerNames, to_winds, to_lees, to_gustChances, to_gusts, to_guildNames, to_cloths, to_trues, to_strengths, to_reefs, to_pull, to_hold])), (co, .inr (0, [.ref to, co_values, .int co_pull, .int co_hold])), (no, .inr (7, [no_order, no_reefs, no_children, no_hosts, no_guests, .int no_up, .int 0, .int no_day, .int no_seed, .int no_firstTrue]))] (fun r W' => (-1000000000) = r ∧ W' = []) := by
  refine MIof (by decide) (Nat.le_of_ble_eq_true rfl) ?_
  intro p e s m below meth c A ls H locs hcx hA hP hD hS hl
  obtain ⟨hx, hb, hml, hr, hlocks, hown, hts, hE, hnm⟩ := id hcx
  have hown : s.vm.findClass RX10 = some m.cls := hown
  have hK := hE.1
  have hl : lv_has ls 4 [(0, .ref h0), (1, .int p0), (2, .int p1)] := hl
  refine lv_iload_n hx hb dX10_strain_0 rfl (lv_at hl 2 rfl) ?_
  refine lv_if_eq (tgt := 9) hx hb dX10_strain_1 (by decide) (fun c1 => ?_) (fun c1 => ?_)
  · refine lv_iconst (v := 1) hx hb dX10_strain_9 (by decide) ?_
    refine lv_goto (tgt := 14) hx hb dX10_strain_10 (by decide) ?_
    refine lv_istore_n (lv' := [(3, .int 1), (0, .ref h0), (1, .int p0), (2, .int p1)]) hx hb dX10_strain_14 rfl hl (by decide) rfl (fun ls hl => ?_)
    refine lv_iload_n hx hb dX10_strain_15 rfl (lv_at hl 0 rfl) ?_
    refine lv_if_eq (tgt := 41) hx hb dX10_strain_16 (by decide) (fun c2 => absurd c2 (by decide)) (fun _ => ?_)
    refine lv_aload_n hx hb dX10_strain_19 rfl (lv_at hl 1 rfl) ?_
    refine va_get (D := g.1) (ci := 10) (v := Value.ref co) (C := RX10) (T := TX10) (N := 14) hx hb hts inlX10 hown hK hP 0 rfl rfl 5 (by decide) (hts _ q2_2) (fun _ h9 => h9) rfl dX10_strain_20 ?_
    refine lv_aload_n hx hb dX10_strain_23 rfl (lv_at hl 1 rfl) ?_
    refine va_get (D := g.1) (ci := 10) (v := Value.ref no) (C := RX10) (T := TX10) (N := 14) hx hb hts inlX10 hown hK hP 0 rfl rfl 6 (by decide) (hts _ q2_6) (fun _ h9 => h9) rfl dX10_strain_24 ?_
    refine kI (wc := [(co, .inr (0, [.ref to, co_values, .int co_pull, .int co_hold])), (no, .inr (7, [no_order, no_reefs, no_children, no_hosts, no_guests, .int no_up, .int 0, .int no_day, .int no_seed, .int no_firstTrue])), (to, .inr (9, [.int 0, .int to_gustyCorners, .int 0, .int to_draw, .int to_drawTold, to_cornerNames, to_winds, to_lees, to_gustChances, to_gusts, to_guildNames, to_cloths, to_trues, to_strengths, to_reefs, to_pull, to_hold]))]) (wr := [(h0, .inr (10, [h0_tape, .int h0_tapeLength, h0_reader, h0_draft, .ref to, .ref co, .ref no, h0_history, h0_boxes, h0_boxFilled, h0_lying, h0_outlook, h0_sightings, .int h0_time]))]) (rV (As := [.ref no]) (rest := []) (meth2 := "") hcx (c_X0_isRound H.size) (gdV q37_13 q37_14 q37_15 q2_1 q37_16) dvX0_isRound ⟨Nat.le_of_ble_eq_true rfl, Nat.le_of_ble_eq_true rfl⟩ (hP.sub [2, 3, 1] rfl) (hD.sub [2, 3, 1] (by decide) rfl) (va_recv hK hP (ci := 0) (q0 := 2) rfl rfl) rfl hl.1 rfl (Nat.le_of_ble_eq_true rfl) dX10_strain_27 ⟨Nat.le_of_ble_eq_true rfl, Nat.le_of_ble_eq_true rfl⟩) hP hD hS hA [2, 3, 1] [0] rfl rfl (by decide) (by decide) (fun r W' H locs hw hP hD hS => ?_)
    obtain ⟨rfl, rfl⟩ := hw
    have hP : va_P g.1 vwCl [(h0, .inr (10, [h0_tape, .int h0_tapeLength, h0_reader, h0_draft, .ref to, .ref co, .ref no, h0_history, h0_boxes, h0_boxFilled, h0_lying, h0_outlook, h0_sightings, .int h0_time])), (co, .inr (0, [.ref to, co_values, .int co_pull, .int co_hold])), (no, .inr (7, [no_order, no_reefs, no_children, no_hosts, no_guests, .int no_up, .int 0, .int no_day, .int no_seed, .int no_firstTrue])), (to, .inr (9, [.int 0, .int to_gustyCorners, .int 0, .int to_draw, .int to_drawTold, to_cornerNames, to_winds, to_lees, to_gustChances, to_gusts, to_guildNames, to_cloths, to_trues, to_strengths, to_reefs, to_pull, to_hold]))] H := hP
    have hD : va_D A [(h0, .inr (10, [h0_tape, .int h0_tapeLength, h0_reader, h0_draft, .ref to, .ref co, .ref no, h0_history, h0_boxes, h0_boxFilled, h0_lying, h0_outlook, h0_sightings, .int h0_time])), (co, .inr (0, [.ref to, co_values, .int co_pull, .int co_hold])), (no, .inr (7, [no_order, no_reefs, no_children, no_hosts, no_guests, .int no_up, .int 0, .int no_day, .int no_seed, .int no_firstTrue])), (to, .inr (9, [.int 0, .int to_gustyCorners, .int 0, .int to_draw, .int to_drawTold, to_cornerNames, to_winds, to_lees, to_gustChances, to_gusts, to_guildNames, to_cloths, to_trues, to_strengths, to_reefs, to_pull, to_hold]))] := hD
    refine lv_if_ne (tgt := 41) hx hb dX10_strain_30 (by decide) (fun _ => ?_) (fun c3 => absurd c3 (by decide))
    refine lv_ldc hx hb hown (hts _ q37_10) dX10_strain_41 ?_
    have hP9 : va_P g.1 vwCl [] H := hP.sub [] rfl
    have hD9 : va_D A [] := hD.sub [] (by decide) rfl
    exact xi hx hb hr hlocks rfl hP9 hD9 hS ⟨rfl, rfl⟩ (Nat.le_of_ble_eq_true rfl) (Nat.le_of_ble_eq_true rfl) dX10_strain_43
  · refine lv_iload_n hx hb dX10_strain_4 rfl (lv_at hl 2 rfl) ?_
    refine lv_iconst (v := 1) hx hb dX10_strain_5 (by decide) ?_
    refine lv_icmp_ne (tgt := 13) hx hb dX10_strain_6 (by decide) (fun c4 => ?_) (fun c4 => ?_)
    · refine lv_iconst (v := 0) hx hb dX10_strain_13 (by decide) ?_
      refine lv_istore_n (lv' := [(3, .int 0), (0, .ref h0), (1, .int p0), (2, .int p1)]) hx hb dX10_strain_14 rfl hl (by decide) rfl (fun ls hl => ?_)
      refine lv_iload_n hx hb dX10_strain_15 rfl (lv_at hl 0 rfl) ?_
      refine lv_if_eq (tgt := 41) hx hb dX10_strain_16 (by decide) (fun _ => ?_) (fun c5 => absurd (by decide) c5)
      refine lv_ldc hx hb hown (hts _ q37_10) dX10_strain_41 ?_
      have hP9 : va_P g.1 vwCl [] H := hP.sub [] rfl
      have hD9 : va_D A [] := hD.sub [] (by decide) rfl
      exact xi hx hb hr hlocks rfl hP9 hD9 hS ⟨rfl, rfl⟩ (Nat.le_of_ble_eq_true rfl) (Nat.le_of_ble_eq_true rfl) dX10_strain_43
    · refine lv_iconst (v := 1) hx hb dX10_strain_9 (by decide) ?_
      refine lv_goto (tgt := 14) hx hb dX10_strain_10 (by decide) ?_
      refine lv_istore_n (lv' := [(3, .int 1), (0, .ref h0), (1, .int p0), (2, .int p1)]) hx hb dX10_strain_14 rfl hl (by decide) rfl (fun ls hl => ?_)
      refine lv_iload_n hx hb dX10_strain_15 rfl (lv_at hl 0 rfl) ?_
      refine lv_if_eq (tgt := 41) hx hb dX10_strain_16 (by decide) (fun c6 => absurd c6 (by decide)) (fun _ => ?_)
      refine lv_aload_n hx hb dX10_strain_19 rfl (lv_at hl 1 rfl) ?_
      refine va_get (D := g.1) (ci := 10) (v := Value.ref co) (C := RX10) (T := TX10) (N := 14) hx hb hts inlX10 hown hK hP 0 rfl rfl 5 (by decide) (hts _ q2_2) (fun _ h9 => h9) rfl dX10_strain_20 ?_
      refine lv_aload_n hx hb dX10_strain_23 rfl (lv_at hl 1 rfl) ?_
      refine va_get (D := g.1) (ci := 10) (v := Value.ref no) (C := RX10) (T := TX10) (N := 14) hx hb hts inlX10 hown hK hP 0 rfl rfl 6 (by decide) (hts _ q2_6) (fun _ h9 => h9) rfl dX10_strain_24 ?_
      refine kI (wc := [(co, .inr (0, [.ref to, co_values, .int co_pull, .int co_hold])), (no, .inr (7, [no_order, no_reefs, no_children, no_hosts, no_guests, .int no_up, .int 0, .int no_day, .int no_seed, .int no_firstTrue])), (to, .inr (9, [.int 0, .int to_gustyCorners, .int 0, .int to_draw, .int to_drawTold, to_cornerNames, to_winds, to_lees, to_gustChances, to_gusts, to_guildNames, to_cloths, to_trues, to_strengths, to_reefs, to_pull, to_hold]))]) (wr := [(h0, .inr (10, [h0_tape, .int h0_tapeLength, h0_reader, h0_draft, .ref to, .ref co, .ref no, h0_history, h0_boxes, h0_boxFilled, h0_lying, h0_outlook, h0_sightings, .int h0_time]))]) (rV (As := [.ref no]) (rest := []) (meth2 := "") hcx (c_X0_isRound H.size) (gdV q37_13 q37_14 q37_15 q2_1 q37_16) dvX0_isRound ⟨Nat.le_of_ble_eq_true rfl, Nat.le_of_ble_eq_true rfl⟩ (hP.sub [2, 3, 1] rfl) (hD.sub [2, 3, 1] (by decide) rfl) (va_recv hK hP (ci := 0) (q0 := 2) rfl rfl) rfl hl.1 rfl (Nat.le_of_ble_eq_true rfl) dX10_strain_27 ⟨Nat.le_of_ble_eq_true rfl, Nat.le_of_ble_eq_true rfl⟩) hP hD hS hA [2, 3, 1] [0] rfl rfl (by decide) (by decide) (fun r W' H locs hw hP hD hS => ?_)
      obtain ⟨rfl, rfl⟩ := hw
      have hP : va_P g.1 vwCl [(h0, .inr (10, [h0_tape, .int h0_tapeLength, h0_reader, h0_draft, .ref to, .ref co, .ref no, h0_history, h0_boxes, h0_boxFilled, h0_lying, h0_outlook, h0_sightings, .int h0_time])), (co, .inr (0, [.ref to, co_values, .int co_pull, .int co_hold])), (no, .inr (7, [no_order, no_reefs, no_children, no_hosts, no_guests, .int no_up, .int 0, .int no_day, .int no_seed, .int no_firstTrue])), (to, .inr (9, [.int 0, .int to_gustyCorners, .int 0, .int to_draw, .int to_drawTold, to_cornerNames, to_winds, to_lees, to_gustChances, to_gusts, to_guildNames, to_cloths, to_trues, to_strengths, to_reefs, to_pull, to_hold]))] H := hP
      have hD : va_D A [(h0, .inr (10, [h0_tape, .int h0_tapeLength, h0_reader, h0_draft, .ref to, .ref co, .ref no, h0_history, h0_boxes, h0_boxFilled, h0_lying, h0_outlook, h0_sightings, .int h0_time])), (co, .inr (0, [.ref to, co_values, .int co_pull, .int co_hold])), (no, .inr (7, [no_order, no_reefs, no_children, no_hosts, no_guests, .int no_up, .int 0, .int no_day, .int no_seed, .int no_firstTrue])), (to, .inr (9, [.int 0, .int to_gustyCorners, .int 0, .int to_draw, .int to_drawTold, to_cornerNames, to_winds, to_lees, to_gustChances, to_gusts, to_guildNames, to_cloths, to_trues, to_strengths, to_reefs, to_pull, to_hold]))] := hD
      refine lv_if_ne (tgt := 41) hx hb dX10_strain_30 (by decide) (fun _ => ?_) (fun c7 => absurd c7 (by decide))
      refine lv_ldc hx hb hown (hts _ q37_10) dX10_strain_41 ?_
      have hP9 : va_P g.1 vwCl [] H := hP.sub [] rfl
      have hD9 : va_D A [] := hD.sub [] (by decide) rfl
      exact xi hx hb hr hlocks rfl hP9 hD9 hS ⟨rfl, rfl⟩ (Nat.le_of_ble_eq_true rfl) (Nat.le_of_ble_eq_true rfl) dX10_strain_43

set_option maxHeartbeats 4000000 in
set_option maxRecDepth 100000 in
theorem c_X10_step {l : Launch} {g : Gx} {h0 co no to : Nat} {h0_tape : Value} {h0_tapeLength : Int32} {h0_reader : Value} {h0_draft : Value} {h0_told : Value} {h0_history : Value} {h0_boxes : Value} {h0_boxFilled : Value} {h0_lying : Value} {h0_outlook : Value} {h0_sightings : Value} {h0_time : Int32} {co_values : Value} {co_pull : Int32} {co_hold : Int32} {no_order : Value} {no_reefs : Value} {no_children : Value} {no_hosts : Value} {no_guests : Value} {no_up : Int32} {no_day : Int32} {no_seed : Int32} {no_firstTrue : Int32} {to_gustyCorners : Int32} {to_draw : Int32} {to_drawTold : Int32} {to_cornerNames : Value} {to_winds : Value} {to_lees : Value} {to_gustChances : Value} {to_gusts : Value} {to_guildNames : Value} {to_cloths : Value} {to_trues : Value} {to_strengths : Value} {to_reefs : Value} {to_pull : Value} {to_hold : Value} : MI l g yX10_step cX10_step 3 (some .int) 3 0 0 [.ref h0] [(h0, .inr (10, [h0_tape, .int h0_tapeLength, h0_reader, h0_draft, h0_told, .ref co, .ref no, h0_history, h0_boxes, h0_boxFilled, h0_lying, h0_outlook, h0_sightings, .int h0_time])), (co, .inr (0, [.ref to, co_values, .int co_pull, .int co_hold])), (no, .inr (7, [no_order, no_reefs, no_children, no_hosts, no_guests, .int no_up, .int 0, .int no_day, .int no_seed, .int no_firstTrue])), (to, .inr (9, [.int 0, .int to_gustyCorners, .int 0, .int to_draw, .int to_drawTold, to_cornerNames, to_winds, to_lees, to_gustChances, to_gusts, to_guildNames, to_cloths, to_trues, to_strengths, to_reefs, to_pull, to_hold]))] (fun r W' => (-1) = r ∧ W' = []) := by
  refine MIof (by decide) (Nat.le_of_ble_eq_true rfl) ?_
  intro p e s m below meth c A ls H locs hcx hA hP hD hS hl
  obtain ⟨hx, hb, hml, hr, hlocks, hown, hts, hE, hnm⟩ := id hcx
  have hown : s.vm.findClass RX10 = some m.cls := hown
  have hK := hE.1
  have hl : lv_has ls 3 [(0, .ref h0)] := hl
  refine lv_aload_n hx hb dX10_step_0 rfl (lv_at hl 0 rfl) ?_
  refine va_get (D := g.1) (ci := 10) (v := Value.ref co) (C := RX10) (T := TX10) (N := 14) hx hb hts inlX10 hown hK hP 0 rfl rfl 5 (by decide) (hts _ q2_2) (fun _ h9 => h9) rfl dX10_step_1 ?_
  refine lv_aload_n hx hb dX10_step_4 rfl (lv_at hl 0 rfl) ?_
  refine va_get (D := g.1) (ci := 10) (v := Value.ref no) (C := RX10) (T := TX10) (N := 14) hx hb hts inlX10 hown hK hP 0 rfl rfl 6 (by decide) (hts _ q2_6) (fun _ h9 => h9) rfl dX10_step_5 ?_
  refine kI (wc := [(co, .inr (0, [.ref to, co_values, .int co_pull, .int co_hold])), (no, .inr (7, [no_order, no_reefs, no_children, no_hosts, no_guests, .int no_up, .int 0, .int no_day, .int no_seed, .int no_firstTrue])), (to, .inr (9, [.int 0, .int to_gustyCorners, .int 0, .int to_draw, .int to_drawTold, to_cornerNames, to_winds, to_lees, to_gustChances, to_gusts, to_guildNames, to_cloths, to_trues, to_strengths, to_reefs, to_pull, to_hold]))]) (wr := [(h0, .inr (10, [h0_tape, .int h0_tapeLength, h0_reader, h0_draft, h0_told, .ref co, .ref no, h0_history, h0_boxes, h0_boxFilled, h0_lying, h0_outlook, h0_sightings, .int h0_time]))]) (rV (As := [.ref no]) (rest := []) (meth2 := "") hcx (c_X0_isRound H.size) (gdV q37_13 q37_14 q37_15 q2_1 q37_16) dvX0_isRound ⟨Nat.le_of_ble_eq_true rfl, Nat.le_of_ble_eq_true rfl⟩ (hP.sub [1, 2, 3] rfl) (hD.sub [1, 2, 3] (by decide) rfl) (va_recv hK hP (ci := 0) (q0 := 1) rfl rfl) rfl hl.1 rfl (Nat.le_of_ble_eq_true rfl) dX10_step_8 ⟨Nat.le_of_ble_eq_true rfl, Nat.le_of_ble_eq_true rfl⟩) hP hD hS hA [1, 2, 3] [0] rfl rfl (by decide) (by decide) (fun r W' H locs hw hP hD hS => ?_)
  obtain ⟨rfl, rfl⟩ := hw
  have hP : va_P g.1 vwCl [(h0, .inr (10, [h0_tape, .int h0_tapeLength, h0_reader, h0_draft, h0_told, .ref co, .ref no, h0_history, h0_boxes, h0_boxFilled, h0_lying, h0_outlook, h0_sightings, .int h0_time])), (co, .inr (0, [.ref to, co_values, .int co_pull, .int co_hold])), (no, .inr (7, [no_order, no_reefs, no_children, no_hosts, no_guests, .int no_up, .int 0, .int no_day, .int no_seed, .int no_firstTrue])), (to, .inr (9, [.int 0, .int to_gustyCorners, .int 0, .int to_draw, .int to_drawTold, to_cornerNames, to_winds, to_lees, to_gustChances, to_gusts, to_guildNames, to_cloths, to_trues, to_strengths, to_reefs, to_pull, to_hold]))] H := hP
  have hD : va_D A [(h0, .inr (10, [h0_tape, .int h0_tapeLength, h0_reader, h0_draft, h0_told, .ref co, .ref no, h0_history, h0_boxes, h0_boxFilled, h0_lying, h0_outlook, h0_sightings, .int h0_time])), (co, .inr (0, [.ref to, co_values, .int co_pull, .int co_hold])), (no, .inr (7, [no_order, no_reefs, no_children, no_hosts, no_guests, .int no_up, .int 0, .int no_day, .int no_seed, .int no_firstTrue])), (to, .inr (9, [.int 0, .int to_gustyCorners, .int 0, .int to_draw, .int to_drawTold, to_cornerNames, to_winds, to_lees, to_gustChances, to_gusts, to_guildNames, to_cloths, to_trues, to_strengths, to_reefs, to_pull, to_hold]))] := hD
  refine lv_if_eq (tgt := 16) hx hb dX10_step_11 (by decide) (fun c1 => absurd c1 (by decide)) (fun _ => ?_)
  refine lv_iconst (v := (-1)) hx hb dX10_step_14 (by decide) ?_
  have hP9 : va_P g.1 vwCl [] H := hP.sub [] rfl
  have hD9 : va_D A [] := hD.sub [] (by decide) rfl
  exact xi hx hb hr hlocks rfl hP9 hD9 hS ⟨rfl, rfl⟩ (Nat.le_of_ble_eq_true rfl) (Nat.le_of_ble_eq_true rfl) dX10_step_15

set_option maxHeartbeats 4000000 in
set_option maxRecDepth 100000 in
theorem c_X10_reef {l : Launch} {g : Gx} {h0 to : Nat} {p0 : Int32} {p1 : Int32} {h0_tape : Value} {h0_tapeLength : Int32} {h0_reader : Value} {h0_draft : Value} {h0_course : Value} {h0_now : Value} {h0_history : Value} {h0_boxes : Value} {h0_boxFilled : Value} {h0_lying : Value} {h0_outlook : Value} {h0_sightings : Value} {h0_time : Int32} {to_gustyCorners : Int32} {to_draw : Int32} {to_drawTold : Int32} {to_cornerNames : Value} {to_winds : Value} {to_lees : Value} {to_gustChances : Value} {to_gusts : Value} {to_guildNames : Value} {to_cloths : Value} {to_trues : Value} {to_strengths : Value} {to_reefs : Value} {to_pull : Value} {to_hold : Value} : MI l g yX10_reef cX10_reef 4 (some .int) 3 0 0 [.ref h0, .int p0, .int p1] [(h0, .inr (10, [h0_tape, .int h0_tapeLength, h0_reader, h0_draft, .ref to, h0_course, h0_now, h0_history, h0_boxes, h0_boxFilled, h0_lying, h0_outlook, h0_sightings, .int h0_time])), (to, .inr (9, [.int 0, .int to_gustyCorners, .int 0, .int to_draw, .int to_drawTold, to_cornerNames, to_winds, to_lees, to_gustChances, to_gusts, to_guildNames, to_cloths, to_trues, to_strengths, to_reefs, to_pull, to_hold]))] (fun r W' => (-1) = r ∧ W' = []) := by
  refine MIof (by decide) (Nat.le_of_ble_eq_true rfl) ?_
  intro p e s m below meth c A ls H locs hcx hA hP hD hS hl
  obtain ⟨hx, hb, hml, hr, hlocks, hown, hts, hE, hnm⟩ := id hcx
  have hown : s.vm.findClass RX10 = some m.cls := hown
  have hK := hE.1
  have hl : lv_has ls 4 [(0, .ref h0), (1, .int p0), (2, .int p1)] := hl
  refine lv_aload_n hx hb dX10_reef_0 rfl (lv_at hl 0 rfl) ?_
  refine va_get (D := g.1) (ci := 10) (v := Value.ref to) (C := RX10) (T := TX10) (N := 14) hx hb hts inlX10 hown hK hP 0 rfl rfl 4 (by decide) (hts _ q1_22) (fun _ h9 => h9) rfl dX10_reef_1 ?_
  refine lv_iload_n hx hb dX10_reef_4 rfl (lv_at hl 1 rfl) ?_
  refine kI (wc := [(to, .inr (9, [.int 0, .int to_gustyCorners, .int 0, .int to_draw, .int to_drawTold, to_cornerNames, to_winds, to_lees, to_gustChances, to_gusts, to_guildNames, to_cloths, to_trues, to_strengths, to_reefs, to_pull, to_hold]))]) (wr := [(h0, .inr (10, [h0_tape, .int h0_tapeLength, h0_reader, h0_draft, .ref to, h0_course, h0_now, h0_history, h0_boxes, h0_boxFilled, h0_lying, h0_outlook, h0_sightings, .int h0_time]))]) (rV (As := [.int p0]) (rest := []) (meth2 := "") hcx (c_X9_hasGuild H.size) (gdV q32_17 q32_18 q32_19 q1_20 q32_20) dvX9_hasGuild ⟨Nat.le_of_ble_eq_true rfl, Nat.le_of_ble_eq_true rfl⟩ (hP.sub [1] rfl) (hD.sub [1] (by decide) rfl) (va_recv hK hP (ci := 9) (q0 := 1) rfl rfl) rfl hl.1 rfl (Nat.le_of_ble_eq_true rfl) dX10_reef_5 ⟨Nat.le_of_ble_eq_true rfl, Nat.le_of_ble_eq_true rfl⟩) hP hD hS hA [1] [0] rfl rfl (by decide) (by decide) (fun r W' H locs hw hP hD hS => ?_)
  obtain ⟨rfl, rfl⟩ := hw
  have hP : va_P g.1 vwCl [(h0, .inr (10, [h0_tape, .int h0_tapeLength, h0_reader, h0_draft, .ref to, h0_course, h0_now, h0_history, h0_boxes, h0_boxFilled, h0_lying, h0_outlook, h0_sightings, .int h0_time])), (to, .inr (9, [.int 0, .int to_gustyCorners, .int 0, .int to_draw, .int to_drawTold, to_cornerNames, to_winds, to_lees, to_gustChances, to_gusts, to_guildNames, to_cloths, to_trues, to_strengths, to_reefs, to_pull, to_hold]))] H := hP
  have hD : va_D A [(h0, .inr (10, [h0_tape, .int h0_tapeLength, h0_reader, h0_draft, .ref to, h0_course, h0_now, h0_history, h0_boxes, h0_boxFilled, h0_lying, h0_outlook, h0_sightings, .int h0_time])), (to, .inr (9, [.int 0, .int to_gustyCorners, .int 0, .int to_draw, .int to_drawTold, to_cornerNames, to_winds, to_lees, to_gustChances, to_gusts, to_guildNames, to_cloths, to_trues, to_strengths, to_reefs, to_pull, to_hold]))] := hD
  refine lv_if_eq (tgt := 34) hx hb dX10_reef_8 (by decide) (fun _ => ?_) (fun c1 => absurd (by decide) c1)
  refine lv_iconst (v := (-1)) hx hb dX10_reef_34 (by decide) ?_
  have hP9 : va_P g.1 vwCl [] H := hP.sub [] rfl
  have hD9 : va_D A [] := hD.sub [] (by decide) rfl
  exact xi hx hb hr hlocks rfl hP9 hD9 hS ⟨rfl, rfl⟩ (Nat.le_of_ble_eq_true rfl) (Nat.le_of_ble_eq_true rfl) dX10_reef_35

set_option maxHeartbeats 4000000 in
set_option maxRecDepth 100000 in
theorem c_X10_child {l : Launch} {g : Gx} {h0 to : Nat} {p0 : Int32} {p1 : Int32} {h0_tape : Value} {h0_tapeLength : Int32} {h0_reader : Value} {h0_draft : Value} {h0_course : Value} {h0_now : Value} {h0_history : Value} {h0_boxes : Value} {h0_boxFilled : Value} {h0_lying : Value} {h0_outlook : Value} {h0_sightings : Value} {h0_time : Int32} {to_gustyCorners : Int32} {to_draw : Int32} {to_drawTold : Int32} {to_cornerNames : Value} {to_winds : Value} {to_lees : Value} {to_gustChances : Value} {to_gusts : Value} {to_guildNames : Value} {to_cloths : Value} {to_trues : Value} {to_strengths : Value} {to_reefs : Value} {to_pull : Value} {to_hold : Value} : MI l g yX10_child cX10_child 3 (some .int) 3 0 0 [.ref h0, .int p0, .int p1] [(h0, .inr (10, [h0_tape, .int h0_tapeLength, h0_reader, h0_draft, .ref to, h0_course, h0_now, h0_history, h0_boxes, h0_boxFilled, h0_lying, h0_outlook, h0_sightings, .int h0_time])), (to, .inr (9, [.int 0, .int to_gustyCorners, .int 0, .int to_draw, .int to_drawTold, to_cornerNames, to_winds, to_lees, to_gustChances, to_gusts, to_guildNames, to_cloths, to_trues, to_strengths, to_reefs, to_pull, to_hold]))] (fun r W' => (-1) = r ∧ W' = []) := by
  refine MIof (by decide) (Nat.le_of_ble_eq_true rfl) ?_
  intro p e s m below meth c A ls H locs hcx hA hP hD hS hl
  obtain ⟨hx, hb, hml, hr, hlocks, hown, hts, hE, hnm⟩ := id hcx
  have hown : s.vm.findClass RX10 = some m.cls := hown
  have hK := hE.1
  have hl : lv_has ls 3 [(0, .ref h0), (1, .int p0), (2, .int p1)] := hl
  refine lv_aload_n hx hb dX10_child_0 rfl (lv_at hl 0 rfl) ?_
  refine va_get (D := g.1) (ci := 10) (v := Value.ref to) (C := RX10) (T := TX10) (N := 14) hx hb hts inlX10 hown hK hP 0 rfl rfl 4 (by decide) (hts _ q1_22) (fun _ h9 => h9) rfl dX10_child_1 ?_
  refine lv_iload_n hx hb dX10_child_4 rfl (lv_at hl 1 rfl) ?_
  refine kI (wc := [(to, .inr (9, [.int 0, .int to_gustyCorners, .int 0, .int to_draw, .int to_drawTold, to_cornerNames, to_winds, to_lees, to_gustChances, to_gusts, to_guildNames, to_cloths, to_trues, to_strengths, to_reefs, to_pull, to_hold]))]) (wr := [(h0, .inr (10, [h0_tape, .int h0_tapeLength, h0_reader, h0_draft, .ref to, h0_course, h0_now, h0_history, h0_boxes, h0_boxFilled, h0_lying, h0_outlook, h0_sightings, .int h0_time]))]) (rV (As := [.int p0]) (rest := []) (meth2 := "") hcx (c_X9_hasGuild H.size) (gdV q32_17 q32_18 q32_19 q1_20 q32_20) dvX9_hasGuild ⟨Nat.le_of_ble_eq_true rfl, Nat.le_of_ble_eq_true rfl⟩ (hP.sub [1] rfl) (hD.sub [1] (by decide) rfl) (va_recv hK hP (ci := 9) (q0 := 1) rfl rfl) rfl hl.1 rfl (Nat.le_of_ble_eq_true rfl) dX10_child_5 ⟨Nat.le_of_ble_eq_true rfl, Nat.le_of_ble_eq_true rfl⟩) hP hD hS hA [1] [0] rfl rfl (by decide) (by decide) (fun r W' H locs hw hP hD hS => ?_)
  obtain ⟨rfl, rfl⟩ := hw
  have hP : va_P g.1 vwCl [(h0, .inr (10, [h0_tape, .int h0_tapeLength, h0_reader, h0_draft, .ref to, h0_course, h0_now, h0_history, h0_boxes, h0_boxFilled, h0_lying, h0_outlook, h0_sightings, .int h0_time])), (to, .inr (9, [.int 0, .int to_gustyCorners, .int 0, .int to_draw, .int to_drawTold, to_cornerNames, to_winds, to_lees, to_gustChances, to_gusts, to_guildNames, to_cloths, to_trues, to_strengths, to_reefs, to_pull, to_hold]))] H := hP
  have hD : va_D A [(h0, .inr (10, [h0_tape, .int h0_tapeLength, h0_reader, h0_draft, .ref to, h0_course, h0_now, h0_history, h0_boxes, h0_boxFilled, h0_lying, h0_outlook, h0_sightings, .int h0_time])), (to, .inr (9, [.int 0, .int to_gustyCorners, .int 0, .int to_draw, .int to_drawTold, to_cornerNames, to_winds, to_lees, to_gustChances, to_gusts, to_guildNames, to_cloths, to_trues, to_strengths, to_reefs, to_pull, to_hold]))] := hD
  refine lv_if_eq (tgt := 38) hx hb dX10_child_8 (by decide) (fun _ => ?_) (fun c1 => absurd (by decide) c1)
  refine lv_iconst (v := (-1)) hx hb dX10_child_38 (by decide) ?_
  have hP9 : va_P g.1 vwCl [] H := hP.sub [] rfl
  have hD9 : va_D A [] := hD.sub [] (by decide) rfl
  exact xi hx hb hr hlocks rfl hP9 hD9 hS ⟨rfl, rfl⟩ (Nat.le_of_ble_eq_true rfl) (Nat.le_of_ble_eq_true rfl) dX10_child_39

set_option maxHeartbeats 4000000 in
set_option maxRecDepth 100000 in
theorem c_X10_swap {l : Launch} {g : Gx} {h0 to : Nat} {p0 : Int32} {p1 : Int32} {h0_tape : Value} {h0_tapeLength : Int32} {h0_reader : Value} {h0_draft : Value} {h0_course : Value} {h0_now : Value} {h0_history : Value} {h0_boxes : Value} {h0_boxFilled : Value} {h0_lying : Value} {h0_outlook : Value} {h0_sightings : Value} {h0_time : Int32} {to_gustyCorners : Int32} {to_draw : Int32} {to_drawTold : Int32} {to_cornerNames : Value} {to_winds : Value} {to_lees : Value} {to_gustChances : Value} {to_gusts : Value} {to_guildNames : Value} {to_cloths : Value} {to_trues : Value} {to_strengths : Value} {to_reefs : Value} {to_pull : Value} {to_hold : Value} : MI l g yX10_swap cX10_swap 5 (some .boolean) 3 0 0 [.ref h0, .int p0, .int p1] [(h0, .inr (10, [h0_tape, .int h0_tapeLength, h0_reader, h0_draft, .ref to, h0_course, h0_now, h0_history, h0_boxes, h0_boxFilled, h0_lying, h0_outlook, h0_sightings, .int h0_time])), (to, .inr (9, [.int 0, .int to_gustyCorners, .int 0, .int to_draw, .int to_drawTold, to_cornerNames, to_winds, to_lees, to_gustChances, to_gusts, to_guildNames, to_cloths, to_trues, to_strengths, to_reefs, to_pull, to_hold]))] (fun r W' => 0 = r ∧ W' = []) := by
  refine MIof (by decide) (Nat.le_of_ble_eq_true rfl) ?_
  intro p e s m below meth c A ls H locs hcx hA hP hD hS hl
  obtain ⟨hx, hb, hml, hr, hlocks, hown, hts, hE, hnm⟩ := id hcx
  have hown : s.vm.findClass RX10 = some m.cls := hown
  have hK := hE.1
  have hl : lv_has ls 5 [(0, .ref h0), (1, .int p0), (2, .int p1)] := hl
  refine lv_aload_n hx hb dX10_swap_0 rfl (lv_at hl 0 rfl) ?_
  refine va_get (D := g.1) (ci := 10) (v := Value.ref to) (C := RX10) (T := TX10) (N := 14) hx hb hts inlX10 hown hK hP 0 rfl rfl 4 (by decide) (hts _ q1_22) (fun _ h9 => h9) rfl dX10_swap_1 ?_
  refine lv_iload_n hx hb dX10_swap_4 rfl (lv_at hl 1 rfl) ?_
  refine kI (wc := [(to, .inr (9, [.int 0, .int to_gustyCorners, .int 0, .int to_draw, .int to_drawTold, to_cornerNames, to_winds, to_lees, to_gustChances, to_gusts, to_guildNames, to_cloths, to_trues, to_strengths, to_reefs, to_pull, to_hold]))]) (wr := [(h0, .inr (10, [h0_tape, .int h0_tapeLength, h0_reader, h0_draft, .ref to, h0_course, h0_now, h0_history, h0_boxes, h0_boxFilled, h0_lying, h0_outlook, h0_sightings, .int h0_time]))]) (rV (As := [.int p0]) (rest := []) (meth2 := "") hcx (c_X9_hasGuild H.size) (gdV q32_17 q32_18 q32_19 q1_20 q32_20) dvX9_hasGuild ⟨Nat.le_of_ble_eq_true rfl, Nat.le_of_ble_eq_true rfl⟩ (hP.sub [1] rfl) (hD.sub [1] (by decide) rfl) (va_recv hK hP (ci := 9) (q0 := 1) rfl rfl) rfl hl.1 rfl (Nat.le_of_ble_eq_true rfl) dX10_swap_5 ⟨Nat.le_of_ble_eq_true rfl, Nat.le_of_ble_eq_true rfl⟩) hP hD hS hA [1] [0] rfl rfl (by decide) (by decide) (fun r W' H locs hw hP hD hS => ?_)
  obtain ⟨rfl, rfl⟩ := hw
  have hP : va_P g.1 vwCl [(h0, .inr (10, [h0_tape, .int h0_tapeLength, h0_reader, h0_draft, .ref to, h0_course, h0_now, h0_history, h0_boxes, h0_boxFilled, h0_lying, h0_outlook, h0_sightings, .int h0_time])), (to, .inr (9, [.int 0, .int to_gustyCorners, .int 0, .int to_draw, .int to_drawTold, to_cornerNames, to_winds, to_lees, to_gustChances, to_gusts, to_guildNames, to_cloths, to_trues, to_strengths, to_reefs, to_pull, to_hold]))] H := hP
  have hD : va_D A [(h0, .inr (10, [h0_tape, .int h0_tapeLength, h0_reader, h0_draft, .ref to, h0_course, h0_now, h0_history, h0_boxes, h0_boxFilled, h0_lying, h0_outlook, h0_sightings, .int h0_time])), (to, .inr (9, [.int 0, .int to_gustyCorners, .int 0, .int to_draw, .int to_drawTold, to_cornerNames, to_winds, to_lees, to_gustChances, to_gusts, to_guildNames, to_cloths, to_trues, to_strengths, to_reefs, to_pull, to_hold]))] := hD
  refine lv_if_eq (tgt := 27) hx hb dX10_swap_8 (by decide) (fun _ => ?_) (fun c1 => absurd (by decide) c1)
  refine lv_iconst (v := 0) hx hb dX10_swap_27 (by decide) ?_
  have hP9 : va_P g.1 vwCl [] H := hP.sub [] rfl
  have hD9 : va_D A [] := hD.sub [] (by decide) rfl
  exact xi hx hb hr hlocks rfl hP9 hD9 hS ⟨rfl, rfl⟩ (Nat.le_of_ble_eq_true rfl) (Nat.le_of_ble_eq_true rfl) dX10_swap_28

set_option maxHeartbeats 4000000 in
set_option maxRecDepth 100000 in
theorem c_X10_under {l : Launch} {g : Gx} {h0 to : Nat} {p0 : Int32} {p1 : Int32} {h0_tape : Value} {h0_tapeLength : Int32} {h0_reader : Value} {h0_draft : Value} {h0_course : Value} {h0_now : Value} {h0_history : Value} {h0_boxes : Value} {h0_boxFilled : Value} {h0_lying : Value} {h0_outlook : Value} {h0_sightings : Value} {h0_time : Int32} {to_gustyCorners : Int32} {to_draw : Int32} {to_drawTold : Int32} {to_cornerNames : Value} {to_winds : Value} {to_lees : Value} {to_gustChances : Value} {to_gusts : Value} {to_guildNames : Value} {to_cloths : Value} {to_trues : Value} {to_strengths : Value} {to_reefs : Value} {to_pull : Value} {to_hold : Value} : MI l g yX10_under cX10_under 3 (some .int) 3 0 0 [.ref h0, .int p0, .int p1] [(h0, .inr (10, [h0_tape, .int h0_tapeLength, h0_reader, h0_draft, .ref to, h0_course, h0_now, h0_history, h0_boxes, h0_boxFilled, h0_lying, h0_outlook, h0_sightings, .int h0_time])), (to, .inr (9, [.int 0, .int to_gustyCorners, .int 0, .int to_draw, .int to_drawTold, to_cornerNames, to_winds, to_lees, to_gustChances, to_gusts, to_guildNames, to_cloths, to_trues, to_strengths, to_reefs, to_pull, to_hold]))] (fun r W' => (-1) = r ∧ W' = []) := by
  refine MIof (by decide) (Nat.le_of_ble_eq_true rfl) ?_
  intro p e s m below meth c A ls H locs hcx hA hP hD hS hl
  obtain ⟨hx, hb, hml, hr, hlocks, hown, hts, hE, hnm⟩ := id hcx
  have hown : s.vm.findClass RX10 = some m.cls := hown
  have hK := hE.1
  have hl : lv_has ls 3 [(0, .ref h0), (1, .int p0), (2, .int p1)] := hl
  refine lv_aload_n hx hb dX10_under_0 rfl (lv_at hl 0 rfl) ?_
  refine va_get (D := g.1) (ci := 10) (v := Value.ref to) (C := RX10) (T := TX10) (N := 14) hx hb hts inlX10 hown hK hP 0 rfl rfl 4 (by decide) (hts _ q1_22) (fun _ h9 => h9) rfl dX10_under_1 ?_
  refine lv_iload_n hx hb dX10_under_4 rfl (lv_at hl 1 rfl) ?_
  refine kI (wc := [(to, .inr (9, [.int 0, .int to_gustyCorners, .int 0, .int to_draw, .int to_drawTold, to_cornerNames, to_winds, to_lees, to_gustChances, to_gusts, to_guildNames, to_cloths, to_trues, to_strengths, to_reefs, to_pull, to_hold]))]) (wr := [(h0, .inr (10, [h0_tape, .int h0_tapeLength, h0_reader, h0_draft, .ref to, h0_course, h0_now, h0_history, h0_boxes, h0_boxFilled, h0_lying, h0_outlook, h0_sightings, .int h0_time]))]) (rV (As := [.int p0]) (rest := []) (meth2 := "") hcx (c_X9_hasGuild H.size) (gdV q32_17 q32_18 q32_19 q1_20 q32_20) dvX9_hasGuild ⟨Nat.le_of_ble_eq_true rfl, Nat.le_of_ble_eq_true rfl⟩ (hP.sub [1] rfl) (hD.sub [1] (by decide) rfl) (va_recv hK hP (ci := 9) (q0 := 1) rfl rfl) rfl hl.1 rfl (Nat.le_of_ble_eq_true rfl) dX10_under_5 ⟨Nat.le_of_ble_eq_true rfl, Nat.le_of_ble_eq_true rfl⟩) hP hD hS hA [1] [0] rfl rfl (by decide) (by decide) (fun r W' H locs hw hP hD hS => ?_)
  obtain ⟨rfl, rfl⟩ := hw
  have hP : va_P g.1 vwCl [(h0, .inr (10, [h0_tape, .int h0_tapeLength, h0_reader, h0_draft, .ref to, h0_course, h0_now, h0_history, h0_boxes, h0_boxFilled, h0_lying, h0_outlook, h0_sightings, .int h0_time])), (to, .inr (9, [.int 0, .int to_gustyCorners, .int 0, .int to_draw, .int to_drawTold, to_cornerNames, to_winds, to_lees, to_gustChances, to_gusts, to_guildNames, to_cloths, to_trues, to_strengths, to_reefs, to_pull, to_hold]))] H := hP
  have hD : va_D A [(h0, .inr (10, [h0_tape, .int h0_tapeLength, h0_reader, h0_draft, .ref to, h0_course, h0_now, h0_history, h0_boxes, h0_boxFilled, h0_lying, h0_outlook, h0_sightings, .int h0_time])), (to, .inr (9, [.int 0, .int to_gustyCorners, .int 0, .int to_draw, .int to_drawTold, to_cornerNames, to_winds, to_lees, to_gustChances, to_gusts, to_guildNames, to_cloths, to_trues, to_strengths, to_reefs, to_pull, to_hold]))] := hD
  refine lv_if_eq (tgt := 34) hx hb dX10_under_8 (by decide) (fun _ => ?_) (fun c1 => absurd (by decide) c1)
  refine lv_iconst (v := (-1)) hx hb dX10_under_34 (by decide) ?_
  have hP9 : va_P g.1 vwCl [] H := hP.sub [] rfl
  have hD9 : va_D A [] := hD.sub [] (by decide) rfl
  exact xi hx hb hr hlocks rfl hP9 hD9 hS ⟨rfl, rfl⟩ (Nat.le_of_ble_eq_true rfl) (Nat.le_of_ble_eq_true rfl) dX10_under_35

set_option maxHeartbeats 4000000 in
set_option maxRecDepth 100000 in
theorem c_X10_part {l : Launch} {g : Gx} {h0 to : Nat} {p0 : Int32} {h0_tape : Value} {h0_tapeLength : Int32} {h0_reader : Value} {h0_draft : Value} {h0_course : Value} {h0_now : Value} {h0_history : Value} {h0_boxes : Value} {h0_boxFilled : Value} {h0_lying : Value} {h0_outlook : Value} {h0_sightings : Value} {h0_time : Int32} {to_gustyCorners : Int32} {to_draw : Int32} {to_drawTold : Int32} {to_cornerNames : Value} {to_winds : Value} {to_lees : Value} {to_gustChances : Value} {to_gusts : Value} {to_guildNames : Value} {to_cloths : Value} {to_trues : Value} {to_strengths : Value} {to_reefs : Value} {to_pull : Value} {to_hold : Value} : MI l g yX10_part cX10_part 3 (some .int) 3 0 0 [.ref h0, .int p0] [(h0, .inr (10, [h0_tape, .int h0_tapeLength, h0_reader, h0_draft, .ref to, h0_course, h0_now, h0_history, h0_boxes, h0_boxFilled, h0_lying, h0_outlook, h0_sightings, .int h0_time])), (to, .inr (9, [.int 0, .int to_gustyCorners, .int 0, .int to_draw, .int to_drawTold, to_cornerNames, to_winds, to_lees, to_gustChances, to_gusts, to_guildNames, to_cloths, to_trues, to_strengths, to_reefs, to_pull, to_hold]))] (fun r W' => (-1) = r ∧ W' = []) := by
  refine MIof (by decide) (Nat.le_of_ble_eq_true rfl) ?_
  intro p e s m below meth c A ls H locs hcx hA hP hD hS hl
  obtain ⟨hx, hb, hml, hr, hlocks, hown, hts, hE, hnm⟩ := id hcx
  have hown : s.vm.findClass RX10 = some m.cls := hown
  have hK := hE.1
  have hl : lv_has ls 3 [(0, .ref h0), (1, .int p0)] := hl
  refine lv_aload_n hx hb dX10_part_0 rfl (lv_at hl 0 rfl) ?_
  refine va_get (D := g.1) (ci := 10) (v := Value.ref to) (C := RX10) (T := TX10) (N := 14) hx hb hts inlX10 hown hK hP 0 rfl rfl 4 (by decide) (hts _ q1_22) (fun _ h9 => h9) rfl dX10_part_1 ?_
  refine lv_iload_n hx hb dX10_part_4 rfl (lv_at hl 1 rfl) ?_
  refine kI (wc := [(to, .inr (9, [.int 0, .int to_gustyCorners, .int 0, .int to_draw, .int to_drawTold, to_cornerNames, to_winds, to_lees, to_gustChances, to_gusts, to_guildNames, to_cloths, to_trues, to_strengths, to_reefs, to_pull, to_hold]))]) (wr := [(h0, .inr (10, [h0_tape, .int h0_tapeLength, h0_reader, h0_draft, .ref to, h0_course, h0_now, h0_history, h0_boxes, h0_boxFilled, h0_lying, h0_outlook, h0_sightings, .int h0_time]))]) (rV (As := [.int p0]) (rest := []) (meth2 := "") hcx (c_X9_hasGuild H.size) (gdV q32_17 q32_18 q32_19 q1_20 q32_20) dvX9_hasGuild ⟨Nat.le_of_ble_eq_true rfl, Nat.le_of_ble_eq_true rfl⟩ (hP.sub [1] rfl) (hD.sub [1] (by decide) rfl) (va_recv hK hP (ci := 9) (q0 := 1) rfl rfl) rfl hl.1 rfl (Nat.le_of_ble_eq_true rfl) dX10_part_5 ⟨Nat.le_of_ble_eq_true rfl, Nat.le_of_ble_eq_true rfl⟩) hP hD hS hA [1] [0] rfl rfl (by decide) (by decide) (fun r W' H locs hw hP hD hS => ?_)
  obtain ⟨rfl, rfl⟩ := hw
  have hP : va_P g.1 vwCl [(h0, .inr (10, [h0_tape, .int h0_tapeLength, h0_reader, h0_draft, .ref to, h0_course, h0_now, h0_history, h0_boxes, h0_boxFilled, h0_lying, h0_outlook, h0_sightings, .int h0_time])), (to, .inr (9, [.int 0, .int to_gustyCorners, .int 0, .int to_draw, .int to_drawTold, to_cornerNames, to_winds, to_lees, to_gustChances, to_gusts, to_guildNames, to_cloths, to_trues, to_strengths, to_reefs, to_pull, to_hold]))] H := hP
  have hD : va_D A [(h0, .inr (10, [h0_tape, .int h0_tapeLength, h0_reader, h0_draft, .ref to, h0_course, h0_now, h0_history, h0_boxes, h0_boxFilled, h0_lying, h0_outlook, h0_sightings, .int h0_time])), (to, .inr (9, [.int 0, .int to_gustyCorners, .int 0, .int to_draw, .int to_drawTold, to_cornerNames, to_winds, to_lees, to_gustChances, to_gusts, to_guildNames, to_cloths, to_trues, to_strengths, to_reefs, to_pull, to_hold]))] := hD
  refine lv_if_eq (tgt := 24) hx hb dX10_part_8 (by decide) (fun _ => ?_) (fun c1 => absurd (by decide) c1)
  refine lv_iconst (v := (-1)) hx hb dX10_part_24 (by decide) ?_
  have hP9 : va_P g.1 vwCl [] H := hP.sub [] rfl
  have hD9 : va_D A [] := hD.sub [] (by decide) rfl
  exact xi hx hb hr hlocks rfl hP9 hD9 hS ⟨rfl, rfl⟩ (Nat.le_of_ble_eq_true rfl) (Nat.le_of_ble_eq_true rfl) dX10_part_25

set_option maxHeartbeats 4000000 in
set_option maxRecDepth 100000 in
theorem c_X10_far {l : Launch} {g : Gx} {h0 to : Nat} {p0 : Int32} {h0_tape : Value} {h0_tapeLength : Int32} {h0_reader : Value} {h0_draft : Value} {h0_course : Value} {h0_now : Value} {h0_history : Value} {h0_boxes : Value} {h0_boxFilled : Value} {h0_lying : Value} {h0_outlook : Value} {h0_sightings : Value} {h0_time : Int32} {to_gustyCorners : Int32} {to_draw : Int32} {to_drawTold : Int32} {to_cornerNames : Value} {to_winds : Value} {to_lees : Value} {to_gustChances : Value} {to_gusts : Value} {to_guildNames : Value} {to_cloths : Value} {to_trues : Value} {to_strengths : Value} {to_reefs : Value} {to_pull : Value} {to_hold : Value} : MI l g yX10_far cX10_far 2 (some .int) 3 0 0 [.ref h0, .int p0] [(h0, .inr (10, [h0_tape, .int h0_tapeLength, h0_reader, h0_draft, .ref to, h0_course, h0_now, h0_history, h0_boxes, h0_boxFilled, h0_lying, h0_outlook, h0_sightings, .int h0_time])), (to, .inr (9, [.int 0, .int to_gustyCorners, .int 0, .int to_draw, .int to_drawTold, to_cornerNames, to_winds, to_lees, to_gustChances, to_gusts, to_guildNames, to_cloths, to_trues, to_strengths, to_reefs, to_pull, to_hold]))] (fun r W' => (-1) = r ∧ W' = []) := by
  refine MIof (by decide) (Nat.le_of_ble_eq_true rfl) ?_
  intro p e s m below meth c A ls H locs hcx hA hP hD hS hl
  obtain ⟨hx, hb, hml, hr, hlocks, hown, hts, hE, hnm⟩ := id hcx
  have hown : s.vm.findClass RX10 = some m.cls := hown
  have hK := hE.1
  have hl : lv_has ls 2 [(0, .ref h0), (1, .int p0)] := hl
  refine lv_aload_n hx hb dX10_far_0 rfl (lv_at hl 0 rfl) ?_
  refine va_get (D := g.1) (ci := 10) (v := Value.ref to) (C := RX10) (T := TX10) (N := 14) hx hb hts inlX10 hown hK hP 0 rfl rfl 4 (by decide) (hts _ q1_22) (fun _ h9 => h9) rfl dX10_far_1 ?_
  refine lv_iload_n hx hb dX10_far_4 rfl (lv_at hl 1 rfl) ?_
  refine kI (wc := [(to, .inr (9, [.int 0, .int to_gustyCorners, .int 0, .int to_draw, .int to_drawTold, to_cornerNames, to_winds, to_lees, to_gustChances, to_gusts, to_guildNames, to_cloths, to_trues, to_strengths, to_reefs, to_pull, to_hold]))]) (wr := [(h0, .inr (10, [h0_tape, .int h0_tapeLength, h0_reader, h0_draft, .ref to, h0_course, h0_now, h0_history, h0_boxes, h0_boxFilled, h0_lying, h0_outlook, h0_sightings, .int h0_time]))]) (rV (As := [.int p0]) (rest := []) (meth2 := "") hcx (c_X9_hasGuild H.size) (gdV q32_17 q32_18 q32_19 q1_20 q32_20) dvX9_hasGuild ⟨Nat.le_of_ble_eq_true rfl, Nat.le_of_ble_eq_true rfl⟩ (hP.sub [1] rfl) (hD.sub [1] (by decide) rfl) (va_recv hK hP (ci := 9) (q0 := 1) rfl rfl) rfl hl.1 rfl (Nat.le_of_ble_eq_true rfl) dX10_far_5 ⟨Nat.le_of_ble_eq_true rfl, Nat.le_of_ble_eq_true rfl⟩) hP hD hS hA [1] [0] rfl rfl (by decide) (by decide) (fun r W' H locs hw hP hD hS => ?_)
  obtain ⟨rfl, rfl⟩ := hw
  have hP : va_P g.1 vwCl [(h0, .inr (10, [h0_tape, .int h0_tapeLength, h0_reader, h0_draft, .ref to, h0_course, h0_now, h0_history, h0_boxes, h0_boxFilled, h0_lying, h0_outlook, h0_sightings, .int h0_time])), (to, .inr (9, [.int 0, .int to_gustyCorners, .int 0, .int to_draw, .int to_drawTold, to_cornerNames, to_winds, to_lees, to_gustChances, to_gusts, to_guildNames, to_cloths, to_trues, to_strengths, to_reefs, to_pull, to_hold]))] H := hP
  have hD : va_D A [(h0, .inr (10, [h0_tape, .int h0_tapeLength, h0_reader, h0_draft, .ref to, h0_course, h0_now, h0_history, h0_boxes, h0_boxFilled, h0_lying, h0_outlook, h0_sightings, .int h0_time])), (to, .inr (9, [.int 0, .int to_gustyCorners, .int 0, .int to_draw, .int to_drawTold, to_cornerNames, to_winds, to_lees, to_gustChances, to_gusts, to_guildNames, to_cloths, to_trues, to_strengths, to_reefs, to_pull, to_hold]))] := hD
  refine lv_if_eq (tgt := 22) hx hb dX10_far_8 (by decide) (fun _ => ?_) (fun c1 => absurd (by decide) c1)
  refine lv_iconst (v := (-1)) hx hb dX10_far_22 (by decide) ?_
  have hP9 : va_P g.1 vwCl [] H := hP.sub [] rfl
  have hD9 : va_D A [] := hD.sub [] (by decide) rfl
  exact xi hx hb hr hlocks rfl hP9 hD9 hS ⟨rfl, rfl⟩ (Nat.le_of_ble_eq_true rfl) (Nat.le_of_ble_eq_true rfl) dX10_far_23

set_option maxHeartbeats 4000000 in
set_option maxRecDepth 100000 in
theorem c_X10_bears {l : Launch} {g : Gx} {h0 to : Nat} {p0 : Int32} {h0_tape : Value} {h0_tapeLength : Int32} {h0_reader : Value} {h0_draft : Value} {h0_course : Value} {h0_now : Value} {h0_history : Value} {h0_boxes : Value} {h0_boxFilled : Value} {h0_lying : Value} {h0_outlook : Value} {h0_sightings : Value} {h0_time : Int32} {to_gustyCorners : Int32} {to_draw : Int32} {to_drawTold : Int32} {to_cornerNames : Value} {to_winds : Value} {to_lees : Value} {to_gustChances : Value} {to_gusts : Value} {to_guildNames : Value} {to_cloths : Value} {to_trues : Value} {to_strengths : Value} {to_reefs : Value} {to_pull : Value} {to_hold : Value} : MI l g yX10_bears cX10_bears 2 (some .int) 3 0 0 [.ref h0, .int p0] [(h0, .inr (10, [h0_tape, .int h0_tapeLength, h0_reader, h0_draft, .ref to, h0_course, h0_now, h0_history, h0_boxes, h0_boxFilled, h0_lying, h0_outlook, h0_sightings, .int h0_time])), (to, .inr (9, [.int 0, .int to_gustyCorners, .int 0, .int to_draw, .int to_drawTold, to_cornerNames, to_winds, to_lees, to_gustChances, to_gusts, to_guildNames, to_cloths, to_trues, to_strengths, to_reefs, to_pull, to_hold]))] (fun r W' => (-1) = r ∧ W' = []) := by
  refine MIof (by decide) (Nat.le_of_ble_eq_true rfl) ?_
  intro p e s m below meth c A ls H locs hcx hA hP hD hS hl
  obtain ⟨hx, hb, hml, hr, hlocks, hown, hts, hE, hnm⟩ := id hcx
  have hown : s.vm.findClass RX10 = some m.cls := hown
  have hK := hE.1
  have hl : lv_has ls 2 [(0, .ref h0), (1, .int p0)] := hl
  refine lv_aload_n hx hb dX10_bears_0 rfl (lv_at hl 0 rfl) ?_
  refine va_get (D := g.1) (ci := 10) (v := Value.ref to) (C := RX10) (T := TX10) (N := 14) hx hb hts inlX10 hown hK hP 0 rfl rfl 4 (by decide) (hts _ q1_22) (fun _ h9 => h9) rfl dX10_bears_1 ?_
  refine lv_iload_n hx hb dX10_bears_4 rfl (lv_at hl 1 rfl) ?_
  refine kI (wc := [(to, .inr (9, [.int 0, .int to_gustyCorners, .int 0, .int to_draw, .int to_drawTold, to_cornerNames, to_winds, to_lees, to_gustChances, to_gusts, to_guildNames, to_cloths, to_trues, to_strengths, to_reefs, to_pull, to_hold]))]) (wr := [(h0, .inr (10, [h0_tape, .int h0_tapeLength, h0_reader, h0_draft, .ref to, h0_course, h0_now, h0_history, h0_boxes, h0_boxFilled, h0_lying, h0_outlook, h0_sightings, .int h0_time]))]) (rV (As := [.int p0]) (rest := []) (meth2 := "") hcx (c_X9_hasGuild H.size) (gdV q32_17 q32_18 q32_19 q1_20 q32_20) dvX9_hasGuild ⟨Nat.le_of_ble_eq_true rfl, Nat.le_of_ble_eq_true rfl⟩ (hP.sub [1] rfl) (hD.sub [1] (by decide) rfl) (va_recv hK hP (ci := 9) (q0 := 1) rfl rfl) rfl hl.1 rfl (Nat.le_of_ble_eq_true rfl) dX10_bears_5 ⟨Nat.le_of_ble_eq_true rfl, Nat.le_of_ble_eq_true rfl⟩) hP hD hS hA [1] [0] rfl rfl (by decide) (by decide) (fun r W' H locs hw hP hD hS => ?_)
  obtain ⟨rfl, rfl⟩ := hw
  have hP : va_P g.1 vwCl [(h0, .inr (10, [h0_tape, .int h0_tapeLength, h0_reader, h0_draft, .ref to, h0_course, h0_now, h0_history, h0_boxes, h0_boxFilled, h0_lying, h0_outlook, h0_sightings, .int h0_time])), (to, .inr (9, [.int 0, .int to_gustyCorners, .int 0, .int to_draw, .int to_drawTold, to_cornerNames, to_winds, to_lees, to_gustChances, to_gusts, to_guildNames, to_cloths, to_trues, to_strengths, to_reefs, to_pull, to_hold]))] H := hP
  have hD : va_D A [(h0, .inr (10, [h0_tape, .int h0_tapeLength, h0_reader, h0_draft, .ref to, h0_course, h0_now, h0_history, h0_boxes, h0_boxFilled, h0_lying, h0_outlook, h0_sightings, .int h0_time])), (to, .inr (9, [.int 0, .int to_gustyCorners, .int 0, .int to_draw, .int to_drawTold, to_cornerNames, to_winds, to_lees, to_gustChances, to_gusts, to_guildNames, to_cloths, to_trues, to_strengths, to_reefs, to_pull, to_hold]))] := hD
  refine lv_if_eq (tgt := 22) hx hb dX10_bears_8 (by decide) (fun _ => ?_) (fun c1 => absurd (by decide) c1)
  refine lv_iconst (v := (-1)) hx hb dX10_bears_22 (by decide) ?_
  have hP9 : va_P g.1 vwCl [] H := hP.sub [] rfl
  have hD9 : va_D A [] := hD.sub [] (by decide) rfl
  exact xi hx hb hr hlocks rfl hP9 hD9 hS ⟨rfl, rfl⟩ (Nat.le_of_ble_eq_true rfl) (Nat.le_of_ble_eq_true rfl) dX10_bears_23

set_option maxHeartbeats 4000000 in
set_option maxRecDepth 100000 in
theorem c_X10_host {l : Launch} {g : Gx} {h0 to : Nat} {p0 : Int32} {p1 : Int32} {h0_tape : Value} {h0_tapeLength : Int32} {h0_reader : Value} {h0_draft : Value} {h0_course : Value} {h0_now : Value} {h0_history : Value} {h0_boxes : Value} {h0_boxFilled : Value} {h0_lying : Value} {h0_outlook : Value} {h0_sightings : Value} {h0_time : Int32} {to_gustyCorners : Int32} {to_draw : Int32} {to_drawTold : Int32} {to_cornerNames : Value} {to_winds : Value} {to_lees : Value} {to_gustChances : Value} {to_gusts : Value} {to_guildNames : Value} {to_cloths : Value} {to_trues : Value} {to_strengths : Value} {to_reefs : Value} {to_pull : Value} {to_hold : Value} : MI l g yX10_host cX10_host 3 (some .int) 3 0 0 [.ref h0, .int p0, .int p1] [(h0, .inr (10, [h0_tape, .int h0_tapeLength, h0_reader, h0_draft, .ref to, h0_course, h0_now, h0_history, h0_boxes, h0_boxFilled, h0_lying, h0_outlook, h0_sightings, .int h0_time])), (to, .inr (9, [.int 0, .int to_gustyCorners, .int 0, .int to_draw, .int to_drawTold, to_cornerNames, to_winds, to_lees, to_gustChances, to_gusts, to_guildNames, to_cloths, to_trues, to_strengths, to_reefs, to_pull, to_hold]))] (fun r W' => (-1) = r ∧ W' = []) := by
  refine MIof (by decide) (Nat.le_of_ble_eq_true rfl) ?_
  intro p e s m below meth c A ls H locs hcx hA hP hD hS hl
  obtain ⟨hx, hb, hml, hr, hlocks, hown, hts, hE, hnm⟩ := id hcx
  have hown : s.vm.findClass RX10 = some m.cls := hown
  have hK := hE.1
  have hl : lv_has ls 3 [(0, .ref h0), (1, .int p0), (2, .int p1)] := hl
  refine lv_aload_n hx hb dX10_host_0 rfl (lv_at hl 0 rfl) ?_
  refine va_get (D := g.1) (ci := 10) (v := Value.ref to) (C := RX10) (T := TX10) (N := 14) hx hb hts inlX10 hown hK hP 0 rfl rfl 4 (by decide) (hts _ q1_22) (fun _ h9 => h9) rfl dX10_host_1 ?_
  refine lv_iload_n hx hb dX10_host_4 rfl (lv_at hl 1 rfl) ?_
  refine kI (wc := [(to, .inr (9, [.int 0, .int to_gustyCorners, .int 0, .int to_draw, .int to_drawTold, to_cornerNames, to_winds, to_lees, to_gustChances, to_gusts, to_guildNames, to_cloths, to_trues, to_strengths, to_reefs, to_pull, to_hold]))]) (wr := [(h0, .inr (10, [h0_tape, .int h0_tapeLength, h0_reader, h0_draft, .ref to, h0_course, h0_now, h0_history, h0_boxes, h0_boxFilled, h0_lying, h0_outlook, h0_sightings, .int h0_time]))]) (rV (As := [.int p0]) (rest := []) (meth2 := "") hcx (c_X9_hasGuild H.size) (gdV q32_17 q32_18 q32_19 q1_20 q32_20) dvX9_hasGuild ⟨Nat.le_of_ble_eq_true rfl, Nat.le_of_ble_eq_true rfl⟩ (hP.sub [1] rfl) (hD.sub [1] (by decide) rfl) (va_recv hK hP (ci := 9) (q0 := 1) rfl rfl) rfl hl.1 rfl (Nat.le_of_ble_eq_true rfl) dX10_host_5 ⟨Nat.le_of_ble_eq_true rfl, Nat.le_of_ble_eq_true rfl⟩) hP hD hS hA [1] [0] rfl rfl (by decide) (by decide) (fun r W' H locs hw hP hD hS => ?_)
  obtain ⟨rfl, rfl⟩ := hw
  have hP : va_P g.1 vwCl [(h0, .inr (10, [h0_tape, .int h0_tapeLength, h0_reader, h0_draft, .ref to, h0_course, h0_now, h0_history, h0_boxes, h0_boxFilled, h0_lying, h0_outlook, h0_sightings, .int h0_time])), (to, .inr (9, [.int 0, .int to_gustyCorners, .int 0, .int to_draw, .int to_drawTold, to_cornerNames, to_winds, to_lees, to_gustChances, to_gusts, to_guildNames, to_cloths, to_trues, to_strengths, to_reefs, to_pull, to_hold]))] H := hP
  have hD : va_D A [(h0, .inr (10, [h0_tape, .int h0_tapeLength, h0_reader, h0_draft, .ref to, h0_course, h0_now, h0_history, h0_boxes, h0_boxFilled, h0_lying, h0_outlook, h0_sightings, .int h0_time])), (to, .inr (9, [.int 0, .int to_gustyCorners, .int 0, .int to_draw, .int to_drawTold, to_cornerNames, to_winds, to_lees, to_gustChances, to_gusts, to_guildNames, to_cloths, to_trues, to_strengths, to_reefs, to_pull, to_hold]))] := hD
  refine lv_if_eq (tgt := 20) hx hb dX10_host_8 (by decide) (fun _ => ?_) (fun c1 => absurd (by decide) c1)
  refine lv_iconst (v := (-1)) hx hb dX10_host_20 (by decide) ?_
  have hP9 : va_P g.1 vwCl [] H := hP.sub [] rfl
  have hD9 : va_D A [] := hD.sub [] (by decide) rfl
  exact xi hx hb hr hlocks rfl hP9 hD9 hS ⟨rfl, rfl⟩ (Nat.le_of_ble_eq_true rfl) (Nat.le_of_ble_eq_true rfl) dX10_host_21

set_option maxHeartbeats 4000000 in
set_option maxRecDepth 100000 in
theorem c_X10_odds {l : Launch} {g : Gx} {h0 to : Nat} {p0 : Int32} {p1 : Int32} {h0_tape : Value} {h0_tapeLength : Int32} {h0_reader : Value} {h0_draft : Value} {h0_course : Value} {h0_now : Value} {h0_history : Value} {h0_boxes : Value} {h0_boxFilled : Value} {h0_lying : Value} {h0_outlook : Value} {h0_sightings : Value} {h0_time : Int32} {to_gustyCorners : Int32} {to_draw : Int32} {to_drawTold : Int32} {to_cornerNames : Value} {to_winds : Value} {to_lees : Value} {to_gustChances : Value} {to_gusts : Value} {to_guildNames : Value} {to_cloths : Value} {to_trues : Value} {to_strengths : Value} {to_reefs : Value} {to_pull : Value} {to_hold : Value} : MI l g yX10_odds cX10_odds 3 (some .int) 3 0 0 [.ref h0, .int p0, .int p1] [(h0, .inr (10, [h0_tape, .int h0_tapeLength, h0_reader, h0_draft, .ref to, h0_course, h0_now, h0_history, h0_boxes, h0_boxFilled, h0_lying, h0_outlook, h0_sightings, .int h0_time])), (to, .inr (9, [.int 0, .int to_gustyCorners, .int 0, .int to_draw, .int to_drawTold, to_cornerNames, to_winds, to_lees, to_gustChances, to_gusts, to_guildNames, to_cloths, to_trues, to_strengths, to_reefs, to_pull, to_hold]))] (fun r W' => (-1) = r ∧ W' = []) := by
  refine MIof (by decide) (Nat.le_of_ble_eq_true rfl) ?_
  intro p e s m below meth c A ls H locs hcx hA hP hD hS hl
  obtain ⟨hx, hb, hml, hr, hlocks, hown, hts, hE, hnm⟩ := id hcx
  have hown : s.vm.findClass RX10 = some m.cls := hown
  have hK := hE.1
  have hl : lv_has ls 3 [(0, .ref h0), (1, .int p0), (2, .int p1)] := hl
  refine lv_aload_n hx hb dX10_odds_0 rfl (lv_at hl 0 rfl) ?_
  refine va_get (D := g.1) (ci := 10) (v := Value.ref to) (C := RX10) (T := TX10) (N := 14) hx hb hts inlX10 hown hK hP 0 rfl rfl 4 (by decide) (hts _ q1_22) (fun _ h9 => h9) rfl dX10_odds_1 ?_
  refine lv_iload_n hx hb dX10_odds_4 rfl (lv_at hl 1 rfl) ?_
  refine kI (wc := [(to, .inr (9, [.int 0, .int to_gustyCorners, .int 0, .int to_draw, .int to_drawTold, to_cornerNames, to_winds, to_lees, to_gustChances, to_gusts, to_guildNames, to_cloths, to_trues, to_strengths, to_reefs, to_pull, to_hold]))]) (wr := [(h0, .inr (10, [h0_tape, .int h0_tapeLength, h0_reader, h0_draft, .ref to, h0_course, h0_now, h0_history, h0_boxes, h0_boxFilled, h0_lying, h0_outlook, h0_sightings, .int h0_time]))]) (rV (As := [.int p0]) (rest := []) (meth2 := "") hcx (c_X9_hasGuild H.size) (gdV q32_17 q32_18 q32_19 q1_20 q32_20) dvX9_hasGuild ⟨Nat.le_of_ble_eq_true rfl, Nat.le_of_ble_eq_true rfl⟩ (hP.sub [1] rfl) (hD.sub [1] (by decide) rfl) (va_recv hK hP (ci := 9) (q0 := 1) rfl rfl) rfl hl.1 rfl (Nat.le_of_ble_eq_true rfl) dX10_odds_5 ⟨Nat.le_of_ble_eq_true rfl, Nat.le_of_ble_eq_true rfl⟩) hP hD hS hA [1] [0] rfl rfl (by decide) (by decide) (fun r W' H locs hw hP hD hS => ?_)
  obtain ⟨rfl, rfl⟩ := hw
  have hP : va_P g.1 vwCl [(h0, .inr (10, [h0_tape, .int h0_tapeLength, h0_reader, h0_draft, .ref to, h0_course, h0_now, h0_history, h0_boxes, h0_boxFilled, h0_lying, h0_outlook, h0_sightings, .int h0_time])), (to, .inr (9, [.int 0, .int to_gustyCorners, .int 0, .int to_draw, .int to_drawTold, to_cornerNames, to_winds, to_lees, to_gustChances, to_gusts, to_guildNames, to_cloths, to_trues, to_strengths, to_reefs, to_pull, to_hold]))] H := hP
  have hD : va_D A [(h0, .inr (10, [h0_tape, .int h0_tapeLength, h0_reader, h0_draft, .ref to, h0_course, h0_now, h0_history, h0_boxes, h0_boxFilled, h0_lying, h0_outlook, h0_sightings, .int h0_time])), (to, .inr (9, [.int 0, .int to_gustyCorners, .int 0, .int to_draw, .int to_drawTold, to_cornerNames, to_winds, to_lees, to_gustChances, to_gusts, to_guildNames, to_cloths, to_trues, to_strengths, to_reefs, to_pull, to_hold]))] := hD
  refine lv_if_eq (tgt := 20) hx hb dX10_odds_8 (by decide) (fun _ => ?_) (fun c1 => absurd (by decide) c1)
  refine lv_iconst (v := (-1)) hx hb dX10_odds_20 (by decide) ?_
  have hP9 : va_P g.1 vwCl [] H := hP.sub [] rfl
  have hD9 : va_D A [] := hD.sub [] (by decide) rfl
  exact xi hx hb hr hlocks rfl hP9 hD9 hS ⟨rfl, rfl⟩ (Nat.le_of_ble_eq_true rfl) (Nat.le_of_ble_eq_true rfl) dX10_odds_21

set_option maxHeartbeats 4000000 in
set_option maxRecDepth 100000 in
theorem c_X10_least {l : Launch} {g : Gx} {h0 to : Nat} {p0 : Int32} {h0_tape : Value} {h0_tapeLength : Int32} {h0_reader : Value} {h0_draft : Value} {h0_course : Value} {h0_now : Value} {h0_history : Value} {h0_boxes : Value} {h0_boxFilled : Value} {h0_lying : Value} {h0_outlook : Value} {h0_sightings : Value} {h0_time : Int32} {to_gustyCorners : Int32} {to_draw : Int32} {to_drawTold : Int32} {to_cornerNames : Value} {to_winds : Value} {to_lees : Value} {to_gustChances : Value} {to_gusts : Value} {to_guildNames : Value} {to_cloths : Value} {to_trues : Value} {to_strengths : Value} {to_reefs : Value} {to_pull : Value} {to_hold : Value} : MI l g yX10_least cX10_least 2 (some .int) 4 0 0 [.ref h0, .int p0] [(h0, .inr (10, [h0_tape, .int h0_tapeLength, h0_reader, h0_draft, .ref to, h0_course, h0_now, h0_history, h0_boxes, h0_boxFilled, h0_lying, h0_outlook, h0_sightings, .int h0_time])), (to, .inr (9, [.int 0, .int to_gustyCorners, .int 0, .int to_draw, .int to_drawTold, to_cornerNames, to_winds, to_lees, to_gustChances, to_gusts, to_guildNames, to_cloths, to_trues, to_strengths, to_reefs, to_pull, to_hold]))] (fun r W' => (-1) = r ∧ W' = []) := by
  refine MIof (by decide) (Nat.le_of_ble_eq_true rfl) ?_
  intro p e s m below meth c A ls H locs hcx hA hP hD hS hl
  obtain ⟨hx, hb, hml, hr, hlocks, hown, hts, hE, hnm⟩ := id hcx
  have hown : s.vm.findClass RX10 = some m.cls := hown
  have hK := hE.1
  have hl : lv_has ls 2 [(0, .ref h0), (1, .int p0)] := hl
  refine lv_aload_n hx hb dX10_least_0 rfl (lv_at hl 0 rfl) ?_
  refine lv_iload_n hx hb dX10_least_1 rfl (lv_at hl 1 rfl) ?_
  refine kI (wc := [(h0, .inr (10, [h0_tape, .int h0_tapeLength, h0_reader, h0_draft, .ref to, h0_course, h0_now, h0_history, h0_boxes, h0_boxFilled, h0_lying, h0_outlook, h0_sightings, .int h0_time])), (to, .inr (9, [.int 0, .int to_gustyCorners, .int 0, .int to_draw, .int to_drawTold, to_cornerNames, to_winds, to_lees, to_gustChances, to_gusts, to_guildNames, to_cloths, to_trues, to_strengths, to_reefs, to_pull, to_hold]))]) (wr := []) (rV (As := [.int p0]) (rest := []) (meth2 := "") hcx (c_X10_isBearerUp H.size) (gdV q37_19 q37_20 q37_21 q1_2 q37_22) dvX10_isBearerUp ⟨Nat.le_of_ble_eq_true rfl, Nat.le_of_ble_eq_true rfl⟩ (hP.sub [0, 1] rfl) (hD.sub [0, 1] (by decide) rfl) (va_recv hK hP (ci := 10) (q0 := 0) rfl rfl) rfl hl.1 rfl (Nat.le_of_ble_eq_true rfl) dX10_least_2 ⟨Nat.le_of_ble_eq_true rfl, Nat.le_of_ble_eq_true rfl⟩) hP hD hS hA [0, 1] [] rfl rfl (by decide) (by decide) (fun r W' H locs hw hP hD hS => ?_)
  obtain ⟨rfl, rfl⟩ := hw
  have hP : va_P g.1 vwCl [(h0, .inr (10, [h0_tape, .int h0_tapeLength, h0_reader, h0_draft, .ref to, h0_course, h0_now, h0_history, h0_boxes, h0_boxFilled, h0_lying, h0_outlook, h0_sightings, .int h0_time])), (to, .inr (9, [.int 0, .int to_gustyCorners, .int 0, .int to_draw, .int to_drawTold, to_cornerNames, to_winds, to_lees, to_gustChances, to_gusts, to_guildNames, to_cloths, to_trues, to_strengths, to_reefs, to_pull, to_hold]))] H := hP
  have hD : va_D A [(h0, .inr (10, [h0_tape, .int h0_tapeLength, h0_reader, h0_draft, .ref to, h0_course, h0_now, h0_history, h0_boxes, h0_boxFilled, h0_lying, h0_outlook, h0_sightings, .int h0_time])), (to, .inr (9, [.int 0, .int to_gustyCorners, .int 0, .int to_draw, .int to_drawTold, to_cornerNames, to_winds, to_lees, to_gustChances, to_gusts, to_guildNames, to_cloths, to_trues, to_strengths, to_reefs, to_pull, to_hold]))] := hD
  refine lv_if_eq (tgt := 19) hx hb dX10_least_5 (by decide) (fun _ => ?_) (fun c1 => absurd (by decide) c1)
  refine lv_iconst (v := (-1)) hx hb dX10_least_19 (by decide) ?_
  have hP9 : va_P g.1 vwCl [] H := hP.sub [] rfl
  have hD9 : va_D A [] := hD.sub [] (by decide) rfl
  exact xi hx hb hr hlocks rfl hP9 hD9 hS ⟨rfl, rfl⟩ (Nat.le_of_ble_eq_true rfl) (Nat.le_of_ble_eq_true rfl) dX10_least_20

set_option maxHeartbeats 4000000 in
set_option maxRecDepth 100000 in
theorem c_X10_need {l : Launch} {g : Gx} {h0 to : Nat} {p0 : Int32} {h0_tape : Value} {h0_tapeLength : Int32} {h0_reader : Value} {h0_draft : Value} {h0_course : Value} {h0_now : Value} {h0_history : Value} {h0_boxes : Value} {h0_boxFilled : Value} {h0_lying : Value} {h0_outlook : Value} {h0_sightings : Value} {h0_time : Int32} {to_gustyCorners : Int32} {to_draw : Int32} {to_drawTold : Int32} {to_cornerNames : Value} {to_winds : Value} {to_lees : Value} {to_gustChances : Value} {to_gusts : Value} {to_guildNames : Value} {to_cloths : Value} {to_trues : Value} {to_strengths : Value} {to_reefs : Value} {to_pull : Value} {to_hold : Value} : MI l g yX10_need cX10_need 2 (some .int) 4 0 0 [.ref h0, .int p0] [(h0, .inr (10, [h0_tape, .int h0_tapeLength, h0_reader, h0_draft, .ref to, h0_course, h0_now, h0_history, h0_boxes, h0_boxFilled, h0_lying, h0_outlook, h0_sightings, .int h0_time])), (to, .inr (9, [.int 0, .int to_gustyCorners, .int 0, .int to_draw, .int to_drawTold, to_cornerNames, to_winds, to_lees, to_gustChances, to_gusts, to_guildNames, to_cloths, to_trues, to_strengths, to_reefs, to_pull, to_hold]))] (fun r W' => (-1) = r ∧ W' = []) := by
  refine MIof (by decide) (Nat.le_of_ble_eq_true rfl) ?_
  intro p e s m below meth c A ls H locs hcx hA hP hD hS hl
  obtain ⟨hx, hb, hml, hr, hlocks, hown, hts, hE, hnm⟩ := id hcx
  have hown : s.vm.findClass RX10 = some m.cls := hown
  have hK := hE.1
  have hl : lv_has ls 2 [(0, .ref h0), (1, .int p0)] := hl
  refine lv_aload_n hx hb dX10_need_0 rfl (lv_at hl 0 rfl) ?_
  refine lv_iload_n hx hb dX10_need_1 rfl (lv_at hl 1 rfl) ?_
  refine kI (wc := [(h0, .inr (10, [h0_tape, .int h0_tapeLength, h0_reader, h0_draft, .ref to, h0_course, h0_now, h0_history, h0_boxes, h0_boxFilled, h0_lying, h0_outlook, h0_sightings, .int h0_time])), (to, .inr (9, [.int 0, .int to_gustyCorners, .int 0, .int to_draw, .int to_drawTold, to_cornerNames, to_winds, to_lees, to_gustChances, to_gusts, to_guildNames, to_cloths, to_trues, to_strengths, to_reefs, to_pull, to_hold]))]) (wr := []) (rV (As := [.int p0]) (rest := []) (meth2 := "") hcx (c_X10_isBearerUp H.size) (gdV q37_19 q37_20 q37_21 q1_2 q37_22) dvX10_isBearerUp ⟨Nat.le_of_ble_eq_true rfl, Nat.le_of_ble_eq_true rfl⟩ (hP.sub [0, 1] rfl) (hD.sub [0, 1] (by decide) rfl) (va_recv hK hP (ci := 10) (q0 := 0) rfl rfl) rfl hl.1 rfl (Nat.le_of_ble_eq_true rfl) dX10_need_2 ⟨Nat.le_of_ble_eq_true rfl, Nat.le_of_ble_eq_true rfl⟩) hP hD hS hA [0, 1] [] rfl rfl (by decide) (by decide) (fun r W' H locs hw hP hD hS => ?_)
  obtain ⟨rfl, rfl⟩ := hw
  have hP : va_P g.1 vwCl [(h0, .inr (10, [h0_tape, .int h0_tapeLength, h0_reader, h0_draft, .ref to, h0_course, h0_now, h0_history, h0_boxes, h0_boxFilled, h0_lying, h0_outlook, h0_sightings, .int h0_time])), (to, .inr (9, [.int 0, .int to_gustyCorners, .int 0, .int to_draw, .int to_drawTold, to_cornerNames, to_winds, to_lees, to_gustChances, to_gusts, to_guildNames, to_cloths, to_trues, to_strengths, to_reefs, to_pull, to_hold]))] H := hP
  have hD : va_D A [(h0, .inr (10, [h0_tape, .int h0_tapeLength, h0_reader, h0_draft, .ref to, h0_course, h0_now, h0_history, h0_boxes, h0_boxFilled, h0_lying, h0_outlook, h0_sightings, .int h0_time])), (to, .inr (9, [.int 0, .int to_gustyCorners, .int 0, .int to_draw, .int to_drawTold, to_cornerNames, to_winds, to_lees, to_gustChances, to_gusts, to_guildNames, to_cloths, to_trues, to_strengths, to_reefs, to_pull, to_hold]))] := hD
  refine lv_if_eq (tgt := 19) hx hb dX10_need_5 (by decide) (fun _ => ?_) (fun c1 => absurd (by decide) c1)
  refine lv_iconst (v := (-1)) hx hb dX10_need_19 (by decide) ?_
  have hP9 : va_P g.1 vwCl [] H := hP.sub [] rfl
  have hD9 : va_D A [] := hD.sub [] (by decide) rfl
  exact xi hx hb hr hlocks rfl hP9 hD9 hS ⟨rfl, rfl⟩ (Nat.le_of_ble_eq_true rfl) (Nat.le_of_ble_eq_true rfl) dX10_need_20

set_option maxHeartbeats 4000000 in
set_option maxRecDepth 100000 in
theorem c_X10_rivals {l : Launch} {g : Gx} {h0 to ly : Nat} {p0 : Int32} {p1 : Int32} {h0_tape : Value} {h0_tapeLength : Int32} {h0_reader : Value} {h0_draft : Value} {h0_course : Value} {h0_now : Value} {h0_history : Value} {h0_boxes : Value} {h0_boxFilled : Value} {h0_outlook : Value} {h0_sightings : Value} {h0_time : Int32} {to_gustyCorners : Int32} {to_draw : Int32} {to_drawTold : Int32} {to_cornerNames : Value} {to_winds : Value} {to_lees : Value} {to_gustChances : Value} {to_gusts : Value} {to_guildNames : Value} {to_cloths : Value} {to_trues : Value} {to_strengths : Value} {to_reefs : Value} {to_pull : Value} {to_hold : Value} {ly_numbers : Value} {ly_count : Int32} : MI l g yX10_rivals cX10_rivals 3 (some .int) 4 0 0 [.ref h0, .int p0, .int p1] [(h0, .inr (10, [h0_tape, .int h0_tapeLength, h0_reader, h0_draft, .ref to, h0_course, h0_now, h0_history, h0_boxes, h0_boxFilled, .ref ly, h0_outlook, h0_sightings, .int h0_time])), (to, .inr (9, [.int 0, .int to_gustyCorners, .int 0, .int to_draw, .int to_drawTold, to_cornerNames, to_winds, to_lees, to_gustChances, to_gusts, to_guildNames, to_cloths, to_trues, to_strengths, to_reefs, to_pull, to_hold])), (ly, .inr (3, [ly_numbers, .int ly_count]))] (fun r W' => (-1) = r ∧ W' = []) := by
  refine MIof (by decide) (Nat.le_of_ble_eq_true rfl) ?_
  intro p e s m below meth c A ls H locs hcx hA hP hD hS hl
  obtain ⟨hx, hb, hml, hr, hlocks, hown, hts, hE, hnm⟩ := id hcx
  have hown : s.vm.findClass RX10 = some m.cls := hown
  have hK := hE.1
  have hl : lv_has ls 3 [(0, .ref h0), (1, .int p0), (2, .int p1)] := hl
  refine lv_aload_n hx hb dX10_rivals_0 rfl (lv_at hl 0 rfl) ?_
  refine va_get (D := g.1) (ci := 10) (v := Value.ref ly) (C := RX10) (T := TX10) (N := 14) hx hb hts inlX10 hown hK hP 0 rfl rfl 10 (by decide) (hts _ q2_17) (fun _ h9 => h9) rfl dX10_rivals_1 ?_
  refine kV (wc := [(ly, .inr (3, [ly_numbers, .int ly_count]))]) (wr := [(h0, .inr (10, [h0_tape, .int h0_tapeLength, h0_reader, h0_draft, .ref to, h0_course, h0_now, h0_history, h0_boxes, h0_boxFilled, .ref ly, h0_outlook, h0_sightings, .int h0_time])), (to, .inr (9, [.int 0, .int to_gustyCorners, .int 0, .int to_draw, .int to_drawTold, to_cornerNames, to_winds, to_lees, to_gustChances, to_gusts, to_guildNames, to_cloths, to_trues, to_strengths, to_reefs, to_pull, to_hold]))]) (rV (As := []) (rest := []) (meth2 := "") hcx (c_X3_clear H.size) (gdV q12_0 q12_1 q12_2 q2_16 q12_3) dvX3_clear ⟨Nat.le_of_ble_eq_true rfl, Nat.le_of_ble_eq_true rfl⟩ (hP.sub [2] rfl) (hD.sub [2] (by decide) rfl) (va_recv hK hP (ci := 3) (q0 := 2) rfl rfl) rfl hl.1 rfl (Nat.le_of_ble_eq_true rfl) dX10_rivals_4 ⟨Nat.le_of_ble_eq_true rfl, Nat.le_of_ble_eq_true rfl⟩) hP hD hS hA [2] [0, 1] rfl rfl (by decide) (by decide) (fun W' H locs hw hP hD hS => ?_)
  obtain rfl := hw
  have hP : va_P g.1 vwCl [(h0, .inr (10, [h0_tape, .int h0_tapeLength, h0_reader, h0_draft, .ref to, h0_course, h0_now, h0_history, h0_boxes, h0_boxFilled, .ref ly, h0_outlook, h0_sightings, .int h0_time])), (to, .inr (9, [.int 0, .int to_gustyCorners, .int 0, .int to_draw, .int to_drawTold, to_cornerNames, to_winds, to_lees, to_gustChances, to_gusts, to_guildNames, to_cloths, to_trues, to_strengths, to_reefs, to_pull, to_hold])), (ly, .inr (3, [ly_numbers, .int 0]))] H := hP
  have hD : va_D A [(h0, .inr (10, [h0_tape, .int h0_tapeLength, h0_reader, h0_draft, .ref to, h0_course, h0_now, h0_history, h0_boxes, h0_boxFilled, .ref ly, h0_outlook, h0_sightings, .int h0_time])), (to, .inr (9, [.int 0, .int to_gustyCorners, .int 0, .int to_draw, .int to_drawTold, to_cornerNames, to_winds, to_lees, to_gustChances, to_gusts, to_guildNames, to_cloths, to_trues, to_strengths, to_reefs, to_pull, to_hold])), (ly, .inr (3, [ly_numbers, .int 0]))] := hD
  refine lv_iload_n hx hb dX10_rivals_7 rfl (lv_at hl 1 rfl) ?_
  refine lv_iload_n hx hb dX10_rivals_8 rfl (lv_at hl 2 rfl) ?_
  refine lv_icmp_eq (tgt := 28) hx hb dX10_rivals_9 (by decide) (fun c1 => ?_) (fun c1 => ?_)
  · refine lv_iconst (v := (-1)) hx hb dX10_rivals_28 (by decide) ?_
    have hP9 : va_P g.1 vwCl [] H := hP.sub [] rfl
    have hD9 : va_D A [] := hD.sub [] (by decide) rfl
    exact xi hx hb hr hlocks rfl hP9 hD9 hS ⟨rfl, rfl⟩ (Nat.le_of_ble_eq_true rfl) (Nat.le_of_ble_eq_true rfl) dX10_rivals_29
  · refine lv_aload_n hx hb dX10_rivals_12 rfl (lv_at hl 0 rfl) ?_
    refine lv_iload_n hx hb dX10_rivals_13 rfl (lv_at hl 1 rfl) ?_
    refine kI (wc := [(h0, .inr (10, [h0_tape, .int h0_tapeLength, h0_reader, h0_draft, .ref to, h0_course, h0_now, h0_history, h0_boxes, h0_boxFilled, .ref ly, h0_outlook, h0_sightings, .int h0_time])), (to, .inr (9, [.int 0, .int to_gustyCorners, .int 0, .int to_draw, .int to_drawTold, to_cornerNames, to_winds, to_lees, to_gustChances, to_gusts, to_guildNames, to_cloths, to_trues, to_strengths, to_reefs, to_pull, to_hold]))]) (wr := [(ly, .inr (3, [ly_numbers, .int 0]))]) (rV (As := [.int p0]) (rest := []) (meth2 := "") hcx (c_X10_isBearerUp H.size) (gdV q37_19 q37_20 q37_21 q1_2 q37_22) dvX10_isBearerUp ⟨Nat.le_of_ble_eq_true rfl, Nat.le_of_ble_eq_true rfl⟩ (hP.sub [0, 1] rfl) (hD.sub [0, 1] (by decide) rfl) (va_recv hK hP (ci := 10) (q0 := 0) rfl rfl) rfl hl.1 rfl (Nat.le_of_ble_eq_true rfl) dX10_rivals_14 ⟨Nat.le_of_ble_eq_true rfl, Nat.le_of_ble_eq_true rfl⟩) hP hD hS hA [0, 1] [2] rfl rfl (by decide) (by decide) (fun r W' H locs hw hP hD hS => ?_)
    obtain ⟨rfl, rfl⟩ := hw
    have hP : va_P g.1 vwCl [(ly, .inr (3, [ly_numbers, .int 0])), (h0, .inr (10, [h0_tape, .int h0_tapeLength, h0_reader, h0_draft, .ref to, h0_course, h0_now, h0_history, h0_boxes, h0_boxFilled, .ref ly, h0_outlook, h0_sightings, .int h0_time])), (to, .inr (9, [.int 0, .int to_gustyCorners, .int 0, .int to_draw, .int to_drawTold, to_cornerNames, to_winds, to_lees, to_gustChances, to_gusts, to_guildNames, to_cloths, to_trues, to_strengths, to_reefs, to_pull, to_hold]))] H := hP
    have hD : va_D A [(ly, .inr (3, [ly_numbers, .int 0])), (h0, .inr (10, [h0_tape, .int h0_tapeLength, h0_reader, h0_draft, .ref to, h0_course, h0_now, h0_history, h0_boxes, h0_boxFilled, .ref ly, h0_outlook, h0_sightings, .int h0_time])), (to, .inr (9, [.int 0, .int to_gustyCorners, .int 0, .int to_draw, .int to_drawTold, to_cornerNames, to_winds, to_lees, to_gustChances, to_gusts, to_guildNames, to_cloths, to_trues, to_strengths, to_reefs, to_pull, to_hold]))] := hD
    refine lv_if_eq (tgt := 28) hx hb dX10_rivals_17 (by decide) (fun _ => ?_) (fun c2 => absurd (by decide) c2)
    refine lv_iconst (v := (-1)) hx hb dX10_rivals_28 (by decide) ?_
    have hP9 : va_P g.1 vwCl [] H := hP.sub [] rfl
    have hD9 : va_D A [] := hD.sub [] (by decide) rfl
    exact xi hx hb hr hlocks rfl hP9 hD9 hS ⟨rfl, rfl⟩ (Nat.le_of_ble_eq_true rfl) (Nat.le_of_ble_eq_true rfl) dX10_rivals_29

set_option maxHeartbeats 4000000 in
set_option maxRecDepth 100000 in
theorem c_X10_undo {l : Launch} {g : Gx} {h0 hi no : Nat} {h0_tape : Value} {h0_tapeLength : Int32} {h0_reader : Value} {h0_draft : Value} {h0_told : Value} {h0_course : Value} {h0_boxes : Value} {h0_boxFilled : Value} {h0_lying : Value} {h0_outlook : Value} {h0_sightings : Value} {h0_time : Int32} {hi_states : Value} {hi_oldest : Int32} {hi_redoable : Int32} : MI l g yX10_undo cX10_undo 1 (some .boolean) 3 0 0 [.ref h0] [(h0, .inr (10, [h0_tape, .int h0_tapeLength, h0_reader, h0_draft, h0_told, h0_course, .ref no, .ref hi, h0_boxes, h0_boxFilled, h0_lying, h0_outlook, h0_sightings, .int h0_time])), (hi, .inr (2, [hi_states, .int hi_oldest, .int 0, .int hi_redoable]))] (fun r W' => 0 = r ∧ W' = []) := by
  refine MIof (by decide) (Nat.le_of_ble_eq_true rfl) ?_
  intro p e s m below meth c A ls H locs hcx hA hP hD hS hl
  obtain ⟨hx, hb, hml, hr, hlocks, hown, hts, hE, hnm⟩ := id hcx
  have hown : s.vm.findClass RX10 = some m.cls := hown
  have hK := hE.1
  have hl : lv_has ls 1 [(0, .ref h0)] := hl
  refine lv_aload_n hx hb dX10_undo_0 rfl (lv_at hl 0 rfl) ?_
  refine va_get (D := g.1) (ci := 10) (v := Value.ref hi) (C := RX10) (T := TX10) (N := 14) hx hb hts inlX10 hown hK hP 0 rfl rfl 7 (by decide) (hts _ q2_10) (fun _ h9 => h9) rfl dX10_undo_1 ?_
  refine lv_aload_n hx hb dX10_undo_4 rfl (lv_at hl 0 rfl) ?_
  refine va_get (D := g.1) (ci := 10) (v := Value.ref no) (C := RX10) (T := TX10) (N := 14) hx hb hts inlX10 hown hK hP 0 rfl rfl 6 (by decide) (hts _ q2_6) (fun _ h9 => h9) rfl dX10_undo_5 ?_
  refine kI (wc := [(hi, .inr (2, [hi_states, .int hi_oldest, .int 0, .int hi_redoable]))]) (wr := [(h0, .inr (10, [h0_tape, .int h0_tapeLength, h0_reader, h0_draft, h0_told, h0_course, .ref no, .ref hi, h0_boxes, h0_boxFilled, h0_lying, h0_outlook, h0_sightings, .int h0_time]))]) (rV (As := [.ref no]) (rest := []) (meth2 := "") hcx (c_X2_goBack H.size) (gdV q45_16 q45_17 q45_18 q2_9 q45_19) dvX2_goBack ⟨Nat.le_of_ble_eq_true rfl, Nat.le_of_ble_eq_true rfl⟩ (hP.sub [1] rfl) (hD.sub [1] (by decide) rfl) (va_recv hK hP (ci := 2) (q0 := 1) rfl rfl) rfl hl.1 rfl (Nat.le_of_ble_eq_true rfl) dX10_undo_8 ⟨Nat.le_of_ble_eq_true rfl, Nat.le_of_ble_eq_true rfl⟩) hP hD hS hA [1] [0] rfl rfl (by decide) (by decide) (fun r W' H locs hw hP hD hS => ?_)
  obtain ⟨rfl, rfl⟩ := hw
  have hP : va_P g.1 vwCl [(h0, .inr (10, [h0_tape, .int h0_tapeLength, h0_reader, h0_draft, h0_told, h0_course, .ref no, .ref hi, h0_boxes, h0_boxFilled, h0_lying, h0_outlook, h0_sightings, .int h0_time])), (hi, .inr (2, [hi_states, .int hi_oldest, .int 0, .int hi_redoable]))] H := hP
  have hD : va_D A [(h0, .inr (10, [h0_tape, .int h0_tapeLength, h0_reader, h0_draft, h0_told, h0_course, .ref no, .ref hi, h0_boxes, h0_boxFilled, h0_lying, h0_outlook, h0_sightings, .int h0_time])), (hi, .inr (2, [hi_states, .int hi_oldest, .int 0, .int hi_redoable]))] := hD
  have hP9 : va_P g.1 vwCl [] H := hP.sub [] rfl
  have hD9 : va_D A [] := hD.sub [] (by decide) rfl
  exact xi hx hb hr hlocks rfl hP9 hD9 hS ⟨rfl, rfl⟩ (Nat.le_of_ble_eq_true rfl) (Nat.le_of_ble_eq_true rfl) dX10_undo_11

set_option maxHeartbeats 4000000 in
set_option maxRecDepth 100000 in
theorem c_X10_redo {l : Launch} {g : Gx} {h0 hi no : Nat} {h0_tape : Value} {h0_tapeLength : Int32} {h0_reader : Value} {h0_draft : Value} {h0_told : Value} {h0_course : Value} {h0_boxes : Value} {h0_boxFilled : Value} {h0_lying : Value} {h0_outlook : Value} {h0_sightings : Value} {h0_time : Int32} {hi_states : Value} {hi_oldest : Int32} {hi_undoable : Int32} : MI l g yX10_redo cX10_redo 1 (some .boolean) 3 0 0 [.ref h0] [(h0, .inr (10, [h0_tape, .int h0_tapeLength, h0_reader, h0_draft, h0_told, h0_course, .ref no, .ref hi, h0_boxes, h0_boxFilled, h0_lying, h0_outlook, h0_sightings, .int h0_time])), (hi, .inr (2, [hi_states, .int hi_oldest, .int hi_undoable, .int 0]))] (fun r W' => 0 = r ∧ W' = []) := by
  refine MIof (by decide) (Nat.le_of_ble_eq_true rfl) ?_
  intro p e s m below meth c A ls H locs hcx hA hP hD hS hl
  obtain ⟨hx, hb, hml, hr, hlocks, hown, hts, hE, hnm⟩ := id hcx
  have hown : s.vm.findClass RX10 = some m.cls := hown
  have hK := hE.1
  have hl : lv_has ls 1 [(0, .ref h0)] := hl
  refine lv_aload_n hx hb dX10_redo_0 rfl (lv_at hl 0 rfl) ?_
  refine va_get (D := g.1) (ci := 10) (v := Value.ref hi) (C := RX10) (T := TX10) (N := 14) hx hb hts inlX10 hown hK hP 0 rfl rfl 7 (by decide) (hts _ q2_10) (fun _ h9 => h9) rfl dX10_redo_1 ?_
  refine lv_aload_n hx hb dX10_redo_4 rfl (lv_at hl 0 rfl) ?_
  refine va_get (D := g.1) (ci := 10) (v := Value.ref no) (C := RX10) (T := TX10) (N := 14) hx hb hts inlX10 hown hK hP 0 rfl rfl 6 (by decide) (hts _ q2_6) (fun _ h9 => h9) rfl dX10_redo_5 ?_
  refine kI (wc := [(hi, .inr (2, [hi_states, .int hi_oldest, .int hi_undoable, .int 0]))]) (wr := [(h0, .inr (10, [h0_tape, .int h0_tapeLength, h0_reader, h0_draft, h0_told, h0_course, .ref no, .ref hi, h0_boxes, h0_boxFilled, h0_lying, h0_outlook, h0_sightings, .int h0_time]))]) (rV (As := [.ref no]) (rest := []) (meth2 := "") hcx (c_X2_goOn H.size) (gdV q46_8 q46_9 q46_10 q2_9 q46_11) dvX2_goOn ⟨Nat.le_of_ble_eq_true rfl, Nat.le_of_ble_eq_true rfl⟩ (hP.sub [1] rfl) (hD.sub [1] (by decide) rfl) (va_recv hK hP (ci := 2) (q0 := 1) rfl rfl) rfl hl.1 rfl (Nat.le_of_ble_eq_true rfl) dX10_redo_8 ⟨Nat.le_of_ble_eq_true rfl, Nat.le_of_ble_eq_true rfl⟩) hP hD hS hA [1] [0] rfl rfl (by decide) (by decide) (fun r W' H locs hw hP hD hS => ?_)
  obtain ⟨rfl, rfl⟩ := hw
  have hP : va_P g.1 vwCl [(h0, .inr (10, [h0_tape, .int h0_tapeLength, h0_reader, h0_draft, h0_told, h0_course, .ref no, .ref hi, h0_boxes, h0_boxFilled, h0_lying, h0_outlook, h0_sightings, .int h0_time])), (hi, .inr (2, [hi_states, .int hi_oldest, .int hi_undoable, .int 0]))] H := hP
  have hD : va_D A [(h0, .inr (10, [h0_tape, .int h0_tapeLength, h0_reader, h0_draft, h0_told, h0_course, .ref no, .ref hi, h0_boxes, h0_boxFilled, h0_lying, h0_outlook, h0_sightings, .int h0_time])), (hi, .inr (2, [hi_states, .int hi_oldest, .int hi_undoable, .int 0]))] := hD
  have hP9 : va_P g.1 vwCl [] H := hP.sub [] rfl
  have hD9 : va_D A [] := hD.sub [] (by decide) rfl
  exact xi hx hb hr hlocks rfl hP9 hD9 hS ⟨rfl, rfl⟩ (Nat.le_of_ble_eq_true rfl) (Nat.le_of_ble_eq_true rfl) dX10_redo_11

set_option maxHeartbeats 4000000 in
set_option maxRecDepth 100000 in
theorem c_X10_day {l : Launch} {g : Gx} {h0 no no_or no_re no_ch no_ho no_gu to hi hi_st s1 s1_or s1_re s1_ch s1_ho s1_gu : Nat} {h0_tape : Value} {h0_tapeLength : Int32} {h0_reader : Value} {h0_draft : Value} {h0_course : Value} {h0_boxes : Value} {h0_boxFilled : Value} {h0_lying : Value} {h0_outlook : Value} {h0_sightings : Value} {h0_time : Int32} {no_standing : Int32} {no_seed : Int32} {no_firstTrue : Int32} {f_no_or : Nat → Int32} {f_no_re : Nat → Int32} {f_no_ch : Nat → Int32} {f_no_ho : Nat → Int32} {f_no_gu : Nat → Int32} {to_gustyCorners : Int32} {to_draw : Int32} {to_drawTold : Int32} {to_cornerNames : Value} {to_winds : Value} {to_lees : Value} {to_gustChances : Value} {to_gusts : Value} {to_guildNames : Value} {to_cloths : Value} {to_trues : Value} {to_strengths : Value} {to_reefs : Value} {to_pull : Value} {to_hold : Value} {hi_redoable : Int32} {f_hi_st : Nat → Option Nat} {s1_up : Int32} {s1_standing : Int32} {s1_day : Int32} {s1_seed : Int32} {s1_firstTrue : Int32} {f_s1_or : Nat → Int32} {f_s1_re : Nat → Int32} {f_s1_ch : Nat → Int32} {f_s1_ho : Nat → Int32} {f_s1_gu : Nat → Int32} (h_f_hi_st_1 : f_hi_st 1 = some s1) : MI l g yX10_day cX10_day 2 (some .int) 4 0 0 [.ref h0] [(h0, .inr (10, [h0_tape, .int h0_tapeLength, h0_reader, h0_draft, .ref to, h0_course, .ref no, .ref hi, h0_boxes, h0_boxFilled, h0_lying, h0_outlook, h0_sightings, .int h0_time])), (no, .inr (7, [.ref no_or, .ref no_re, .ref no_ch, .ref no_ho, .ref no_gu, .int 0, .int no_standing, .int 0, .int no_seed, .int no_firstTrue])), (no_or, .inl (gI g, 5, .inl f_no_or)), (no_re, .inl (gI g, 5, .inl f_no_re)), (no_ch, .inl (gI g, 5, .inl f_no_ch)), (no_ho, .inl (gI g, 5, .inl f_no_ho)), (no_gu, .inl (gI g, 5, .inl f_no_gu)), (to, .inr (9, [.int 0, .int to_gustyCorners, .int 0, .int to_draw, .int to_drawTold, to_cornerNames, to_winds, to_lees, to_gustChances, to_gusts, to_guildNames, to_cloths, to_trues, to_strengths, to_reefs, to_pull, to_hold])), (hi, .inr (2, [.ref hi_st, .int 0, .int 0, .int hi_redoable])), (hi_st, .inl (gO g, 41, .inr (.inr (.inr (.inr f_hi_st))))), (s1, .inr (7, [.ref s1_or, .ref s1_re, .ref s1_ch, .ref s1_ho, .ref s1_gu, .int s1_up, .int s1_standing, .int s1_day, .int s1_seed, .int s1_firstTrue])), (s1_or, .inl (gI g, 5, .inl f_s1_or)), (s1_re, .inl (gI g, 5, .inl f_s1_re)), (s1_ch, .inl (gI g, 5, .inl f_s1_ch)), (s1_ho, .inl (gI g, 5, .inl f_s1_ho)), (s1_gu, .inl (gI g, 5, .inl f_s1_gu))] (fun r W' => 0 = r ∧ W' = []) := by
  refine MIof (by decide) (Nat.le_of_ble_eq_true rfl) ?_
  intro p e s m below meth c A ls H locs hcx hA hP hD hS hl
  obtain ⟨hx, hb, hml, hr, hlocks, hown, hts, hE, hnm⟩ := id hcx
  have hown : s.vm.findClass RX10 = some m.cls := hown
  have hK := hE.1
  have hl : lv_has ls 2 [(0, .ref h0)] := hl
  refine lv_aload_n hx hb dX10_day_0 rfl (lv_at hl 0 rfl) ?_
  refine va_get (D := g.1) (ci := 10) (v := Value.ref no) (C := RX10) (T := TX10) (N := 14) hx hb hts inlX10 hown hK hP 0 rfl rfl 6 (by decide) (hts _ q2_6) (fun _ h9 => h9) rfl dX10_day_1 ?_
  refine va_get (D := g.1) (ci := 7) (v := Value.int 0) (C := RX7) (T := TX7) (N := 10) hx hb hts inlX7 hown hK hP 1 rfl rfl 7 (by decide) (hts _ q45_4) (fun _ h9 => h9) rfl dX10_day_4 ?_
  refine lv_sipush (v := 999) hx hb dX10_day_7 (by decide) ?_
  refine lv_icmp_lt (tgt := 15) hx hb dX10_day_10 (by decide) (fun _ => ?_) (fun c1 => absurd (by decide) c1)
  refine lv_aload_n hx hb dX10_day_15 rfl (lv_at hl 0 rfl) ?_
  refine va_get (D := g.1) (ci := 10) (v := Value.ref no) (C := RX10) (T := TX10) (N := 14) hx hb hts inlX10 hown hK hP 0 rfl rfl 6 (by decide) (hts _ q2_6) (fun _ h9 => h9) rfl dX10_day_16 ?_
  refine va_get (D := g.1) (ci := 7) (v := Value.int 0) (C := RX7) (T := TX7) (N := 10) hx hb hts inlX7 hown hK hP 1 rfl rfl 5 (by decide) (hts _ q45_5) (fun _ h9 => h9) rfl dX10_day_19 ?_
  refine lv_istore_n (lv' := [(1, .int 0), (0, .ref h0)]) hx hb dX10_day_22 rfl hl (by decide) rfl (fun ls hl => ?_)
  refine lv_aload_n hx hb dX10_day_23 rfl (lv_at hl 1 rfl) ?_
  refine va_get (D := g.1) (ci := 10) (v := Value.ref no) (C := RX10) (T := TX10) (N := 14) hx hb hts inlX10 hown hK hP 0 rfl rfl 6 (by decide) (hts _ q2_6) (fun _ h9 => h9) rfl dX10_day_24 ?_
  refine lv_aload_n hx hb dX10_day_27 rfl (lv_at hl 1 rfl) ?_
  refine va_get (D := g.1) (ci := 10) (v := Value.ref to) (C := RX10) (T := TX10) (N := 14) hx hb hts inlX10 hown hK hP 0 rfl rfl 4 (by decide) (hts _ q1_22) (fun _ h9 => h9) rfl dX10_day_28 ?_
  refine kI (wc := [(to, .inr (9, [.int 0, .int to_gustyCorners, .int 0, .int to_draw, .int to_drawTold, to_cornerNames, to_winds, to_lees, to_gustChances, to_gusts, to_guildNames, to_cloths, to_trues, to_strengths, to_reefs, to_pull, to_hold]))]) (wr := [(h0, .inr (10, [h0_tape, .int h0_tapeLength, h0_reader, h0_draft, .ref to, h0_course, .ref no, .ref hi, h0_boxes, h0_boxFilled, h0_lying, h0_outlook, h0_sightings, .int h0_time])), (no, .inr (7, [.ref no_or, .ref no_re, .ref no_ch, .ref no_ho, .ref no_gu, .int 0, .int no_standing, .int 0, .int no_seed, .int no_firstTrue])), (no_or, .inl (gI g, 5, .inl f_no_or)), (no_re, .inl (gI g, 5, .inl f_no_re)), (no_ch, .inl (gI g, 5, .inl f_no_ch)), (no_ho, .inl (gI g, 5, .inl f_no_ho)), (no_gu, .inl (gI g, 5, .inl f_no_gu)), (hi, .inr (2, [.ref hi_st, .int 0, .int 0, .int hi_redoable])), (hi_st, .inl (gO g, 41, .inr (.inr (.inr (.inr f_hi_st))))), (s1, .inr (7, [.ref s1_or, .ref s1_re, .ref s1_ch, .ref s1_ho, .ref s1_gu, .int s1_up, .int s1_standing, .int s1_day, .int s1_seed, .int s1_firstTrue])), (s1_or, .inl (gI g, 5, .inl f_s1_or)), (s1_re, .inl (gI g, 5, .inl f_s1_re)), (s1_ch, .inl (gI g, 5, .inl f_s1_ch)), (s1_ho, .inl (gI g, 5, .inl f_s1_ho)), (s1_gu, .inl (gI g, 5, .inl f_s1_gu))]) (rV (As := []) (rest := [.ref no]) (meth2 := "") hcx (c_X9_allGuilds H.size) (gdV q45_7 q11_6 q11_7 q1_20 q11_8) dvX9_allGuilds ⟨Nat.le_of_ble_eq_true rfl, Nat.le_of_ble_eq_true rfl⟩ (hP.sub [7] rfl) (hD.sub [7] (by decide) rfl) (va_recv hK hP (ci := 9) (q0 := 7) rfl rfl) rfl hl.1 rfl (Nat.le_of_ble_eq_true rfl) dX10_day_31 ⟨Nat.le_of_ble_eq_true rfl, Nat.le_of_ble_eq_true rfl⟩) hP hD hS hA [7] [0, 1, 2, 3, 4, 5, 6, 8, 9, 10, 11, 12, 13, 14, 15] rfl rfl (by decide) (by decide) (fun r W' H locs hw hP hD hS => ?_)
  obtain ⟨rfl, rfl⟩ := hw
  have hP : va_P g.1 vwCl [(h0, .inr (10, [h0_tape, .int h0_tapeLength, h0_reader, h0_draft, .ref to, h0_course, .ref no, .ref hi, h0_boxes, h0_boxFilled, h0_lying, h0_outlook, h0_sightings, .int h0_time])), (no, .inr (7, [.ref no_or, .ref no_re, .ref no_ch, .ref no_ho, .ref no_gu, .int 0, .int no_standing, .int 0, .int no_seed, .int no_firstTrue])), (no_or, .inl (gI g, 5, .inl f_no_or)), (no_re, .inl (gI g, 5, .inl f_no_re)), (no_ch, .inl (gI g, 5, .inl f_no_ch)), (no_ho, .inl (gI g, 5, .inl f_no_ho)), (no_gu, .inl (gI g, 5, .inl f_no_gu)), (hi, .inr (2, [.ref hi_st, .int 0, .int 0, .int hi_redoable])), (hi_st, .inl (gO g, 41, .inr (.inr (.inr (.inr f_hi_st))))), (s1, .inr (7, [.ref s1_or, .ref s1_re, .ref s1_ch, .ref s1_ho, .ref s1_gu, .int s1_up, .int s1_standing, .int s1_day, .int s1_seed, .int s1_firstTrue])), (s1_or, .inl (gI g, 5, .inl f_s1_or)), (s1_re, .inl (gI g, 5, .inl f_s1_re)), (s1_ch, .inl (gI g, 5, .inl f_s1_ch)), (s1_ho, .inl (gI g, 5, .inl f_s1_ho)), (s1_gu, .inl (gI g, 5, .inl f_s1_gu)), (to, .inr (9, [.int 0, .int to_gustyCorners, .int 0, .int to_draw, .int to_drawTold, to_cornerNames, to_winds, to_lees, to_gustChances, to_gusts, to_guildNames, to_cloths, to_trues, to_strengths, to_reefs, to_pull, to_hold]))] H := hP
  have hD : va_D A [(h0, .inr (10, [h0_tape, .int h0_tapeLength, h0_reader, h0_draft, .ref to, h0_course, .ref no, .ref hi, h0_boxes, h0_boxFilled, h0_lying, h0_outlook, h0_sightings, .int h0_time])), (no, .inr (7, [.ref no_or, .ref no_re, .ref no_ch, .ref no_ho, .ref no_gu, .int 0, .int no_standing, .int 0, .int no_seed, .int no_firstTrue])), (no_or, .inl (gI g, 5, .inl f_no_or)), (no_re, .inl (gI g, 5, .inl f_no_re)), (no_ch, .inl (gI g, 5, .inl f_no_ch)), (no_ho, .inl (gI g, 5, .inl f_no_ho)), (no_gu, .inl (gI g, 5, .inl f_no_gu)), (hi, .inr (2, [.ref hi_st, .int 0, .int 0, .int hi_redoable])), (hi_st, .inl (gO g, 41, .inr (.inr (.inr (.inr f_hi_st))))), (s1, .inr (7, [.ref s1_or, .ref s1_re, .ref s1_ch, .ref s1_ho, .ref s1_gu, .int s1_up, .int s1_standing, .int s1_day, .int s1_seed, .int s1_firstTrue])), (s1_or, .inl (gI g, 5, .inl f_s1_or)), (s1_re, .inl (gI g, 5, .inl f_s1_re)), (s1_ch, .inl (gI g, 5, .inl f_s1_ch)), (s1_ho, .inl (gI g, 5, .inl f_s1_ho)), (s1_gu, .inl (gI g, 5, .inl f_s1_gu)), (to, .inr (9, [.int 0, .int to_gustyCorners, .int 0, .int to_draw, .int to_drawTold, to_cornerNames, to_winds, to_lees, to_gustChances, to_gusts, to_guildNames, to_cloths, to_trues, to_strengths, to_reefs, to_pull, to_hold]))] := hD
  refine va_put (D := g.1) (ci := 7) (v := Value.int 0) (ty := .int) (C := RX7) (T := TX7) (N := 10) hx hb hts inlX7 tyX7 tyX7_ok nmX7 hown hK hP hD hS 1 rfl rfl 5 (by decide) (hts _ q45_5) (fun _ h9 => h9) rfl (by decide +kernel) rfl rfl (Nat.le_of_ble_eq_true rfl) dX10_day_34 (fun H locs hP hD hS => ?_)
  have hP : va_P g.1 vwCl [(h0, .inr (10, [h0_tape, .int h0_tapeLength, h0_reader, h0_draft, .ref to, h0_course, .ref no, .ref hi, h0_boxes, h0_boxFilled, h0_lying, h0_outlook, h0_sightings, .int h0_time])), (no, .inr (7, [.ref no_or, .ref no_re, .ref no_ch, .ref no_ho, .ref no_gu, .int 0, .int no_standing, .int 0, .int no_seed, .int no_firstTrue])), (no_or, .inl (gI g, 5, .inl f_no_or)), (no_re, .inl (gI g, 5, .inl f_no_re)), (no_ch, .inl (gI g, 5, .inl f_no_ch)), (no_ho, .inl (gI g, 5, .inl f_no_ho)), (no_gu, .inl (gI g, 5, .inl f_no_gu)), (hi, .inr (2, [.ref hi_st, .int 0, .int 0, .int hi_redoable])), (hi_st, .inl (gO g, 41, .inr (.inr (.inr (.inr f_hi_st))))), (s1, .inr (7, [.ref s1_or, .ref s1_re, .ref s1_ch, .ref s1_ho, .ref s1_gu, .int s1_up, .int s1_standing, .int s1_day, .int s1_seed, .int s1_firstTrue])), (s1_or, .inl (gI g, 5, .inl f_s1_or)), (s1_re, .inl (gI g, 5, .inl f_s1_re)), (s1_ch, .inl (gI g, 5, .inl f_s1_ch)), (s1_ho, .inl (gI g, 5, .inl f_s1_ho)), (s1_gu, .inl (gI g, 5, .inl f_s1_gu)), (to, .inr (9, [.int 0, .int to_gustyCorners, .int 0, .int to_draw, .int to_drawTold, to_cornerNames, to_winds, to_lees, to_gustChances, to_gusts, to_guildNames, to_cloths, to_trues, to_strengths, to_reefs, to_pull, to_hold]))] H := hP
  have hD : va_D A [(h0, .inr (10, [h0_tape, .int h0_tapeLength, h0_reader, h0_draft, .ref to, h0_course, .ref no, .ref hi, h0_boxes, h0_boxFilled, h0_lying, h0_outlook, h0_sightings, .int h0_time])), (no, .inr (7, [.ref no_or, .ref no_re, .ref no_ch, .ref no_ho, .ref no_gu, .int 0, .int no_standing, .int 0, .int no_seed, .int no_firstTrue])), (no_or, .inl (gI g, 5, .inl f_no_or)), (no_re, .inl (gI g, 5, .inl f_no_re)), (no_ch, .inl (gI g, 5, .inl f_no_ch)), (no_ho, .inl (gI g, 5, .inl f_no_ho)), (no_gu, .inl (gI g, 5, .inl f_no_gu)), (hi, .inr (2, [.ref hi_st, .int 0, .int 0, .int hi_redoable])), (hi_st, .inl (gO g, 41, .inr (.inr (.inr (.inr f_hi_st))))), (s1, .inr (7, [.ref s1_or, .ref s1_re, .ref s1_ch, .ref s1_ho, .ref s1_gu, .int s1_up, .int s1_standing, .int s1_day, .int s1_seed, .int s1_firstTrue])), (s1_or, .inl (gI g, 5, .inl f_s1_or)), (s1_re, .inl (gI g, 5, .inl f_s1_re)), (s1_ch, .inl (gI g, 5, .inl f_s1_ch)), (s1_ho, .inl (gI g, 5, .inl f_s1_ho)), (s1_gu, .inl (gI g, 5, .inl f_s1_gu)), (to, .inr (9, [.int 0, .int to_gustyCorners, .int 0, .int to_draw, .int to_drawTold, to_cornerNames, to_winds, to_lees, to_gustChances, to_gusts, to_guildNames, to_cloths, to_trues, to_strengths, to_reefs, to_pull, to_hold]))] := hD
  refine lv_aload_n hx hb dX10_day_37 rfl (lv_at hl 1 rfl) ?_
  refine va_get (D := g.1) (ci := 10) (v := Value.ref no) (C := RX10) (T := TX10) (N := 14) hx hb hts inlX10 hown hK hP 0 rfl rfl 6 (by decide) (hts _ q2_6) (fun _ h9 => h9) rfl dX10_day_38 ?_
  refine lv_iconst (v := 0) hx hb dX10_day_41 (by decide) ?_
  refine va_put (D := g.1) (ci := 7) (v := Value.int 0) (ty := .int) (C := RX7) (T := TX7) (N := 10) hx hb hts inlX7 tyX7 tyX7_ok nmX7 hown hK hP hD hS 1 rfl rfl 6 (by decide) (hts _ q45_6) (fun _ h9 => h9) rfl (by decide +kernel) rfl rfl (Nat.le_of_ble_eq_true rfl) dX10_day_42 (fun H locs hP hD hS => ?_)
  have hP : va_P g.1 vwCl [(h0, .inr (10, [h0_tape, .int h0_tapeLength, h0_reader, h0_draft, .ref to, h0_course, .ref no, .ref hi, h0_boxes, h0_boxFilled, h0_lying, h0_outlook, h0_sightings, .int h0_time])), (no, .inr (7, [.ref no_or, .ref no_re, .ref no_ch, .ref no_ho, .ref no_gu, .int 0, .int 0, .int 0, .int no_seed, .int no_firstTrue])), (no_or, .inl (gI g, 5, .inl f_no_or)), (no_re, .inl (gI g, 5, .inl f_no_re)), (no_ch, .inl (gI g, 5, .inl f_no_ch)), (no_ho, .inl (gI g, 5, .inl f_no_ho)), (no_gu, .inl (gI g, 5, .inl f_no_gu)), (hi, .inr (2, [.ref hi_st, .int 0, .int 0, .int hi_redoable])), (hi_st, .inl (gO g, 41, .inr (.inr (.inr (.inr f_hi_st))))), (s1, .inr (7, [.ref s1_or, .ref s1_re, .ref s1_ch, .ref s1_ho, .ref s1_gu, .int s1_up, .int s1_standing, .int s1_day, .int s1_seed, .int s1_firstTrue])), (s1_or, .inl (gI g, 5, .inl f_s1_or)), (s1_re, .inl (gI g, 5, .inl f_s1_re)), (s1_ch, .inl (gI g, 5, .inl f_s1_ch)), (s1_ho, .inl (gI g, 5, .inl f_s1_ho)), (s1_gu, .inl (gI g, 5, .inl f_s1_gu)), (to, .inr (9, [.int 0, .int to_gustyCorners, .int 0, .int to_draw, .int to_drawTold, to_cornerNames, to_winds, to_lees, to_gustChances, to_gusts, to_guildNames, to_cloths, to_trues, to_strengths, to_reefs, to_pull, to_hold]))] H := hP
  have hD : va_D A [(h0, .inr (10, [h0_tape, .int h0_tapeLength, h0_reader, h0_draft, .ref to, h0_course, .ref no, .ref hi, h0_boxes, h0_boxFilled, h0_lying, h0_outlook, h0_sightings, .int h0_time])), (no, .inr (7, [.ref no_or, .ref no_re, .ref no_ch, .ref no_ho, .ref no_gu, .int 0, .int 0, .int 0, .int no_seed, .int no_firstTrue])), (no_or, .inl (gI g, 5, .inl f_no_or)), (no_re, .inl (gI g, 5, .inl f_no_re)), (no_ch, .inl (gI g, 5, .inl f_no_ch)), (no_ho, .inl (gI g, 5, .inl f_no_ho)), (no_gu, .inl (gI g, 5, .inl f_no_gu)), (hi, .inr (2, [.ref hi_st, .int 0, .int 0, .int hi_redoable])), (hi_st, .inl (gO g, 41, .inr (.inr (.inr (.inr f_hi_st))))), (s1, .inr (7, [.ref s1_or, .ref s1_re, .ref s1_ch, .ref s1_ho, .ref s1_gu, .int s1_up, .int s1_standing, .int s1_day, .int s1_seed, .int s1_firstTrue])), (s1_or, .inl (gI g, 5, .inl f_s1_or)), (s1_re, .inl (gI g, 5, .inl f_s1_re)), (s1_ch, .inl (gI g, 5, .inl f_s1_ch)), (s1_ho, .inl (gI g, 5, .inl f_s1_ho)), (s1_gu, .inl (gI g, 5, .inl f_s1_gu)), (to, .inr (9, [.int 0, .int to_gustyCorners, .int 0, .int to_draw, .int to_drawTold, to_cornerNames, to_winds, to_lees, to_gustChances, to_gusts, to_guildNames, to_cloths, to_trues, to_strengths, to_reefs, to_pull, to_hold]))] := hD
  refine lv_aload_n hx hb dX10_day_45 rfl (lv_at hl 1 rfl) ?_
  refine va_get (D := g.1) (ci := 10) (v := Value.ref no) (C := RX10) (T := TX10) (N := 14) hx hb hts inlX10 hown hK hP 0 rfl rfl 6 (by decide) (hts _ q2_6) (fun _ h9 => h9) rfl dX10_day_46 ?_
  refine lv_dup hx hb dX10_day_49 rfl ?_
  refine va_get (D := g.1) (ci := 7) (v := Value.int 0) (C := RX7) (T := TX7) (N := 10) hx hb hts inlX7 hown hK hP 1 rfl rfl 7 (by decide) (hts _ q45_4) (fun _ h9 => h9) rfl dX10_day_50 ?_
  refine lv_iconst (v := 1) hx hb dX10_day_53 (by decide) ?_
  refine lv_iadd hx hb dX10_day_54 ?_
  refine lv_tope (y := 1) (by decide) ?_
  refine va_put (D := g.1) (ci := 7) (v := Value.int 1) (ty := .int) (C := RX7) (T := TX7) (N := 10) hx hb hts inlX7 tyX7 tyX7_ok nmX7 hown hK hP hD hS 1 rfl rfl 7 (by decide) (hts _ q45_4) (fun _ h9 => h9) rfl (by decide +kernel) rfl rfl (Nat.le_of_ble_eq_true rfl) dX10_day_55 (fun H locs hP hD hS => ?_)
  have hP : va_P g.1 vwCl [(h0, .inr (10, [h0_tape, .int h0_tapeLength, h0_reader, h0_draft, .ref to, h0_course, .ref no, .ref hi, h0_boxes, h0_boxFilled, h0_lying, h0_outlook, h0_sightings, .int h0_time])), (no, .inr (7, [.ref no_or, .ref no_re, .ref no_ch, .ref no_ho, .ref no_gu, .int 0, .int 0, .int 1, .int no_seed, .int no_firstTrue])), (no_or, .inl (gI g, 5, .inl f_no_or)), (no_re, .inl (gI g, 5, .inl f_no_re)), (no_ch, .inl (gI g, 5, .inl f_no_ch)), (no_ho, .inl (gI g, 5, .inl f_no_ho)), (no_gu, .inl (gI g, 5, .inl f_no_gu)), (hi, .inr (2, [.ref hi_st, .int 0, .int 0, .int hi_redoable])), (hi_st, .inl (gO g, 41, .inr (.inr (.inr (.inr f_hi_st))))), (s1, .inr (7, [.ref s1_or, .ref s1_re, .ref s1_ch, .ref s1_ho, .ref s1_gu, .int s1_up, .int s1_standing, .int s1_day, .int s1_seed, .int s1_firstTrue])), (s1_or, .inl (gI g, 5, .inl f_s1_or)), (s1_re, .inl (gI g, 5, .inl f_s1_re)), (s1_ch, .inl (gI g, 5, .inl f_s1_ch)), (s1_ho, .inl (gI g, 5, .inl f_s1_ho)), (s1_gu, .inl (gI g, 5, .inl f_s1_gu)), (to, .inr (9, [.int 0, .int to_gustyCorners, .int 0, .int to_draw, .int to_drawTold, to_cornerNames, to_winds, to_lees, to_gustChances, to_gusts, to_guildNames, to_cloths, to_trues, to_strengths, to_reefs, to_pull, to_hold]))] H := hP
  have hD : va_D A [(h0, .inr (10, [h0_tape, .int h0_tapeLength, h0_reader, h0_draft, .ref to, h0_course, .ref no, .ref hi, h0_boxes, h0_boxFilled, h0_lying, h0_outlook, h0_sightings, .int h0_time])), (no, .inr (7, [.ref no_or, .ref no_re, .ref no_ch, .ref no_ho, .ref no_gu, .int 0, .int 0, .int 1, .int no_seed, .int no_firstTrue])), (no_or, .inl (gI g, 5, .inl f_no_or)), (no_re, .inl (gI g, 5, .inl f_no_re)), (no_ch, .inl (gI g, 5, .inl f_no_ch)), (no_ho, .inl (gI g, 5, .inl f_no_ho)), (no_gu, .inl (gI g, 5, .inl f_no_gu)), (hi, .inr (2, [.ref hi_st, .int 0, .int 0, .int hi_redoable])), (hi_st, .inl (gO g, 41, .inr (.inr (.inr (.inr f_hi_st))))), (s1, .inr (7, [.ref s1_or, .ref s1_re, .ref s1_ch, .ref s1_ho, .ref s1_gu, .int s1_up, .int s1_standing, .int s1_day, .int s1_seed, .int s1_firstTrue])), (s1_or, .inl (gI g, 5, .inl f_s1_or)), (s1_re, .inl (gI g, 5, .inl f_s1_re)), (s1_ch, .inl (gI g, 5, .inl f_s1_ch)), (s1_ho, .inl (gI g, 5, .inl f_s1_ho)), (s1_gu, .inl (gI g, 5, .inl f_s1_gu)), (to, .inr (9, [.int 0, .int to_gustyCorners, .int 0, .int to_draw, .int to_drawTold, to_cornerNames, to_winds, to_lees, to_gustChances, to_gusts, to_guildNames, to_cloths, to_trues, to_strengths, to_reefs, to_pull, to_hold]))] := hD
  refine lv_aload_n hx hb dX10_day_58 rfl (lv_at hl 1 rfl) ?_
  refine va_get (D := g.1) (ci := 10) (v := Value.ref hi) (C := RX10) (T := TX10) (N := 14) hx hb hts inlX10 hown hK hP 0 rfl rfl 7 (by decide) (hts _ q2_10) (fun _ h9 => h9) rfl dX10_day_59 ?_
  refine lv_aload_n hx hb dX10_day_62 rfl (lv_at hl 1 rfl) ?_
  refine va_get (D := g.1) (ci := 10) (v := Value.ref no) (C := RX10) (T := TX10) (N := 14) hx hb hts inlX10 hown hK hP 0 rfl rfl 6 (by decide) (hts _ q2_6) (fun _ h9 => h9) rfl dX10_day_63 ?_
  refine kV (wc := [(hi, .inr (2, [.ref hi_st, .int 0, .int 0, .int hi_redoable])), (hi_st, .inl (gO g, 41, .inr (.inr (.inr (.inr f_hi_st))))), (s1, .inr (7, [.ref s1_or, .ref s1_re, .ref s1_ch, .ref s1_ho, .ref s1_gu, .int s1_up, .int s1_standing, .int s1_day, .int s1_seed, .int s1_firstTrue])), (s1_or, .inl (gI g, 5, .inl f_s1_or)), (s1_re, .inl (gI g, 5, .inl f_s1_re)), (s1_ch, .inl (gI g, 5, .inl f_s1_ch)), (s1_ho, .inl (gI g, 5, .inl f_s1_ho)), (s1_gu, .inl (gI g, 5, .inl f_s1_gu)), (no, .inr (7, [.ref no_or, .ref no_re, .ref no_ch, .ref no_ho, .ref no_gu, .int 0, .int 0, .int 1, .int no_seed, .int no_firstTrue])), (no_or, .inl (gI g, 5, .inl f_no_or)), (no_re, .inl (gI g, 5, .inl f_no_re)), (no_ch, .inl (gI g, 5, .inl f_no_ch)), (no_ho, .inl (gI g, 5, .inl f_no_ho)), (no_gu, .inl (gI g, 5, .inl f_no_gu))]) (wr := [(h0, .inr (10, [h0_tape, .int h0_tapeLength, h0_reader, h0_draft, .ref to, h0_course, .ref no, .ref hi, h0_boxes, h0_boxFilled, h0_lying, h0_outlook, h0_sightings, .int h0_time])), (to, .inr (9, [.int 0, .int to_gustyCorners, .int 0, .int to_draw, .int to_drawTold, to_cornerNames, to_winds, to_lees, to_gustChances, to_gusts, to_guildNames, to_cloths, to_trues, to_strengths, to_reefs, to_pull, to_hold]))]) (rV (As := [.ref no]) (rest := []) (meth2 := "") hcx (c_X2_add (h_f_hi_st_1) H.size) (gdV q41_19 q41_20 q41_21 q2_9 q41_22) dvX2_add ⟨Nat.le_of_ble_eq_true rfl, Nat.le_of_ble_eq_true rfl⟩ (hP.sub [7, 8, 9, 10, 11, 12, 13, 14, 1, 2, 3, 4, 5, 6] rfl) (hD.sub [7, 8, 9, 10, 11, 12, 13, 14, 1, 2, 3, 4, 5, 6] (by decide) rfl) (va_recv hK hP (ci := 2) (q0 := 7) rfl rfl) rfl hl.1 rfl (Nat.le_of_ble_eq_true rfl) dX10_day_66 ⟨Nat.le_of_ble_eq_true rfl, Nat.le_of_ble_eq_true rfl⟩) hP hD hS hA [7, 8, 9, 10, 11, 12, 13, 14, 1, 2, 3, 4, 5, 6] [0, 15] rfl rfl (by decide) (by decide) (fun W' H locs hw hP hD hS => ?_)
  obtain ⟨f2, f3, f4, f5, f6, rfl⟩ := hw
  have hP : va_P g.1 vwCl [(h0, .inr (10, [h0_tape, .int h0_tapeLength, h0_reader, h0_draft, .ref to, h0_course, .ref no, .ref hi, h0_boxes, h0_boxFilled, h0_lying, h0_outlook, h0_sightings, .int h0_time])), (to, .inr (9, [.int 0, .int to_gustyCorners, .int 0, .int to_draw, .int to_drawTold, to_cornerNames, to_winds, to_lees, to_gustChances, to_gusts, to_guildNames, to_cloths, to_trues, to_strengths, to_reefs, to_pull, to_hold])), (hi, .inr (2, [.ref hi_st, .int 0, .int 1, .int 0])), (hi_st, .inl (gO g, 41, .inr (.inr (.inr (.inr f_hi_st))))), (s1, .inr (7, [.ref s1_or, .ref s1_re, .ref s1_ch, .ref s1_ho, .ref s1_gu, .int 0, .int 0, .int 1, .int no_seed, .int no_firstTrue])), (s1_or, .inl (gI g, 5, .inl f2)), (s1_re, .inl (gI g, 5, .inl f3)), (s1_ch, .inl (gI g, 5, .inl f4)), (s1_ho, .inl (gI g, 5, .inl f5)), (s1_gu, .inl (gI g, 5, .inl f6)), (no, .inr (7, [.ref no_or, .ref no_re, .ref no_ch, .ref no_ho, .ref no_gu, .int 0, .int 0, .int 1, .int no_seed, .int no_firstTrue])), (no_or, .inl (gI g, 5, .inl f_no_or)), (no_re, .inl (gI g, 5, .inl f_no_re)), (no_ch, .inl (gI g, 5, .inl f_no_ch)), (no_ho, .inl (gI g, 5, .inl f_no_ho)), (no_gu, .inl (gI g, 5, .inl f_no_gu))] H := hP
  have hD : va_D A [(h0, .inr (10, [h0_tape, .int h0_tapeLength, h0_reader, h0_draft, .ref to, h0_course, .ref no, .ref hi, h0_boxes, h0_boxFilled, h0_lying, h0_outlook, h0_sightings, .int h0_time])), (to, .inr (9, [.int 0, .int to_gustyCorners, .int 0, .int to_draw, .int to_drawTold, to_cornerNames, to_winds, to_lees, to_gustChances, to_gusts, to_guildNames, to_cloths, to_trues, to_strengths, to_reefs, to_pull, to_hold])), (hi, .inr (2, [.ref hi_st, .int 0, .int 1, .int 0])), (hi_st, .inl (gO g, 41, .inr (.inr (.inr (.inr f_hi_st))))), (s1, .inr (7, [.ref s1_or, .ref s1_re, .ref s1_ch, .ref s1_ho, .ref s1_gu, .int 0, .int 0, .int 1, .int no_seed, .int no_firstTrue])), (s1_or, .inl (gI g, 5, .inl f2)), (s1_re, .inl (gI g, 5, .inl f3)), (s1_ch, .inl (gI g, 5, .inl f4)), (s1_ho, .inl (gI g, 5, .inl f5)), (s1_gu, .inl (gI g, 5, .inl f6)), (no, .inr (7, [.ref no_or, .ref no_re, .ref no_ch, .ref no_ho, .ref no_gu, .int 0, .int 0, .int 1, .int no_seed, .int no_firstTrue])), (no_or, .inl (gI g, 5, .inl f_no_or)), (no_re, .inl (gI g, 5, .inl f_no_re)), (no_ch, .inl (gI g, 5, .inl f_no_ch)), (no_ho, .inl (gI g, 5, .inl f_no_ho)), (no_gu, .inl (gI g, 5, .inl f_no_gu))] := hD
  refine lv_iload_n hx hb dX10_day_69 rfl (lv_at hl 0 rfl) ?_
  have hP9 : va_P g.1 vwCl [] H := hP.sub [] rfl
  have hD9 : va_D A [] := hD.sub [] (by decide) rfl
  exact xi hx hb hr hlocks rfl hP9 hD9 hS ⟨rfl, rfl⟩ (Nat.le_of_ble_eq_true rfl) (Nat.le_of_ble_eq_true rfl) dX10_day_70

set_option maxHeartbeats 4000000 in
set_option maxRecDepth 100000 in
theorem c_X10_will {l : Launch} {g : Gx} {h0 ol tr tr_or tr_re tr_ch tr_ho tr_gu no no_or no_re no_ch no_ho no_gu co to : Nat} {p0 : Int32} {p1 : Int32} {h0_tape : Value} {h0_tapeLength : Int32} {h0_reader : Value} {h0_draft : Value} {h0_told : Value} {h0_course : Value} {h0_now : Value} {h0_history : Value} {h0_boxes : Value} {h0_boxFilled : Value} {h0_lying : Value} {h0_sightings : Value} {h0_time : Int32} {ol_told : Value} {ol_lying : Value} {ol_ranks : Value} {ol_otherRanks : Value} {ol_staysUp : Value} {ol_aheads : Value} {ol_tried : Value} {ol_best : Value} {ol_leastDifference : Int32} {tr_up : Int32} {tr_standing : Int32} {tr_day : Int32} {tr_seed : Int32} {tr_firstTrue : Int32} {f_tr_or : Nat → Int32} {f_tr_re : Nat → Int32} {f_tr_ch : Nat → Int32} {f_tr_ho : Nat → Int32} {f_tr_gu : Nat → Int32} {no_day : Int32} {no_seed : Int32} {no_firstTrue : Int32} {f_no_or : Nat → Int32} {f_no_re : Nat → Int32} {f_no_ch : Nat → Int32} {f_no_ho : Nat → Int32} {f_no_gu : Nat → Int32} {co_values : Value} {co_pull : Int32} {co_hold : Int32} {to_gustyCorners : Int32} {to_draw : Int32} {to_drawTold : Int32} {to_cornerNames : Value} {to_winds : Value} {to_lees : Value} {to_gustChances : Value} {to_gusts : Value} {to_guildNames : Value} {to_cloths : Value} {to_trues : Value} {to_strengths : Value} {to_reefs : Value} {to_pull : Value} {to_hold : Value} : MI l g yX10_will cX10_will 3 (some .int) 4 0 0 [.ref h0, .int p0, .int p1] [(h0, .inr (10, [h0_tape, .int h0_tapeLength, h0_reader, h0_draft, h0_told, h0_course, h0_now, h0_history, h0_boxes, h0_boxFilled, h0_lying, .ref ol, h0_sightings, .int h0_time])), (ol, .inr (4, [.ref co, ol_told, .ref no, ol_lying, .ref tr, ol_ranks, ol_otherRanks, ol_staysUp, ol_aheads, ol_tried, ol_best, .int ol_leastDifference])), (tr, .inr (7, [.ref tr_or, .ref tr_re, .ref tr_ch, .ref tr_ho, .ref tr_gu, .int tr_up, .int tr_standing, .int tr_day, .int tr_seed, .int tr_firstTrue])), (tr_or, .inl (gI g, 5, .inl f_tr_or)), (tr_re, .inl (gI g, 5, .inl f_tr_re)), (tr_ch, .inl (gI g, 5, .inl f_tr_ch)), (tr_ho, .inl (gI g, 5, .inl f_tr_ho)), (tr_gu, .inl (gI g, 5, .inl f_tr_gu)), (no, .inr (7, [.ref no_or, .ref no_re, .ref no_ch, .ref no_ho, .ref no_gu, .int 0, .int 0, .int no_day, .int no_seed, .int no_firstTrue])), (no_or, .inl (gI g, 5, .inl f_no_or)), (no_re, .inl (gI g, 5, .inl f_no_re)), (no_ch, .inl (gI g, 5, .inl f_no_ch)), (no_ho, .inl (gI g, 5, .inl f_no_ho)), (no_gu, .inl (gI g, 5, .inl f_no_gu)), (co, .inr (0, [.ref to, co_values, .int co_pull, .int co_hold])), (to, .inr (9, [.int 0, .int to_gustyCorners, .int 0, .int to_draw, .int to_drawTold, to_cornerNames, to_winds, to_lees, to_gustChances, to_gusts, to_guildNames, to_cloths, to_trues, to_strengths, to_reefs, to_pull, to_hold]))] (fun r W' => r = sp_will p0 p1 ∧ W' = []) := by
  refine MIof (by decide) (Nat.le_of_ble_eq_true rfl) ?_
  intro p e s m below meth c A ls H locs hcx hA hP hD hS hl
  obtain ⟨hx, hb, hml, hr, hlocks, hown, hts, hE, hnm⟩ := id hcx
  have hown : s.vm.findClass RX10 = some m.cls := hown
  have hK := hE.1
  have hl : lv_has ls 3 [(0, .ref h0), (1, .int p0), (2, .int p1)] := hl
  refine lv_iload_n hx hb dX10_will_0 rfl (lv_at hl 1 rfl) ?_
  refine lv_if_lt (tgt := 19) hx hb dX10_will_1 (by decide) (fun c1 => ?_) (fun c1 => ?_)
  · refine lv_iconst (v := (-1)) hx hb dX10_will_19 (by decide) ?_
    have hP9 : va_P g.1 vwCl [] H := hP.sub [] rfl
    have hD9 : va_D A [] := hD.sub [] (by decide) rfl
    exact xi hx hb hr hlocks rfl hP9 hD9 hS ⟨(by simp [sp_will, c1]), rfl⟩ (Nat.le_of_ble_eq_true rfl) (Nat.le_of_ble_eq_true rfl) dX10_will_20
  · refine lv_iload_n hx hb dX10_will_4 rfl (lv_at hl 1 rfl) ?_
    refine lv_bipush (v := 8) hx hb dX10_will_5 (by decide) ?_
    refine lv_icmp_gt (tgt := 19) hx hb dX10_will_7 (by decide) (fun c2 => ?_) (fun c2 => ?_)
    · refine lv_iconst (v := (-1)) hx hb dX10_will_19 (by decide) ?_
      have hP9 : va_P g.1 vwCl [] H := hP.sub [] rfl
      have hD9 : va_D A [] := hD.sub [] (by decide) rfl
      exact xi hx hb hr hlocks rfl hP9 hD9 hS ⟨(by simp [sp_will, c1, c2]), rfl⟩ (Nat.le_of_ble_eq_true rfl) (Nat.le_of_ble_eq_true rfl) dX10_will_20
    · refine lv_iload_n hx hb dX10_will_10 rfl (lv_at hl 2 rfl) ?_
      refine lv_if_lt (tgt := 19) hx hb dX10_will_11 (by decide) (fun c3 => ?_) (fun c3 => ?_)
      · refine lv_iconst (v := (-1)) hx hb dX10_will_19 (by decide) ?_
        have hP9 : va_P g.1 vwCl [] H := hP.sub [] rfl
        have hD9 : va_D A [] := hD.sub [] (by decide) rfl
        exact xi hx hb hr hlocks rfl hP9 hD9 hS ⟨(by simp [sp_will, c1, c2, c3]), rfl⟩ (Nat.le_of_ble_eq_true rfl) (Nat.le_of_ble_eq_true rfl) dX10_will_20
      · refine lv_iload_n hx hb dX10_will_14 rfl (lv_at hl 2 rfl) ?_
        refine lv_iconst (v := 1) hx hb dX10_will_15 (by decide) ?_
        refine lv_icmp_le (tgt := 21) hx hb dX10_will_16 (by decide) (fun c4 => ?_) (fun c4 => ?_)
        · refine lv_aload_n hx hb dX10_will_21 rfl (lv_at hl 0 rfl) ?_
          refine va_get (D := g.1) (ci := 10) (v := Value.ref ol) (C := RX10) (T := TX10) (N := 14) hx hb hts inlX10 hown hK hP 0 rfl rfl 11 (by decide) (hts _ q2_21) (fun _ h9 => h9) rfl dX10_will_22 ?_
          refine lv_iload_n hx hb dX10_will_25 rfl (lv_at hl 1 rfl) ?_
          refine lv_iload_n hx hb dX10_will_26 rfl (lv_at hl 2 rfl) ?_
          refine lv_iconst (v := 1) hx hb dX10_will_27 (by decide) ?_
          refine lv_icmp_ne (tgt := 35) hx hb dX10_will_28 (by decide) (fun c5 => ?_) (fun c5 => ?_)
          · refine lv_iconst (v := 0) hx hb dX10_will_35 (by decide) ?_
            refine kI (wc := [(ol, .inr (4, [.ref co, ol_told, .ref no, ol_lying, .ref tr, ol_ranks, ol_otherRanks, ol_staysUp, ol_aheads, ol_tried, ol_best, .int ol_leastDifference])), (tr, .inr (7, [.ref tr_or, .ref tr_re, .ref tr_ch, .ref tr_ho, .ref tr_gu, .int tr_up, .int tr_standing, .int tr_day, .int tr_seed, .int tr_firstTrue])), (tr_or, .inl (gI g, 5, .inl f_tr_or)), (tr_re, .inl (gI g, 5, .inl f_tr_re)), (tr_ch, .inl (gI g, 5, .inl f_tr_ch)), (tr_ho, .inl (gI g, 5, .inl f_tr_ho)), (tr_gu, .inl (gI g, 5, .inl f_tr_gu)), (no, .inr (7, [.ref no_or, .ref no_re, .ref no_ch, .ref no_ho, .ref no_gu, .int 0, .int 0, .int no_day, .int no_seed, .int no_firstTrue])), (no_or, .inl (gI g, 5, .inl f_no_or)), (no_re, .inl (gI g, 5, .inl f_no_re)), (no_ch, .inl (gI g, 5, .inl f_no_ch)), (no_ho, .inl (gI g, 5, .inl f_no_ho)), (no_gu, .inl (gI g, 5, .inl f_no_gu)), (co, .inr (0, [.ref to, co_values, .int co_pull, .int co_hold])), (to, .inr (9, [.int 0, .int to_gustyCorners, .int 0, .int to_draw, .int to_drawTold, to_cornerNames, to_winds, to_lees, to_gustChances, to_gusts, to_guildNames, to_cloths, to_trues, to_strengths, to_reefs, to_pull, to_hold]))]) (wr := [(h0, .inr (10, [h0_tape, .int h0_tapeLength, h0_reader, h0_draft, h0_told, h0_course, h0_now, h0_history, h0_boxes, h0_boxFilled, h0_lying, .ref ol, h0_sightings, .int h0_time]))]) (rV (As := [.int p0, .int 0]) (rest := []) (meth2 := "") hcx (c_X4_upBehind H.size) (gdV q46_20 q46_21 q46_22 q2_20 q46_23) dvX4_upBehind ⟨Nat.le_of_ble_eq_true rfl, Nat.le_of_ble_eq_true rfl⟩ (hP.sub [1, 2, 3, 4, 5, 6, 7, 8, 9, 10, 11, 12, 13, 14, 15] rfl) (hD.sub [1, 2, 3, 4, 5, 6, 7, 8, 9, 10, 11, 12, 13, 14, 15] (by decide) rfl) (va_recv hK hP (ci := 4) (q0 := 1) rfl rfl) rfl hl.1 rfl (Nat.le_of_ble_eq_true rfl) dX10_will_36 ⟨Nat.le_of_ble_eq_true rfl, Nat.le_of_ble_eq_true rfl⟩) hP hD hS hA [1, 2, 3, 4, 5, 6, 7, 8, 9, 10, 11, 12, 13, 14, 15] [0] rfl rfl (by decide) (by decide) (fun r W' H locs hw hP hD hS => ?_)
            obtain ⟨rfl, f6, f7, f8, f9, f10, rfl⟩ := hw
            have hP : va_P g.1 vwCl [(h0, .inr (10, [h0_tape, .int h0_tapeLength, h0_reader, h0_draft, h0_told, h0_course, h0_now, h0_history, h0_boxes, h0_boxFilled, h0_lying, .ref ol, h0_sightings, .int h0_time])), (ol, .inr (4, [.ref co, ol_told, .ref no, ol_lying, .ref tr, ol_ranks, ol_otherRanks, ol_staysUp, ol_aheads, ol_tried, ol_best, .int ol_leastDifference])), (tr, .inr (7, [.ref tr_or, .ref tr_re, .ref tr_ch, .ref tr_ho, .ref tr_gu, .int 0, .int 0, .int no_day, .int no_seed, .int no_firstTrue])), (tr_or, .inl (gI g, 5, .inl f6)), (tr_re, .inl (gI g, 5, .inl f7)), (tr_ch, .inl (gI g, 5, .inl f8)), (tr_ho, .inl (gI g, 5, .inl f9)), (tr_gu, .inl (gI g, 5, .inl f10)), (no, .inr (7, [.ref no_or, .ref no_re, .ref no_ch, .ref no_ho, .ref no_gu, .int 0, .int 0, .int no_day, .int no_seed, .int no_firstTrue])), (no_or, .inl (gI g, 5, .inl f_no_or)), (no_re, .inl (gI g, 5, .inl f_no_re)), (no_ch, .inl (gI g, 5, .inl f_no_ch)), (no_ho, .inl (gI g, 5, .inl f_no_ho)), (no_gu, .inl (gI g, 5, .inl f_no_gu)), (co, .inr (0, [.ref to, co_values, .int co_pull, .int co_hold])), (to, .inr (9, [.int 0, .int to_gustyCorners, .int 0, .int to_draw, .int to_drawTold, to_cornerNames, to_winds, to_lees, to_gustChances, to_gusts, to_guildNames, to_cloths, to_trues, to_strengths, to_reefs, to_pull, to_hold]))] H := hP
            have hD : va_D A [(h0, .inr (10, [h0_tape, .int h0_tapeLength, h0_reader, h0_draft, h0_told, h0_course, h0_now, h0_history, h0_boxes, h0_boxFilled, h0_lying, .ref ol, h0_sightings, .int h0_time])), (ol, .inr (4, [.ref co, ol_told, .ref no, ol_lying, .ref tr, ol_ranks, ol_otherRanks, ol_staysUp, ol_aheads, ol_tried, ol_best, .int ol_leastDifference])), (tr, .inr (7, [.ref tr_or, .ref tr_re, .ref tr_ch, .ref tr_ho, .ref tr_gu, .int 0, .int 0, .int no_day, .int no_seed, .int no_firstTrue])), (tr_or, .inl (gI g, 5, .inl f6)), (tr_re, .inl (gI g, 5, .inl f7)), (tr_ch, .inl (gI g, 5, .inl f8)), (tr_ho, .inl (gI g, 5, .inl f9)), (tr_gu, .inl (gI g, 5, .inl f10)), (no, .inr (7, [.ref no_or, .ref no_re, .ref no_ch, .ref no_ho, .ref no_gu, .int 0, .int 0, .int no_day, .int no_seed, .int no_firstTrue])), (no_or, .inl (gI g, 5, .inl f_no_or)), (no_re, .inl (gI g, 5, .inl f_no_re)), (no_ch, .inl (gI g, 5, .inl f_no_ch)), (no_ho, .inl (gI g, 5, .inl f_no_ho)), (no_gu, .inl (gI g, 5, .inl f_no_gu)), (co, .inr (0, [.ref to, co_values, .int co_pull, .int co_hold])), (to, .inr (9, [.int 0, .int to_gustyCorners, .int 0, .int to_draw, .int to_drawTold, to_cornerNames, to_winds, to_lees, to_gustChances, to_gusts, to_guildNames, to_cloths, to_trues, to_strengths, to_reefs, to_pull, to_hold]))] := hD
            have hP9 : va_P g.1 vwCl [] H := hP.sub [] rfl
            have hD9 : va_D A [] := hD.sub [] (by decide) rfl
            exact xi hx hb hr hlocks rfl hP9 hD9 hS ⟨(by simp [sp_will, c1, c2, c3, c4, c5]), rfl⟩ (Nat.le_of_ble_eq_true rfl) (Nat.le_of_ble_eq_true rfl) dX10_will_39
          · refine lv_iconst (v := 1) hx hb dX10_will_31 (by decide) ?_
            refine lv_goto (tgt := 36) hx hb dX10_will_32 (by decide) ?_
            refine kI (wc := [(ol, .inr (4, [.ref co, ol_told, .ref no, ol_lying, .ref tr, ol_ranks, ol_otherRanks, ol_staysUp, ol_aheads, ol_tried, ol_best, .int ol_leastDifference])), (tr, .inr (7, [.ref tr_or, .ref tr_re, .ref tr_ch, .ref tr_ho, .ref tr_gu, .int tr_up, .int tr_standing, .int tr_day, .int tr_seed, .int tr_firstTrue])), (tr_or, .inl (gI g, 5, .inl f_tr_or)), (tr_re, .inl (gI g, 5, .inl f_tr_re)), (tr_ch, .inl (gI g, 5, .inl f_tr_ch)), (tr_ho, .inl (gI g, 5, .inl f_tr_ho)), (tr_gu, .inl (gI g, 5, .inl f_tr_gu)), (no, .inr (7, [.ref no_or, .ref no_re, .ref no_ch, .ref no_ho, .ref no_gu, .int 0, .int 0, .int no_day, .int no_seed, .int no_firstTrue])), (no_or, .inl (gI g, 5, .inl f_no_or)), (no_re, .inl (gI g, 5, .inl f_no_re)), (no_ch, .inl (gI g, 5, .inl f_no_ch)), (no_ho, .inl (gI g, 5, .inl f_no_ho)), (no_gu, .inl (gI g, 5, .inl f_no_gu)), (co, .inr (0, [.ref to, co_values, .int co_pull, .int co_hold])), (to, .inr (9, [.int 0, .int to_gustyCorners, .int 0, .int to_draw, .int to_drawTold, to_cornerNames, to_winds, to_lees, to_gustChances, to_gusts, to_guildNames, to_cloths, to_trues, to_strengths, to_reefs, to_pull, to_hold]))]) (wr := [(h0, .inr (10, [h0_tape, .int h0_tapeLength, h0_reader, h0_draft, h0_told, h0_course, h0_now, h0_history, h0_boxes, h0_boxFilled, h0_lying, .ref ol, h0_sightings, .int h0_time]))]) (rV (As := [.int p0, .int 1]) (rest := []) (meth2 := "") hcx (c_X4_upBehind H.size) (gdV q46_20 q46_21 q46_22 q2_20 q46_23) dvX4_upBehind ⟨Nat.le_of_ble_eq_true rfl, Nat.le_of_ble_eq_true rfl⟩ (hP.sub [1, 2, 3, 4, 5, 6, 7, 8, 9, 10, 11, 12, 13, 14, 15] rfl) (hD.sub [1, 2, 3, 4, 5, 6, 7, 8, 9, 10, 11, 12, 13, 14, 15] (by decide) rfl) (va_recv hK hP (ci := 4) (q0 := 1) rfl rfl) rfl hl.1 rfl (Nat.le_of_ble_eq_true rfl) dX10_will_36 ⟨Nat.le_of_ble_eq_true rfl, Nat.le_of_ble_eq_true rfl⟩) hP hD hS hA [1, 2, 3, 4, 5, 6, 7, 8, 9, 10, 11, 12, 13, 14, 15] [0] rfl rfl (by decide) (by decide) (fun r W' H locs hw hP hD hS => ?_)
            obtain ⟨rfl, f11, f12, f13, f14, f15, rfl⟩ := hw
            have hP : va_P g.1 vwCl [(h0, .inr (10, [h0_tape, .int h0_tapeLength, h0_reader, h0_draft, h0_told, h0_course, h0_now, h0_history, h0_boxes, h0_boxFilled, h0_lying, .ref ol, h0_sightings, .int h0_time])), (ol, .inr (4, [.ref co, ol_told, .ref no, ol_lying, .ref tr, ol_ranks, ol_otherRanks, ol_staysUp, ol_aheads, ol_tried, ol_best, .int ol_leastDifference])), (tr, .inr (7, [.ref tr_or, .ref tr_re, .ref tr_ch, .ref tr_ho, .ref tr_gu, .int 0, .int 0, .int no_day, .int no_seed, .int no_firstTrue])), (tr_or, .inl (gI g, 5, .inl f11)), (tr_re, .inl (gI g, 5, .inl f12)), (tr_ch, .inl (gI g, 5, .inl f13)), (tr_ho, .inl (gI g, 5, .inl f14)), (tr_gu, .inl (gI g, 5, .inl f15)), (no, .inr (7, [.ref no_or, .ref no_re, .ref no_ch, .ref no_ho, .ref no_gu, .int 0, .int 0, .int no_day, .int no_seed, .int no_firstTrue])), (no_or, .inl (gI g, 5, .inl f_no_or)), (no_re, .inl (gI g, 5, .inl f_no_re)), (no_ch, .inl (gI g, 5, .inl f_no_ch)), (no_ho, .inl (gI g, 5, .inl f_no_ho)), (no_gu, .inl (gI g, 5, .inl f_no_gu)), (co, .inr (0, [.ref to, co_values, .int co_pull, .int co_hold])), (to, .inr (9, [.int 0, .int to_gustyCorners, .int 0, .int to_draw, .int to_drawTold, to_cornerNames, to_winds, to_lees, to_gustChances, to_gusts, to_guildNames, to_cloths, to_trues, to_strengths, to_reefs, to_pull, to_hold]))] H := hP
            have hD : va_D A [(h0, .inr (10, [h0_tape, .int h0_tapeLength, h0_reader, h0_draft, h0_told, h0_course, h0_now, h0_history, h0_boxes, h0_boxFilled, h0_lying, .ref ol, h0_sightings, .int h0_time])), (ol, .inr (4, [.ref co, ol_told, .ref no, ol_lying, .ref tr, ol_ranks, ol_otherRanks, ol_staysUp, ol_aheads, ol_tried, ol_best, .int ol_leastDifference])), (tr, .inr (7, [.ref tr_or, .ref tr_re, .ref tr_ch, .ref tr_ho, .ref tr_gu, .int 0, .int 0, .int no_day, .int no_seed, .int no_firstTrue])), (tr_or, .inl (gI g, 5, .inl f11)), (tr_re, .inl (gI g, 5, .inl f12)), (tr_ch, .inl (gI g, 5, .inl f13)), (tr_ho, .inl (gI g, 5, .inl f14)), (tr_gu, .inl (gI g, 5, .inl f15)), (no, .inr (7, [.ref no_or, .ref no_re, .ref no_ch, .ref no_ho, .ref no_gu, .int 0, .int 0, .int no_day, .int no_seed, .int no_firstTrue])), (no_or, .inl (gI g, 5, .inl f_no_or)), (no_re, .inl (gI g, 5, .inl f_no_re)), (no_ch, .inl (gI g, 5, .inl f_no_ch)), (no_ho, .inl (gI g, 5, .inl f_no_ho)), (no_gu, .inl (gI g, 5, .inl f_no_gu)), (co, .inr (0, [.ref to, co_values, .int co_pull, .int co_hold])), (to, .inr (9, [.int 0, .int to_gustyCorners, .int 0, .int to_draw, .int to_drawTold, to_cornerNames, to_winds, to_lees, to_gustChances, to_gusts, to_guildNames, to_cloths, to_trues, to_strengths, to_reefs, to_pull, to_hold]))] := hD
            have hP9 : va_P g.1 vwCl [] H := hP.sub [] rfl
            have hD9 : va_D A [] := hD.sub [] (by decide) rfl
            exact xi hx hb hr hlocks rfl hP9 hD9 hS ⟨(by simp [sp_will, c1, c2, c3, c4, c5]), rfl⟩ (Nat.le_of_ble_eq_true rfl) (Nat.le_of_ble_eq_true rfl) dX10_will_39
        · refine lv_iconst (v := (-1)) hx hb dX10_will_19 (by decide) ?_
          have hP9 : va_P g.1 vwCl [] H := hP.sub [] rfl
          have hD9 : va_D A [] := hD.sub [] (by decide) rfl
          exact xi hx hb hr hlocks rfl hP9 hD9 hS ⟨(by simp [sp_will, c1, c2, c3, c4]), rfl⟩ (Nat.le_of_ble_eq_true rfl) (Nat.le_of_ble_eq_true rfl) dX10_will_20

set_option maxHeartbeats 4000000 in
set_option maxRecDepth 100000 in
theorem c_X10_largest {l : Launch} {g : Gx} {h0 ol ly to td be : Nat} {h0_tape : Value} {h0_tapeLength : Int32} {h0_reader : Value} {h0_draft : Value} {h0_told : Value} {h0_course : Value} {h0_now : Value} {h0_history : Value} {h0_boxes : Value} {h0_boxFilled : Value} {h0_lying : Value} {h0_sightings : Value} {h0_time : Int32} {ol_course : Value} {ol_now : Value} {ol_trial : Value} {ol_ranks : Value} {ol_otherRanks : Value} {ol_staysUp : Value} {ol_aheads : Value} {ol_leastDifference : Int32} {ly_numbers : Value} {ly_count : Int32} {to_gustyCorners : Int32} {to_draw : Int32} {to_drawTold : Int32} {to_cornerNames : Value} {to_winds : Value} {to_lees : Value} {to_gustChances : Value} {to_gusts : Value} {to_guildNames : Value} {to_cloths : Value} {to_trues : Value} {to_strengths : Value} {to_reefs : Value} {to_pull : Value} {to_hold : Value} {f_td : Nat → Int32} {f_be : Nat → Int32} : MI l g yX10_largest cX10_largest 1 (some .int) 5 0 0 [.ref h0] [(h0, .inr (10, [h0_tape, .int h0_tapeLength, h0_reader, h0_draft, h0_told, h0_course, h0_now, h0_history, h0_boxes, h0_boxFilled, h0_lying, .ref ol, h0_sightings, .int h0_time])), (ol, .inr (4, [ol_course, .ref to, ol_now, .ref ly, ol_trial, ol_ranks, ol_otherRanks, ol_staysUp, ol_aheads, .ref td, .ref be, .int ol_leastDifference])), (ly, .inr (3, [ly_numbers, .int ly_count])), (to, .inr (9, [.int 0, .int to_gustyCorners, .int 0, .int to_draw, .int to_drawTold, to_cornerNames, to_winds, to_lees, to_gustChances, to_gusts, to_guildNames, to_cloths, to_trues, to_strengths, to_reefs, to_pull, to_hold])), (td, .inl (gI g, 5, .inl f_td)), (be, .inl (gI g, 5, .inl f_be))] (fun r W' => 0 = r ∧ W' = []) := by
  refine MIof (by decide) (Nat.le_of_ble_eq_true rfl) ?_
  intro p e s m below meth c A ls H locs hcx hA hP hD hS hl
  obtain ⟨hx, hb, hml, hr, hlocks, hown, hts, hE, hnm⟩ := id hcx
  have hown : s.vm.findClass RX10 = some m.cls := hown
  have hK := hE.1
  have hl : lv_has ls 1 [(0, .ref h0)] := hl
  refine lv_aload_n hx hb dX10_largest_0 rfl (lv_at hl 0 rfl) ?_
  refine va_get (D := g.1) (ci := 10) (v := Value.ref ol) (C := RX10) (T := TX10) (N := 14) hx hb hts inlX10 hown hK hP 0 rfl rfl 11 (by decide) (hts _ q2_21) (fun _ h9 => h9) rfl dX10_largest_1 ?_
  refine kI (wc := [(ol, .inr (4, [ol_course, .ref to, ol_now, .ref ly, ol_trial, ol_ranks, ol_otherRanks, ol_staysUp, ol_aheads, .ref td, .ref be, .int ol_leastDifference])), (ly, .inr (3, [ly_numbers, .int ly_count])), (to, .inr (9, [.int 0, .int to_gustyCorners, .int 0, .int to_draw, .int to_drawTold, to_cornerNames, to_winds, to_lees, to_gustChances, to_gusts, to_guildNames, to_cloths, to_trues, to_strengths, to_reefs, to_pull, to_hold])), (td, .inl (gI g, 5, .inl f_td)), (be, .inl (gI g, 5, .inl f_be))]) (wr := [(h0, .inr (10, [h0_tape, .int h0_tapeLength, h0_reader, h0_draft, h0_told, h0_course, h0_now, h0_history, h0_boxes, h0_boxFilled, h0_lying, .ref ol, h0_sightings, .int h0_time]))]) (rV (As := []) (rest := []) (meth2 := "") hcx (c_X4_largestBanners H.size) (gdV q49_19 q49_20 q49_21 q2_20 q49_22) dvX4_largestBanners ⟨Nat.le_of_ble_eq_true rfl, Nat.le_of_ble_eq_true rfl⟩ (hP.sub [1, 2, 3, 4, 5] rfl) (hD.sub [1, 2, 3, 4, 5] (by decide) rfl) (va_recv hK hP (ci := 4) (q0 := 1) rfl rfl) rfl hl.1 rfl (Nat.le_of_ble_eq_true rfl) dX10_largest_4 ⟨Nat.le_of_ble_eq_true rfl, Nat.le_of_ble_eq_true rfl⟩) hP hD hS hA [1, 2, 3, 4, 5] [0] rfl rfl (by decide) (by decide) (fun r W' H locs hw hP hD hS => ?_)
  obtain ⟨rfl, f1, rfl⟩ := hw
  have hP : va_P g.1 vwCl [(h0, .inr (10, [h0_tape, .int h0_tapeLength, h0_reader, h0_draft, h0_told, h0_course, h0_now, h0_history, h0_boxes, h0_boxFilled, h0_lying, .ref ol, h0_sightings, .int h0_time])), (ol, .inr (4, [ol_course, .ref to, ol_now, .ref ly, ol_trial, ol_ranks, ol_otherRanks, ol_staysUp, ol_aheads, .ref td, .ref be, .int ol_leastDifference])), (ly, .inr (3, [ly_numbers, .int 0])), (to, .inr (9, [.int 0, .int to_gustyCorners, .int 0, .int to_draw, .int to_drawTold, to_cornerNames, to_winds, to_lees, to_gustChances, to_gusts, to_guildNames, to_cloths, to_trues, to_strengths, to_reefs, to_pull, to_hold])), (td, .inl (gI g, 5, .inl f_td)), (be, .inl (gI g, 5, .inl f1))] H := hP
  have hD : va_D A [(h0, .inr (10, [h0_tape, .int h0_tapeLength, h0_reader, h0_draft, h0_told, h0_course, h0_now, h0_history, h0_boxes, h0_boxFilled, h0_lying, .ref ol, h0_sightings, .int h0_time])), (ol, .inr (4, [ol_course, .ref to, ol_now, .ref ly, ol_trial, ol_ranks, ol_otherRanks, ol_staysUp, ol_aheads, .ref td, .ref be, .int ol_leastDifference])), (ly, .inr (3, [ly_numbers, .int 0])), (to, .inr (9, [.int 0, .int to_gustyCorners, .int 0, .int to_draw, .int to_drawTold, to_cornerNames, to_winds, to_lees, to_gustChances, to_gusts, to_guildNames, to_cloths, to_trues, to_strengths, to_reefs, to_pull, to_hold])), (td, .inl (gI g, 5, .inl f_td)), (be, .inl (gI g, 5, .inl f1))] := hD
  have hP9 : va_P g.1 vwCl [] H := hP.sub [] rfl
  have hD9 : va_D A [] := hD.sub [] (by decide) rfl
  exact xi hx hb hr hlocks rfl hP9 hD9 hS ⟨rfl, rfl⟩ (Nat.le_of_ble_eq_true rfl) (Nat.le_of_ble_eq_true rfl) dX10_largest_7

set_option maxHeartbeats 4000000 in
set_option maxRecDepth 100000 in
theorem c_X10_street {l : Launch} {g : Gx} {h0 ol ly to td be tr tr_or tr_re tr_ch tr_ho tr_gu no no_or no_re no_ch no_ho no_gu co : Nat} {h0_tape : Value} {h0_tapeLength : Int32} {h0_reader : Value} {h0_draft : Value} {h0_told : Value} {h0_course : Value} {h0_now : Value} {h0_history : Value} {h0_boxes : Value} {h0_boxFilled : Value} {h0_lying : Value} {h0_sightings : Value} {h0_time : Int32} {ol_ranks : Value} {ol_otherRanks : Value} {ol_staysUp : Value} {ol_aheads : Value} {ol_leastDifference : Int32} {ly_numbers : Value} {ly_count : Int32} {to_gustyCorners : Int32} {to_draw : Int32} {to_drawTold : Int32} {to_cornerNames : Value} {to_winds : Value} {to_lees : Value} {to_gustChances : Value} {to_gusts : Value} {to_guildNames : Value} {to_cloths : Value} {to_trues : Value} {to_strengths : Value} {to_reefs : Value} {to_pull : Value} {to_hold : Value} {f_td : Nat → Int32} {f_be : Nat → Int32} {tr_up : Int32} {tr_standing : Int32} {tr_day : Int32} {tr_seed : Int32} {tr_firstTrue : Int32} {f_tr_or : Nat → Int32} {f_tr_re : Nat → Int32} {f_tr_ch : Nat → Int32} {f_tr_ho : Nat → Int32} {f_tr_gu : Nat → Int32} {no_day : Int32} {no_seed : Int32} {no_firstTrue : Int32} {f_no_or : Nat → Int32} {f_no_re : Nat → Int32} {f_no_ch : Nat → Int32} {f_no_ho : Nat → Int32} {f_no_gu : Nat → Int32} {co_values : Value} {co_pull : Int32} {co_hold : Int32} : MI l g yX10_street cX10_street 1 (some .int) 6 0 0 [.ref h0] [(h0, .inr (10, [h0_tape, .int h0_tapeLength, h0_reader, h0_draft, h0_told, h0_course, h0_now, h0_history, h0_boxes, h0_boxFilled, h0_lying, .ref ol, h0_sightings, .int h0_time])), (ol, .inr (4, [.ref co, .ref to, .ref no, .ref ly, .ref tr, ol_ranks, ol_otherRanks, ol_staysUp, ol_aheads, .ref td, .ref be, .int ol_leastDifference])), (ly, .inr (3, [ly_numbers, .int ly_count])), (to, .inr (9, [.int 0, .int to_gustyCorners, .int 0, .int to_draw, .int to_drawTold, to_cornerNames, to_winds, to_lees, to_gustChances, to_gusts, to_guildNames, to_cloths, to_trues, to_strengths, to_reefs, to_pull, to_hold])), (td, .inl (gI g, 5, .inl f_td)), (be, .inl (gI g, 5, .inl f_be)), (tr, .inr (7, [.ref tr_or, .ref tr_re, .ref tr_ch, .ref tr_ho, .ref tr_gu, .int tr_up, .int tr_standing, .int tr_day, .int tr_seed, .int tr_firstTrue])), (tr_or, .inl (gI g, 5, .inl f_tr_or)), (tr_re, .inl (gI g, 5, .inl f_tr_re)), (tr_ch, .inl (gI g, 5, .inl f_tr_ch)), (tr_ho, .inl (gI g, 5, .inl f_tr_ho)), (tr_gu, .inl (gI g, 5, .inl f_tr_gu)), (no, .inr (7, [.ref no_or, .ref no_re, .ref no_ch, .ref no_ho, .ref no_gu, .int 0, .int 0, .int no_day, .int no_seed, .int no_firstTrue])), (no_or, .inl (gI g, 5, .inl f_no_or)), (no_re, .inl (gI g, 5, .inl f_no_re)), (no_ch, .inl (gI g, 5, .inl f_no_ch)), (no_ho, .inl (gI g, 5, .inl f_no_ho)), (no_gu, .inl (gI g, 5, .inl f_no_gu)), (co, .inr (0, [.ref to, co_values, .int co_pull, .int co_hold]))] (fun r W' => 0 = r ∧ W' = []) := by
  refine MIof (by decide) (Nat.le_of_ble_eq_true rfl) ?_
  intro p e s m below meth c A ls H locs hcx hA hP hD hS hl
  obtain ⟨hx, hb, hml, hr, hlocks, hown, hts, hE, hnm⟩ := id hcx
  have hown : s.vm.findClass RX10 = some m.cls := hown
  have hK := hE.1
  have hl : lv_has ls 1 [(0, .ref h0)] := hl
  refine lv_aload_n hx hb dX10_street_0 rfl (lv_at hl 0 rfl) ?_
  refine va_get (D := g.1) (ci := 10) (v := Value.ref ol) (C := RX10) (T := TX10) (N := 14) hx hb hts inlX10 hown hK hP 0 rfl rfl 11 (by decide) (hts _ q2_21) (fun _ h9 => h9) rfl dX10_street_1 ?_
  refine kI (wc := [(ol, .inr (4, [.ref co, .ref to, .ref no, .ref ly, .ref tr, ol_ranks, ol_otherRanks, ol_staysUp, ol_aheads, .ref td, .ref be, .int ol_leastDifference])), (ly, .inr (3, [ly_numbers, .int ly_count])), (to, .inr (9, [.int 0, .int to_gustyCorners, .int 0, .int to_draw, .int to_drawTold, to_cornerNames, to_winds, to_lees, to_gustChances, to_gusts, to_guildNames, to_cloths, to_trues, to_strengths, to_reefs, to_pull, to_hold])), (td, .inl (gI g, 5, .inl f_td)), (be, .inl (gI g, 5, .inl f_be)), (tr, .inr (7, [.ref tr_or, .ref tr_re, .ref tr_ch, .ref tr_ho, .ref tr_gu, .int tr_up, .int tr_standing, .int tr_day, .int tr_seed, .int tr_firstTrue])), (tr_or, .inl (gI g, 5, .inl f_tr_or)), (tr_re, .inl (gI g, 5, .inl f_tr_re)), (tr_ch, .inl (gI g, 5, .inl f_tr_ch)), (tr_ho, .inl (gI g, 5, .inl f_tr_ho)), (tr_gu, .inl (gI g, 5, .inl f_tr_gu)), (no, .inr (7, [.ref no_or, .ref no_re, .ref no_ch, .ref no_ho, .ref no_gu, .int 0, .int 0, .int no_day, .int no_seed, .int no_firstTrue])), (no_or, .inl (gI g, 5, .inl f_no_or)), (no_re, .inl (gI g, 5, .inl f_no_re)), (no_ch, .inl (gI g, 5, .inl f_no_ch)), (no_ho, .inl (gI g, 5, .inl f_no_ho)), (no_gu, .inl (gI g, 5, .inl f_no_gu)), (co, .inr (0, [.ref to, co_values, .int co_pull, .int co_hold]))]) (wr := [(h0, .inr (10, [h0_tape, .int h0_tapeLength, h0_reader, h0_draft, h0_told, h0_course, h0_now, h0_history, h0_boxes, h0_boxFilled, h0_lying, .ref ol, h0_sightings, .int h0_time]))]) (rV (As := []) (rest := []) (meth2 := "") hcx (c_X4_bestOrder H.size) (gdV q52_9 q52_10 q52_11 q2_20 q52_12) dvX4_bestOrder ⟨Nat.le_of_ble_eq_true rfl, Nat.le_of_ble_eq_true rfl⟩ (hP.sub [1, 2, 3, 4, 5, 6, 7, 8, 9, 10, 11, 12, 13, 14, 15, 16, 17, 18] rfl) (hD.sub [1, 2, 3, 4, 5, 6, 7, 8, 9, 10, 11, 12, 13, 14, 15, 16, 17, 18] (by decide) rfl) (va_recv hK hP (ci := 4) (q0 := 1) rfl rfl) rfl hl.1 rfl (Nat.le_of_ble_eq_true rfl) dX10_street_4 ⟨Nat.le_of_ble_eq_true rfl, Nat.le_of_ble_eq_true rfl⟩) hP hD hS hA [1, 2, 3, 4, 5, 6, 7, 8, 9, 10, 11, 12, 13, 14, 15, 16, 17, 18] [0] rfl rfl (by decide) (by decide) (fun r W' H locs hw hP hD hS => ?_)
  obtain ⟨rfl, f1, f2, f3, f4, f5, f6, f7, rfl⟩ := hw
  have hP : va_P g.1 vwCl [(h0, .inr (10, [h0_tape, .int h0_tapeLength, h0_reader, h0_draft, h0_told, h0_course, h0_now, h0_history, h0_boxes, h0_boxFilled, h0_lying, .ref ol, h0_sightings, .int h0_time])), (ol, .inr (4, [.ref co, .ref to, .ref no, .ref ly, .ref tr, ol_ranks, ol_otherRanks, ol_staysUp, ol_aheads, .ref td, .ref be, .int ol_leastDifference])), (ly, .inr (3, [ly_numbers, .int 0])), (to, .inr (9, [.int 0, .int to_gustyCorners, .int 0, .int to_draw, .int to_drawTold, to_cornerNames, to_winds, to_lees, to_gustChances, to_gusts, to_guildNames, to_cloths, to_trues, to_strengths, to_reefs, to_pull, to_hold])), (td, .inl (gI g, 5, .inl f1)), (be, .inl (gI g, 5, .inl f2)), (tr, .inr (7, [.ref tr_or, .ref tr_re, .ref tr_ch, .ref tr_ho, .ref tr_gu, .int 0, .int 0, .int no_day, .int no_seed, .int no_firstTrue])), (tr_or, .inl (gI g, 5, .inl f3)), (tr_re, .inl (gI g, 5, .inl f4)), (tr_ch, .inl (gI g, 5, .inl f5)), (tr_ho, .inl (gI g, 5, .inl f6)), (tr_gu, .inl (gI g, 5, .inl f7)), (no, .inr (7, [.ref no_or, .ref no_re, .ref no_ch, .ref no_ho, .ref no_gu, .int 0, .int 0, .int no_day, .int no_seed, .int no_firstTrue])), (no_or, .inl (gI g, 5, .inl f_no_or)), (no_re, .inl (gI g, 5, .inl f_no_re)), (no_ch, .inl (gI g, 5, .inl f_no_ch)), (no_ho, .inl (gI g, 5, .inl f_no_ho)), (no_gu, .inl (gI g, 5, .inl f_no_gu)), (co, .inr (0, [.ref to, co_values, .int co_pull, .int co_hold]))] H := hP
  have hD : va_D A [(h0, .inr (10, [h0_tape, .int h0_tapeLength, h0_reader, h0_draft, h0_told, h0_course, h0_now, h0_history, h0_boxes, h0_boxFilled, h0_lying, .ref ol, h0_sightings, .int h0_time])), (ol, .inr (4, [.ref co, .ref to, .ref no, .ref ly, .ref tr, ol_ranks, ol_otherRanks, ol_staysUp, ol_aheads, .ref td, .ref be, .int ol_leastDifference])), (ly, .inr (3, [ly_numbers, .int 0])), (to, .inr (9, [.int 0, .int to_gustyCorners, .int 0, .int to_draw, .int to_drawTold, to_cornerNames, to_winds, to_lees, to_gustChances, to_gusts, to_guildNames, to_cloths, to_trues, to_strengths, to_reefs, to_pull, to_hold])), (td, .inl (gI g, 5, .inl f1)), (be, .inl (gI g, 5, .inl f2)), (tr, .inr (7, [.ref tr_or, .ref tr_re, .ref tr_ch, .ref tr_ho, .ref tr_gu, .int 0, .int 0, .int no_day, .int no_seed, .int no_firstTrue])), (tr_or, .inl (gI g, 5, .inl f3)), (tr_re, .inl (gI g, 5, .inl f4)), (tr_ch, .inl (gI g, 5, .inl f5)), (tr_ho, .inl (gI g, 5, .inl f6)), (tr_gu, .inl (gI g, 5, .inl f7)), (no, .inr (7, [.ref no_or, .ref no_re, .ref no_ch, .ref no_ho, .ref no_gu, .int 0, .int 0, .int no_day, .int no_seed, .int no_firstTrue])), (no_or, .inl (gI g, 5, .inl f_no_or)), (no_re, .inl (gI g, 5, .inl f_no_re)), (no_ch, .inl (gI g, 5, .inl f_no_ch)), (no_ho, .inl (gI g, 5, .inl f_no_ho)), (no_gu, .inl (gI g, 5, .inl f_no_gu)), (co, .inr (0, [.ref to, co_values, .int co_pull, .int co_hold]))] := hD
  have hP9 : va_P g.1 vwCl [] H := hP.sub [] rfl
  have hD9 : va_D A [] := hD.sub [] (by decide) rfl
  exact xi hx hb hr hlocks rfl hP9 hD9 hS ⟨rfl, rfl⟩ (Nat.le_of_ble_eq_true rfl) (Nat.le_of_ble_eq_true rfl) dX10_street_7

set_option maxHeartbeats 4000000 in
set_option maxRecDepth 100000 in
theorem c_X10_pairs {l : Launch} {g : Gx} {h0 ol ly to td be : Nat} {h0_tape : Value} {h0_tapeLength : Int32} {h0_reader : Value} {h0_draft : Value} {h0_told : Value} {h0_course : Value} {h0_now : Value} {h0_history : Value} {h0_boxes : Value} {h0_boxFilled : Value} {h0_lying : Value} {h0_sightings : Value} {h0_time : Int32} {ol_course : Value} {ol_now : Value} {ol_trial : Value} {ol_ranks : Value} {ol_otherRanks : Value} {ol_staysUp : Value} {ol_aheads : Value} {ol_leastDifference : Int32} {ly_numbers : Value} {ly_count : Int32} {to_gustyCorners : Int32} {to_draw : Int32} {to_drawTold : Int32} {to_cornerNames : Value} {to_winds : Value} {to_lees : Value} {to_gustChances : Value} {to_gusts : Value} {to_guildNames : Value} {to_cloths : Value} {to_trues : Value} {to_strengths : Value} {to_reefs : Value} {to_pull : Value} {to_hold : Value} {f_td : Nat → Int32} {f_be : Nat → Int32} : MI l g yX10_pairs cX10_pairs 1 (some .int) 5 0 0 [.ref h0] [(h0, .inr (10, [h0_tape, .int h0_tapeLength, h0_reader, h0_draft, h0_told, h0_course, h0_now, h0_history, h0_boxes, h0_boxFilled, h0_lying, .ref ol, h0_sightings, .int h0_time])), (ol, .inr (4, [ol_course, .ref to, ol_now, .ref ly, ol_trial, ol_ranks, ol_otherRanks, ol_staysUp, ol_aheads, .ref td, .ref be, .int ol_leastDifference])), (ly, .inr (3, [ly_numbers, .int ly_count])), (to, .inr (9, [.int 0, .int to_gustyCorners, .int 0, .int to_draw, .int to_drawTold, to_cornerNames, to_winds, to_lees, to_gustChances, to_gusts, to_guildNames, to_cloths, to_trues, to_strengths, to_reefs, to_pull, to_hold])), (td, .inl (gI g, 5, .inl f_td)), (be, .inl (gI g, 5, .inl f_be))] (fun r W' => 0 = r ∧ W' = []) := by
  refine MIof (by decide) (Nat.le_of_ble_eq_true rfl) ?_
  intro p e s m below meth c A ls H locs hcx hA hP hD hS hl
  obtain ⟨hx, hb, hml, hr, hlocks, hown, hts, hE, hnm⟩ := id hcx
  have hown : s.vm.findClass RX10 = some m.cls := hown
  have hK := hE.1
  have hl : lv_has ls 1 [(0, .ref h0)] := hl
  refine lv_aload_n hx hb dX10_pairs_0 rfl (lv_at hl 0 rfl) ?_
  refine va_get (D := g.1) (ci := 10) (v := Value.ref ol) (C := RX10) (T := TX10) (N := 14) hx hb hts inlX10 hown hK hP 0 rfl rfl 11 (by decide) (hts _ q2_21) (fun _ h9 => h9) rfl dX10_pairs_1 ?_
  refine kI (wc := [(ol, .inr (4, [ol_course, .ref to, ol_now, .ref ly, ol_trial, ol_ranks, ol_otherRanks, ol_staysUp, ol_aheads, .ref td, .ref be, .int ol_leastDifference])), (ly, .inr (3, [ly_numbers, .int ly_count])), (to, .inr (9, [.int 0, .int to_gustyCorners, .int 0, .int to_draw, .int to_drawTold, to_cornerNames, to_winds, to_lees, to_gustChances, to_gusts, to_guildNames, to_cloths, to_trues, to_strengths, to_reefs, to_pull, to_hold])), (td, .inl (gI g, 5, .inl f_td)), (be, .inl (gI g, 5, .inl f_be))]) (wr := [(h0, .inr (10, [h0_tape, .int h0_tapeLength, h0_reader, h0_draft, h0_told, h0_course, h0_now, h0_history, h0_boxes, h0_boxFilled, h0_lying, .ref ol, h0_sightings, .int h0_time]))]) (rV (As := []) (rest := []) (meth2 := "") hcx (c_X4_pairsOfCloth H.size) (gdV q55_22 q55_23 q56_0 q2_20 q56_1) dvX4_pairsOfCloth ⟨Nat.le_of_ble_eq_true rfl, Nat.le_of_ble_eq_true rfl⟩ (hP.sub [1, 2, 3, 4, 5] rfl) (hD.sub [1, 2, 3, 4, 5] (by decide) rfl) (va_recv hK hP (ci := 4) (q0 := 1) rfl rfl) rfl hl.1 rfl (Nat.le_of_ble_eq_true rfl) dX10_pairs_4 ⟨Nat.le_of_ble_eq_true rfl, Nat.le_of_ble_eq_true rfl⟩) hP hD hS hA [1, 2, 3, 4, 5] [0] rfl rfl (by decide) (by decide) (fun r W' H locs hw hP hD hS => ?_)
  obtain ⟨rfl, f1, f2, rfl⟩ := hw
  have hP : va_P g.1 vwCl [(h0, .inr (10, [h0_tape, .int h0_tapeLength, h0_reader, h0_draft, h0_told, h0_course, h0_now, h0_history, h0_boxes, h0_boxFilled, h0_lying, .ref ol, h0_sightings, .int h0_time])), (ol, .inr (4, [ol_course, .ref to, ol_now, .ref ly, ol_trial, ol_ranks, ol_otherRanks, ol_staysUp, ol_aheads, .ref td, .ref be, .int 0])), (ly, .inr (3, [ly_numbers, .int 0])), (to, .inr (9, [.int 0, .int to_gustyCorners, .int 0, .int to_draw, .int to_drawTold, to_cornerNames, to_winds, to_lees, to_gustChances, to_gusts, to_guildNames, to_cloths, to_trues, to_strengths, to_reefs, to_pull, to_hold])), (td, .inl (gI g, 5, .inl f1)), (be, .inl (gI g, 5, .inl f2))] H := hP
  have hD : va_D A [(h0, .inr (10, [h0_tape, .int h0_tapeLength, h0_reader, h0_draft, h0_told, h0_course, h0_now, h0_history, h0_boxes, h0_boxFilled, h0_lying, .ref ol, h0_sightings, .int h0_time])), (ol, .inr (4, [ol_course, .ref to, ol_now, .ref ly, ol_trial, ol_ranks, ol_otherRanks, ol_staysUp, ol_aheads, .ref td, .ref be, .int 0])), (ly, .inr (3, [ly_numbers, .int 0])), (to, .inr (9, [.int 0, .int to_gustyCorners, .int 0, .int to_draw, .int to_drawTold, to_cornerNames, to_winds, to_lees, to_gustChances, to_gusts, to_guildNames, to_cloths, to_trues, to_strengths, to_reefs, to_pull, to_hold])), (td, .inl (gI g, 5, .inl f1)), (be, .inl (gI g, 5, .inl f2))] := hD
  have hP9 : va_P g.1 vwCl [] H := hP.sub [] rfl
  have hD9 : va_D A [] := hD.sub [] (by decide) rfl
  exact xi hx hb hr hlocks rfl hP9 hD9 hS ⟨rfl, rfl⟩ (Nat.le_of_ble_eq_true rfl) (Nat.le_of_ble_eq_true rfl) dX10_pairs_7

set_option maxHeartbeats 4000000 in
set_option maxRecDepth 100000 in
theorem c_X10_shield {l : Launch} {g : Gx} {h0 ol to : Nat} {h0_tape : Value} {h0_tapeLength : Int32} {h0_reader : Value} {h0_draft : Value} {h0_told : Value} {h0_course : Value} {h0_now : Value} {h0_history : Value} {h0_boxes : Value} {h0_boxFilled : Value} {h0_lying : Value} {h0_sightings : Value} {h0_time : Int32} {ol_course : Value} {ol_now : Value} {ol_lying : Value} {ol_trial : Value} {ol_ranks : Value} {ol_otherRanks : Value} {ol_staysUp : Value} {ol_aheads : Value} {ol_tried : Value} {ol_best : Value} {ol_leastDifference : Int32} {to_gustyCorners : Int32} {to_draw : Int32} {to_drawTold : Int32} {to_cornerNames : Value} {to_winds : Value} {to_lees : Value} {to_gustChances : Value} {to_gusts : Value} {to_guildNames : Value} {to_cloths : Value} {to_trues : Value} {to_strengths : Value} {to_reefs : Value} {to_pull : Value} {to_hold : Value} : MI l g yX10_shield cX10_shield 1 (some .int) 3 0 0 [.ref h0] [(h0, .inr (10, [h0_tape, .int h0_tapeLength, h0_reader, h0_draft, h0_told, h0_course, h0_now, h0_history, h0_boxes, h0_boxFilled, h0_lying, .ref ol, h0_sightings, .int h0_time])), (ol, .inr (4, [ol_course, .ref to, ol_now, ol_lying, ol_trial, ol_ranks, ol_otherRanks, ol_staysUp, ol_aheads, ol_tried, ol_best, .int ol_leastDifference])), (to, .inr (9, [.int 0, .int to_gustyCorners, .int 0, .int to_draw, .int to_drawTold, to_cornerNames, to_winds, to_lees, to_gustChances, to_gusts, to_guildNames, to_cloths, to_trues, to_strengths, to_reefs, to_pull, to_hold]))] (fun r W' => (-1) = r ∧ W' = []) := by
  refine MIof (by decide) (Nat.le_of_ble_eq_true rfl) ?_
  intro p e s m below meth c A ls H locs hcx hA hP hD hS hl
  obtain ⟨hx, hb, hml, hr, hlocks, hown, hts, hE, hnm⟩ := id hcx
  have hown : s.vm.findClass RX10 = some m.cls := hown
  have hK := hE.1
  have hl : lv_has ls 1 [(0, .ref h0)] := hl
  refine lv_aload_n hx hb dX10_shield_0 rfl (lv_at hl 0 rfl) ?_
  refine va_get (D := g.1) (ci := 10) (v := Value.ref ol) (C := RX10) (T := TX10) (N := 14) hx hb hts inlX10 hown hK hP 0 rfl rfl 11 (by decide) (hts _ q2_21) (fun _ h9 => h9) rfl dX10_shield_1 ?_
  refine kI (wc := [(ol, .inr (4, [ol_course, .ref to, ol_now, ol_lying, ol_trial, ol_ranks, ol_otherRanks, ol_staysUp, ol_aheads, ol_tried, ol_best, .int ol_leastDifference])), (to, .inr (9, [.int 0, .int to_gustyCorners, .int 0, .int to_draw, .int to_drawTold, to_cornerNames, to_winds, to_lees, to_gustChances, to_gusts, to_guildNames, to_cloths, to_trues, to_strengths, to_reefs, to_pull, to_hold]))]) (wr := [(h0, .inr (10, [h0_tape, .int h0_tapeLength, h0_reader, h0_draft, h0_told, h0_course, h0_now, h0_history, h0_boxes, h0_boxFilled, h0_lying, .ref ol, h0_sightings, .int h0_time]))]) (rV (As := []) (rest := []) (meth2 := "") hcx (c_X4_dearestBanner H.size) (gdV q58_3 q58_4 q58_5 q2_20 q58_6) dvX4_dearestBanner ⟨Nat.le_of_ble_eq_true rfl, Nat.le_of_ble_eq_true rfl⟩ (hP.sub [1, 2] rfl) (hD.sub [1, 2] (by decide) rfl) (va_recv hK hP (ci := 4) (q0 := 1) rfl rfl) rfl hl.1 rfl (Nat.le_of_ble_eq_true rfl) dX10_shield_4 ⟨Nat.le_of_ble_eq_true rfl, Nat.le_of_ble_eq_true rfl⟩) hP hD hS hA [1, 2] [0] rfl rfl (by decide) (by decide) (fun r W' H locs hw hP hD hS => ?_)
  obtain ⟨rfl, rfl⟩ := hw
  have hP : va_P g.1 vwCl [(h0, .inr (10, [h0_tape, .int h0_tapeLength, h0_reader, h0_draft, h0_told, h0_course, h0_now, h0_history, h0_boxes, h0_boxFilled, h0_lying, .ref ol, h0_sightings, .int h0_time])), (ol, .inr (4, [ol_course, .ref to, ol_now, ol_lying, ol_trial, ol_ranks, ol_otherRanks, ol_staysUp, ol_aheads, ol_tried, ol_best, .int ol_leastDifference])), (to, .inr (9, [.int 0, .int to_gustyCorners, .int 0, .int to_draw, .int to_drawTold, to_cornerNames, to_winds, to_lees, to_gustChances, to_gusts, to_guildNames, to_cloths, to_trues, to_strengths, to_reefs, to_pull, to_hold]))] H := hP
  have hD : va_D A [(h0, .inr (10, [h0_tape, .int h0_tapeLength, h0_reader, h0_draft, h0_told, h0_course, h0_now, h0_history, h0_boxes, h0_boxFilled, h0_lying, .ref ol, h0_sightings, .int h0_time])), (ol, .inr (4, [ol_course, .ref to, ol_now, ol_lying, ol_trial, ol_ranks, ol_otherRanks, ol_staysUp, ol_aheads, ol_tried, ol_best, .int ol_leastDifference])), (to, .inr (9, [.int 0, .int to_gustyCorners, .int 0, .int to_draw, .int to_drawTold, to_cornerNames, to_winds, to_lees, to_gustChances, to_gusts, to_guildNames, to_cloths, to_trues, to_strengths, to_reefs, to_pull, to_hold]))] := hD
  have hP9 : va_P g.1 vwCl [] H := hP.sub [] rfl
  have hD9 : va_D A [] := hD.sub [] (by decide) rfl
  exact xi hx hb hr hlocks rfl hP9 hD9 hS ⟨rfl, rfl⟩ (Nat.le_of_ble_eq_true rfl) (Nat.le_of_ble_eq_true rfl) dX10_shield_7

set_option maxHeartbeats 4000000 in
set_option maxRecDepth 100000 in
theorem c_X10_law {l : Launch} {g : Gx} {h0 ol tr tr_or tr_re tr_ch tr_ho tr_gu no no_or no_re no_ch no_ho no_gu co to : Nat} {p0 : Int32} {h0_tape : Value} {h0_tapeLength : Int32} {h0_reader : Value} {h0_draft : Value} {h0_told : Value} {h0_course : Value} {h0_now : Value} {h0_history : Value} {h0_boxes : Value} {h0_boxFilled : Value} {h0_lying : Value} {h0_sightings : Value} {h0_time : Int32} {ol_told : Value} {ol_lying : Value} {ol_ranks : Value} {ol_otherRanks : Value} {ol_staysUp : Value} {ol_aheads : Value} {ol_tried : Value} {ol_best : Value} {ol_leastDifference : Int32} {tr_up : Int32} {tr_standing : Int32} {tr_day : Int32} {tr_seed : Int32} {tr_firstTrue : Int32} {f_tr_or : Nat → Int32} {f_tr_re : Nat → Int32} {f_tr_ch : Nat → Int32} {f_tr_ho : Nat → Int32} {f_tr_gu : Nat → Int32} {no_day : Int32} {no_seed : Int32} {no_firstTrue : Int32} {f_no_or : Nat → Int32} {f_no_re : Nat → Int32} {f_no_ch : Nat → Int32} {f_no_ho : Nat → Int32} {f_no_gu : Nat → Int32} {co_values : Value} {co_pull : Int32} {co_hold : Int32} {to_gustyCorners : Int32} {to_draw : Int32} {to_drawTold : Int32} {to_cornerNames : Value} {to_winds : Value} {to_lees : Value} {to_gustChances : Value} {to_gusts : Value} {to_guildNames : Value} {to_cloths : Value} {to_trues : Value} {to_strengths : Value} {to_reefs : Value} {to_pull : Value} {to_hold : Value} : MI l g yX10_law cX10_law 2 (some .int) 6 0 0 [.ref h0, .int p0] [(h0, .inr (10, [h0_tape, .int h0_tapeLength, h0_reader, h0_draft, h0_told, h0_course, h0_now, h0_history, h0_boxes, h0_boxFilled, h0_lying, .ref ol, h0_sightings, .int h0_time])), (ol, .inr (4, [.ref co, ol_told, .ref no, ol_lying, .ref tr, ol_ranks, ol_otherRanks, ol_staysUp, ol_aheads, ol_tried, ol_best, .int ol_leastDifference])), (tr, .inr (7, [.ref tr_or, .ref tr_re, .ref tr_ch, .ref tr_ho, .ref tr_gu, .int tr_up, .int tr_standing, .int tr_day, .int tr_seed, .int tr_firstTrue])), (tr_or, .inl (gI g, 5, .inl f_tr_or)), (tr_re, .inl (gI g, 5, .inl f_tr_re)), (tr_ch, .inl (gI g, 5, .inl f_tr_ch)), (tr_ho, .inl (gI g, 5, .inl f_tr_ho)), (tr_gu, .inl (gI g, 5, .inl f_tr_gu)), (no, .inr (7, [.ref no_or, .ref no_re, .ref no_ch, .ref no_ho, .ref no_gu, .int 0, .int 0, .int no_day, .int no_seed, .int no_firstTrue])), (no_or, .inl (gI g, 5, .inl f_no_or)), (no_re, .inl (gI g, 5, .inl f_no_re)), (no_ch, .inl (gI g, 5, .inl f_no_ch)), (no_ho, .inl (gI g, 5, .inl f_no_ho)), (no_gu, .inl (gI g, 5, .inl f_no_gu)), (co, .inr (0, [.ref to, co_values, .int co_pull, .int co_hold])), (to, .inr (9, [.int 0, .int to_gustyCorners, .int 0, .int to_draw, .int to_drawTold, to_cornerNames, to_winds, to_lees, to_gustChances, to_gusts, to_guildNames, to_cloths, to_trues, to_strengths, to_reefs, to_pull, to_hold]))] (fun r W' => r = sp_law p0 ∧ W' = []) := by
  refine MIof (by decide) (Nat.le_of_ble_eq_true rfl) ?_
  intro p e s m below meth c A ls H locs hcx hA hP hD hS hl
  obtain ⟨hx, hb, hml, hr, hlocks, hown, hts, hE, hnm⟩ := id hcx
  have hown : s.vm.findClass RX10 = some m.cls := hown
  have hK := hE.1
  have hl : lv_has ls 2 [(0, .ref h0), (1, .int p0)] := hl
  refine lv_iload_n hx hb dX10_law_0 rfl (lv_at hl 1 rfl) ?_
  refine lv_if_lt (tgt := 10) hx hb dX10_law_1 (by decide) (fun c1 => ?_) (fun c1 => ?_)
  · refine lv_iconst (v := (-1)) hx hb dX10_law_10 (by decide) ?_
    refine lv_goto (tgt := 22) hx hb dX10_law_11 (by decide) ?_
    have hP9 : va_P g.1 vwCl [] H := hP.sub [] rfl
    have hD9 : va_D A [] := hD.sub [] (by decide) rfl
    exact xi hx hb hr hlocks rfl hP9 hD9 hS ⟨(by simp [sp_law, c1]), rfl⟩ (Nat.le_of_ble_eq_true rfl) (Nat.le_of_ble_eq_true rfl) dX10_law_22
  · refine lv_iload_n hx hb dX10_law_4 rfl (lv_at hl 1 rfl) ?_
    refine lv_bipush (v := 20) hx hb dX10_law_5 (by decide) ?_
    refine lv_icmp_le (tgt := 14) hx hb dX10_law_7 (by decide) (fun c2 => ?_) (fun c2 => ?_)
    · refine lv_aload_n hx hb dX10_law_14 rfl (lv_at hl 0 rfl) ?_
      refine va_get (D := g.1) (ci := 10) (v := Value.ref ol) (C := RX10) (T := TX10) (N := 14) hx hb hts inlX10 hown hK hP 0 rfl rfl 11 (by decide) (hts _ q2_21) (fun _ h9 => h9) rfl dX10_law_15 ?_
      refine lv_iload_n hx hb dX10_law_18 rfl (lv_at hl 1 rfl) ?_
      refine kI (wc := [(ol, .inr (4, [.ref co, ol_told, .ref no, ol_lying, .ref tr, ol_ranks, ol_otherRanks, ol_staysUp, ol_aheads, ol_tried, ol_best, .int ol_leastDifference])), (tr, .inr (7, [.ref tr_or, .ref tr_re, .ref tr_ch, .ref tr_ho, .ref tr_gu, .int tr_up, .int tr_standing, .int tr_day, .int tr_seed, .int tr_firstTrue])), (tr_or, .inl (gI g, 5, .inl f_tr_or)), (tr_re, .inl (gI g, 5, .inl f_tr_re)), (tr_ch, .inl (gI g, 5, .inl f_tr_ch)), (tr_ho, .inl (gI g, 5, .inl f_tr_ho)), (tr_gu, .inl (gI g, 5, .inl f_tr_gu)), (no, .inr (7, [.ref no_or, .ref no_re, .ref no_ch, .ref no_ho, .ref no_gu, .int 0, .int 0, .int no_day, .int no_seed, .int no_firstTrue])), (no_or, .inl (gI g, 5, .inl f_no_or)), (no_re, .inl (gI g, 5, .inl f_no_re)), (no_ch, .inl (gI g, 5, .inl f_no_ch)), (no_ho, .inl (gI g, 5, .inl f_no_ho)), (no_gu, .inl (gI g, 5, .inl f_no_gu)), (co, .inr (0, [.ref to, co_values, .int co_pull, .int co_hold])), (to, .inr (9, [.int 0, .int to_gustyCorners, .int 0, .int to_draw, .int to_drawTold, to_cornerNames, to_winds, to_lees, to_gustChances, to_gusts, to_guildNames, to_cloths, to_trues, to_strengths, to_reefs, to_pull, to_hold]))]) (wr := [(h0, .inr (10, [h0_tape, .int h0_tapeLength, h0_reader, h0_draft, h0_told, h0_course, h0_now, h0_history, h0_boxes, h0_boxFilled, h0_lying, .ref ol, h0_sightings, .int h0_time]))]) (rV (As := [.int p0]) (rest := []) (meth2 := "") hcx (c_X4_roundByOneReef H.size) (gdV q58_16 q58_17 q58_18 q2_20 q58_19) dvX4_roundByOneReef ⟨Nat.le_of_ble_eq_true rfl, Nat.le_of_ble_eq_true rfl⟩ (hP.sub [1, 2, 3, 4, 5, 6, 7, 8, 9, 10, 11, 12, 13, 14, 15] rfl) (hD.sub [1, 2, 3, 4, 5, 6, 7, 8, 9, 10, 11, 12, 13, 14, 15] (by decide) rfl) (va_recv hK hP (ci := 4) (q0 := 1) rfl rfl) rfl hl.1 rfl (Nat.le_of_ble_eq_true rfl) dX10_law_19 ⟨Nat.le_of_ble_eq_true rfl, Nat.le_of_ble_eq_true rfl⟩) hP hD hS hA [1, 2, 3, 4, 5, 6, 7, 8, 9, 10, 11, 12, 13, 14, 15] [0] rfl rfl (by decide) (by decide) (fun r W' H locs hw hP hD hS => ?_)
      obtain ⟨rfl, f3, f4, f5, f6, f7, rfl⟩ := hw
      have hP : va_P g.1 vwCl [(h0, .inr (10, [h0_tape, .int h0_tapeLength, h0_reader, h0_draft, h0_told, h0_course, h0_now, h0_history, h0_boxes, h0_boxFilled, h0_lying, .ref ol, h0_sightings, .int h0_time])), (ol, .inr (4, [.ref co, ol_told, .ref no, ol_lying, .ref tr, ol_ranks, ol_otherRanks, ol_staysUp, ol_aheads, ol_tried, ol_best, .int ol_leastDifference])), (tr, .inr (7, [.ref tr_or, .ref tr_re, .ref tr_ch, .ref tr_ho, .ref tr_gu, .int 0, .int 0, .int no_day, .int no_seed, .int no_firstTrue])), (tr_or, .inl (gI g, 5, .inl f3)), (tr_re, .inl (gI g, 5, .inl f4)), (tr_ch, .inl (gI g, 5, .inl f5)), (tr_ho, .inl (gI g, 5, .inl f6)), (tr_gu, .inl (gI g, 5, .inl f7)), (no, .inr (7, [.ref no_or, .ref no_re, .ref no_ch, .ref no_ho, .ref no_gu, .int 0, .int 0, .int no_day, .int no_seed, .int no_firstTrue])), (no_or, .inl (gI g, 5, .inl f_no_or)), (no_re, .inl (gI g, 5, .inl f_no_re)), (no_ch, .inl (gI g, 5, .inl f_no_ch)), (no_ho, .inl (gI g, 5, .inl f_no_ho)), (no_gu, .inl (gI g, 5, .inl f_no_gu)), (co, .inr (0, [.ref to, co_values, .int co_pull, .int co_hold])), (to, .inr (9, [.int 0, .int to_gustyCorners, .int 0, .int to_draw, .int to_drawTold, to_cornerNames, to_winds, to_lees, to_gustChances, to_gusts, to_guildNames, to_cloths, to_trues, to_strengths, to_reefs, to_pull, to_hold]))] H := hP
      have hD : va_D A [(h0, .inr (10, [h0_tape, .int h0_tapeLength, h0_reader, h0_draft, h0_told, h0_course, h0_now, h0_history, h0_boxes, h0_boxFilled, h0_lying, .ref ol, h0_sightings, .int h0_time])), (ol, .inr (4, [.ref co, ol_told, .ref no, ol_lying, .ref tr, ol_ranks, ol_otherRanks, ol_staysUp, ol_aheads, ol_tried, ol_best, .int ol_leastDifference])), (tr, .inr (7, [.ref tr_or, .ref tr_re, .ref tr_ch, .ref tr_ho, .ref tr_gu, .int 0, .int 0, .int no_day, .int no_seed, .int no_firstTrue])), (tr_or, .inl (gI g, 5, .inl f3)), (tr_re, .inl (gI g, 5, .inl f4)), (tr_ch, .inl (gI g, 5, .inl f5)), (tr_ho, .inl (gI g, 5, .inl f6)), (tr_gu, .inl (gI g, 5, .inl f7)), (no, .inr (7, [.ref no_or, .ref no_re, .ref no_ch, .ref no_ho, .ref no_gu, .int 0, .int 0, .int no_day, .int no_seed, .int no_firstTrue])), (no_or, .inl (gI g, 5, .inl f_no_or)), (no_re, .inl (gI g, 5, .inl f_no_re)), (no_ch, .inl (gI g, 5, .inl f_no_ch)), (no_ho, .inl (gI g, 5, .inl f_no_ho)), (no_gu, .inl (gI g, 5, .inl f_no_gu)), (co, .inr (0, [.ref to, co_values, .int co_pull, .int co_hold])), (to, .inr (9, [.int 0, .int to_gustyCorners, .int 0, .int to_draw, .int to_drawTold, to_cornerNames, to_winds, to_lees, to_gustChances, to_gusts, to_guildNames, to_cloths, to_trues, to_strengths, to_reefs, to_pull, to_hold]))] := hD
      have hP9 : va_P g.1 vwCl [] H := hP.sub [] rfl
      have hD9 : va_D A [] := hD.sub [] (by decide) rfl
      exact xi hx hb hr hlocks rfl hP9 hD9 hS ⟨(by simp [sp_law, c1, c2]), rfl⟩ (Nat.le_of_ble_eq_true rfl) (Nat.le_of_ble_eq_true rfl) dX10_law_22
    · refine lv_iconst (v := (-1)) hx hb dX10_law_10 (by decide) ?_
      refine lv_goto (tgt := 22) hx hb dX10_law_11 (by decide) ?_
      have hP9 : va_P g.1 vwCl [] H := hP.sub [] rfl
      have hD9 : va_D A [] := hD.sub [] (by decide) rfl
      exact xi hx hb hr hlocks rfl hP9 hD9 hS ⟨(by simp [sp_law, c1, c2]), rfl⟩ (Nat.le_of_ble_eq_true rfl) (Nat.le_of_ble_eq_true rfl) dX10_law_22

set_option maxHeartbeats 4000000 in
set_option maxRecDepth 100000 in
theorem c_X10_worst {l : Launch} {g : Gx} {h0 ol tr tr_or tr_re tr_ch tr_ho tr_gu no no_or no_re no_ch no_ho no_gu to : Nat} {h0_tape : Value} {h0_tapeLength : Int32} {h0_reader : Value} {h0_draft : Value} {h0_told : Value} {h0_course : Value} {h0_now : Value} {h0_history : Value} {h0_boxes : Value} {h0_boxFilled : Value} {h0_lying : Value} {h0_sightings : Value} {h0_time : Int32} {ol_course : Value} {ol_lying : Value} {ol_ranks : Value} {ol_otherRanks : Value} {ol_staysUp : Value} {ol_aheads : Value} {ol_tried : Value} {ol_best : Value} {ol_leastDifference : Int32} {tr_up : Int32} {tr_standing : Int32} {tr_day : Int32} {tr_seed : Int32} {tr_firstTrue : Int32} {f_tr_or : Nat → Int32} {f_tr_re : Nat → Int32} {f_tr_ch : Nat → Int32} {f_tr_ho : Nat → Int32} {f_tr_gu : Nat → Int32} {no_day : Int32} {no_seed : Int32} {no_firstTrue : Int32} {f_no_or : Nat → Int32} {f_no_re : Nat → Int32} {f_no_ch : Nat → Int32} {f_no_ho : Nat → Int32} {f_no_gu : Nat → Int32} {to_gustyCorners : Int32} {to_draw : Int32} {to_drawTold : Int32} {to_cornerNames : Value} {to_winds : Value} {to_lees : Value} {to_gustChances : Value} {to_gusts : Value} {to_guildNames : Value} {to_cloths : Value} {to_trues : Value} {to_strengths : Value} {to_reefs : Value} {to_pull : Value} {to_hold : Value} : MI l g yX10_worst cX10_worst 1 (some .int) 4 0 0 [.ref h0] [(h0, .inr (10, [h0_tape, .int h0_tapeLength, h0_reader, h0_draft, h0_told, h0_course, h0_now, h0_history, h0_boxes, h0_boxFilled, h0_lying, .ref ol, h0_sightings, .int h0_time])), (ol, .inr (4, [ol_course, .ref to, .ref no, ol_lying, .ref tr, ol_ranks, ol_otherRanks, ol_staysUp, ol_aheads, ol_tried, ol_best, .int ol_leastDifference])), (tr, .inr (7, [.ref tr_or, .ref tr_re, .ref tr_ch, .ref tr_ho, .ref tr_gu, .int tr_up, .int tr_standing, .int tr_day, .int tr_seed, .int tr_firstTrue])), (tr_or, .inl (gI g, 5, .inl f_tr_or)), (tr_re, .inl (gI g, 5, .inl f_tr_re)), (tr_ch, .inl (gI g, 5, .inl f_tr_ch)), (tr_ho, .inl (gI g, 5, .inl f_tr_ho)), (tr_gu, .inl (gI g, 5, .inl f_tr_gu)), (no, .inr (7, [.ref no_or, .ref no_re, .ref no_ch, .ref no_ho, .ref no_gu, .int 0, .int 0, .int no_day, .int no_seed, .int no_firstTrue])), (no_or, .inl (gI g, 5, .inl f_no_or)), (no_re, .inl (gI g, 5, .inl f_no_re)), (no_ch, .inl (gI g, 5, .inl f_no_ch)), (no_ho, .inl (gI g, 5, .inl f_no_ho)), (no_gu, .inl (gI g, 5, .inl f_no_gu)), (to, .inr (9, [.int 0, .int to_gustyCorners, .int 0, .int to_draw, .int to_drawTold, to_cornerNames, to_winds, to_lees, to_gustChances, to_gusts, to_guildNames, to_cloths, to_trues, to_strengths, to_reefs, to_pull, to_hold]))] (fun r W' => (-1) = r ∧ W' = []) := by
  refine MIof (by decide) (Nat.le_of_ble_eq_true rfl) ?_
  intro p e s m below meth c A ls H locs hcx hA hP hD hS hl
  obtain ⟨hx, hb, hml, hr, hlocks, hown, hts, hE, hnm⟩ := id hcx
  have hown : s.vm.findClass RX10 = some m.cls := hown
  have hK := hE.1
  have hl : lv_has ls 1 [(0, .ref h0)] := hl
  refine lv_aload_n hx hb dX10_worst_0 rfl (lv_at hl 0 rfl) ?_
  refine va_get (D := g.1) (ci := 10) (v := Value.ref ol) (C := RX10) (T := TX10) (N := 14) hx hb hts inlX10 hown hK hP 0 rfl rfl 11 (by decide) (hts _ q2_21) (fun _ h9 => h9) rfl dX10_worst_1 ?_
  refine kI (wc := [(ol, .inr (4, [ol_course, .ref to, .ref no, ol_lying, .ref tr, ol_ranks, ol_otherRanks, ol_staysUp, ol_aheads, ol_tried, ol_best, .int ol_leastDifference])), (tr, .inr (7, [.ref tr_or, .ref tr_re, .ref tr_ch, .ref tr_ho, .ref tr_gu, .int tr_up, .int tr_standing, .int tr_day, .int tr_seed, .int tr_firstTrue])), (tr_or, .inl (gI g, 5, .inl f_tr_or)), (tr_re, .inl (gI g, 5, .inl f_tr_re)), (tr_ch, .inl (gI g, 5, .inl f_tr_ch)), (tr_ho, .inl (gI g, 5, .inl f_tr_ho)), (tr_gu, .inl (gI g, 5, .inl f_tr_gu)), (no, .inr (7, [.ref no_or, .ref no_re, .ref no_ch, .ref no_ho, .ref no_gu, .int 0, .int 0, .int no_day, .int no_seed, .int no_firstTrue])), (no_or, .inl (gI g, 5, .inl f_no_or)), (no_re, .inl (gI g, 5, .inl f_no_re)), (no_ch, .inl (gI g, 5, .inl f_no_ch)), (no_ho, .inl (gI g, 5, .inl f_no_ho)), (no_gu, .inl (gI g, 5, .inl f_no_gu)), (to, .inr (9, [.int 0, .int to_gustyCorners, .int 0, .int to_draw, .int to_drawTold, to_cornerNames, to_winds, to_lees, to_gustChances, to_gusts, to_guildNames, to_cloths, to_trues, to_strengths, to_reefs, to_pull, to_hold]))]) (wr := [(h0, .inr (10, [h0_tape, .int h0_tapeLength, h0_reader, h0_draft, h0_told, h0_course, h0_now, h0_history, h0_boxes, h0_boxFilled, h0_lying, .ref ol, h0_sightings, .int h0_time]))]) (rV (As := []) (rest := []) (meth2 := "") hcx (c_X4_worstCorner H.size) (gdV q59_4 q59_5 q59_6 q2_20 q59_7) dvX4_worstCorner ⟨Nat.le_of_ble_eq_true rfl, Nat.le_of_ble_eq_true rfl⟩ (hP.sub [1, 2, 3, 4, 5, 6, 7, 8, 9, 10, 11, 12, 13, 14] rfl) (hD.sub [1, 2, 3, 4, 5, 6, 7, 8, 9, 10, 11, 12, 13, 14] (by decide) rfl) (va_recv hK hP (ci := 4) (q0 := 1) rfl rfl) rfl hl.1 rfl (Nat.le_of_ble_eq_true rfl) dX10_worst_4 ⟨Nat.le_of_ble_eq_true rfl, Nat.le_of_ble_eq_true rfl⟩) hP hD hS hA [1, 2, 3, 4, 5, 6, 7, 8, 9, 10, 11, 12, 13, 14] [0] rfl rfl (by decide) (by decide) (fun r W' H locs hw hP hD hS => ?_)
  obtain ⟨rfl, f1, f2, f3, f4, f5, rfl⟩ := hw
  have hP : va_P g.1 vwCl [(h0, .inr (10, [h0_tape, .int h0_tapeLength, h0_reader, h0_draft, h0_told, h0_course, h0_now, h0_history, h0_boxes, h0_boxFilled, h0_lying, .ref ol, h0_sightings, .int h0_time])), (ol, .inr (4, [ol_course, .ref to, .ref no, ol_lying, .ref tr, ol_ranks, ol_otherRanks, ol_staysUp, ol_aheads, ol_tried, ol_best, .int ol_leastDifference])), (tr, .inr (7, [.ref tr_or, .ref tr_re, .ref tr_ch, .ref tr_ho, .ref tr_gu, .int 0, .int 0, .int no_day, .int no_seed, .int no_firstTrue])), (tr_or, .inl (gI g, 5, .inl f1)), (tr_re, .inl (gI g, 5, .inl f2)), (tr_ch, .inl (gI g, 5, .inl f3)), (tr_ho, .inl (gI g, 5, .inl f4)), (tr_gu, .inl (gI g, 5, .inl f5)), (no, .inr (7, [.ref no_or, .ref no_re, .ref no_ch, .ref no_ho, .ref no_gu, .int 0, .int 0, .int no_day, .int no_seed, .int no_firstTrue])), (no_or, .inl (gI g, 5, .inl f_no_or)), (no_re, .inl (gI g, 5, .inl f_no_re)), (no_ch, .inl (gI g, 5, .inl f_no_ch)), (no_ho, .inl (gI g, 5, .inl f_no_ho)), (no_gu, .inl (gI g, 5, .inl f_no_gu)), (to, .inr (9, [.int 0, .int to_gustyCorners, .int 0, .int to_draw, .int to_drawTold, to_cornerNames, to_winds, to_lees, to_gustChances, to_gusts, to_guildNames, to_cloths, to_trues, to_strengths, to_reefs, to_pull, to_hold]))] H := hP
  have hD : va_D A [(h0, .inr (10, [h0_tape, .int h0_tapeLength, h0_reader, h0_draft, h0_told, h0_course, h0_now, h0_history, h0_boxes, h0_boxFilled, h0_lying, .ref ol, h0_sightings, .int h0_time])), (ol, .inr (4, [ol_course, .ref to, .ref no, ol_lying, .ref tr, ol_ranks, ol_otherRanks, ol_staysUp, ol_aheads, ol_tried, ol_best, .int ol_leastDifference])), (tr, .inr (7, [.ref tr_or, .ref tr_re, .ref tr_ch, .ref tr_ho, .ref tr_gu, .int 0, .int 0, .int no_day, .int no_seed, .int no_firstTrue])), (tr_or, .inl (gI g, 5, .inl f1)), (tr_re, .inl (gI g, 5, .inl f2)), (tr_ch, .inl (gI g, 5, .inl f3)), (tr_ho, .inl (gI g, 5, .inl f4)), (tr_gu, .inl (gI g, 5, .inl f5)), (no, .inr (7, [.ref no_or, .ref no_re, .ref no_ch, .ref no_ho, .ref no_gu, .int 0, .int 0, .int no_day, .int no_seed, .int no_firstTrue])), (no_or, .inl (gI g, 5, .inl f_no_or)), (no_re, .inl (gI g, 5, .inl f_no_re)), (no_ch, .inl (gI g, 5, .inl f_no_ch)), (no_ho, .inl (gI g, 5, .inl f_no_ho)), (no_gu, .inl (gI g, 5, .inl f_no_gu)), (to, .inr (9, [.int 0, .int to_gustyCorners, .int 0, .int to_draw, .int to_drawTold, to_cornerNames, to_winds, to_lees, to_gustChances, to_gusts, to_guildNames, to_cloths, to_trues, to_strengths, to_reefs, to_pull, to_hold]))] := hD
  have hP9 : va_P g.1 vwCl [] H := hP.sub [] rfl
  have hD9 : va_D A [] := hD.sub [] (by decide) rfl
  exact xi hx hb hr hlocks rfl hP9 hD9 hS ⟨rfl, rfl⟩ (Nat.le_of_ble_eq_true rfl) (Nat.le_of_ble_eq_true rfl) dX10_worst_7

set_option maxHeartbeats 4000000 in
set_option maxRecDepth 100000 in
theorem c_X10_narrow {l : Launch} {g : Gx} {h0 ol to : Nat} {h0_tape : Value} {h0_tapeLength : Int32} {h0_reader : Value} {h0_draft : Value} {h0_told : Value} {h0_course : Value} {h0_now : Value} {h0_history : Value} {h0_boxes : Value} {h0_boxFilled : Value} {h0_lying : Value} {h0_sightings : Value} {h0_time : Int32} {ol_course : Value} {ol_now : Value} {ol_lying : Value} {ol_trial : Value} {ol_ranks : Value} {ol_otherRanks : Value} {ol_staysUp : Value} {ol_aheads : Value} {ol_tried : Value} {ol_best : Value} {ol_leastDifference : Int32} {to_gustyCorners : Int32} {to_draw : Int32} {to_drawTold : Int32} {to_cornerNames : Value} {to_winds : Value} {to_lees : Value} {to_gustChances : Value} {to_gusts : Value} {to_guildNames : Value} {to_cloths : Value} {to_trues : Value} {to_strengths : Value} {to_reefs : Value} {to_pull : Value} {to_hold : Value} : MI l g yX10_narrow cX10_narrow 1 (some .int) 3 0 0 [.ref h0] [(h0, .inr (10, [h0_tape, .int h0_tapeLength, h0_reader, h0_draft, h0_told, h0_course, h0_now, h0_history, h0_boxes, h0_boxFilled, h0_lying, .ref ol, h0_sightings, .int h0_time])), (ol, .inr (4, [ol_course, .ref to, ol_now, ol_lying, ol_trial, ol_ranks, ol_otherRanks, ol_staysUp, ol_aheads, ol_tried, ol_best, .int ol_leastDifference])), (to, .inr (9, [.int 0, .int to_gustyCorners, .int 0, .int to_draw, .int to_drawTold, to_cornerNames, to_winds, to_lees, to_gustChances, to_gusts, to_guildNames, to_cloths, to_trues, to_strengths, to_reefs, to_pull, to_hold]))] (fun r W' => 0 = r ∧ W' = []) := by
  refine MIof (by decide) (Nat.le_of_ble_eq_true rfl) ?_
  intro p e s m below meth c A ls H locs hcx hA hP hD hS hl
  obtain ⟨hx, hb, hml, hr, hlocks, hown, hts, hE, hnm⟩ := id hcx
  have hown : s.vm.findClass RX10 = some m.cls := hown
  have hK := hE.1
  have hl : lv_has ls 1 [(0, .ref h0)] := hl
  refine lv_aload_n hx hb dX10_narrow_0 rfl (lv_at hl 0 rfl) ?_
  refine va_get (D := g.1) (ci := 10) (v := Value.ref ol) (C := RX10) (T := TX10) (N := 14) hx hb hts inlX10 hown hK hP 0 rfl rfl 11 (by decide) (hts _ q2_21) (fun _ h9 => h9) rfl dX10_narrow_1 ?_
  refine kI (wc := [(ol, .inr (4, [ol_course, .ref to, ol_now, ol_lying, ol_trial, ol_ranks, ol_otherRanks, ol_staysUp, ol_aheads, ol_tried, ol_best, .int ol_leastDifference])), (to, .inr (9, [.int 0, .int to_gustyCorners, .int 0, .int to_draw, .int to_drawTold, to_cornerNames, to_winds, to_lees, to_gustChances, to_gusts, to_guildNames, to_cloths, to_trues, to_strengths, to_reefs, to_pull, to_hold]))]) (wr := [(h0, .inr (10, [h0_tape, .int h0_tapeLength, h0_reader, h0_draft, h0_told, h0_course, h0_now, h0_history, h0_boxes, h0_boxFilled, h0_lying, .ref ol, h0_sightings, .int h0_time]))]) (rV (As := []) (rest := []) (meth2 := "") hcx (c_X4_narrowOnes H.size) (gdV q59_17 q59_18 q59_19 q2_20 q59_20) dvX4_narrowOnes ⟨Nat.le_of_ble_eq_true rfl, Nat.le_of_ble_eq_true rfl⟩ (hP.sub [1, 2] rfl) (hD.sub [1, 2] (by decide) rfl) (va_recv hK hP (ci := 4) (q0 := 1) rfl rfl) rfl hl.1 rfl (Nat.le_of_ble_eq_true rfl) dX10_narrow_4 ⟨Nat.le_of_ble_eq_true rfl, Nat.le_of_ble_eq_true rfl⟩) hP hD hS hA [1, 2] [0] rfl rfl (by decide) (by decide) (fun r W' H locs hw hP hD hS => ?_)
  obtain ⟨rfl, rfl⟩ := hw
  have hP : va_P g.1 vwCl [(h0, .inr (10, [h0_tape, .int h0_tapeLength, h0_reader, h0_draft, h0_told, h0_course, h0_now, h0_history, h0_boxes, h0_boxFilled, h0_lying, .ref ol, h0_sightings, .int h0_time])), (ol, .inr (4, [ol_course, .ref to, ol_now, ol_lying, ol_trial, ol_ranks, ol_otherRanks, ol_staysUp, ol_aheads, ol_tried, ol_best, .int ol_leastDifference])), (to, .inr (9, [.int 0, .int to_gustyCorners, .int 0, .int to_draw, .int to_drawTold, to_cornerNames, to_winds, to_lees, to_gustChances, to_gusts, to_guildNames, to_cloths, to_trues, to_strengths, to_reefs, to_pull, to_hold]))] H := hP
  have hD : va_D A [(h0, .inr (10, [h0_tape, .int h0_tapeLength, h0_reader, h0_draft, h0_told, h0_course, h0_now, h0_history, h0_boxes, h0_boxFilled, h0_lying, .ref ol, h0_sightings, .int h0_time])), (ol, .inr (4, [ol_course, .ref to, ol_now, ol_lying, ol_trial, ol_ranks, ol_otherRanks, ol_staysUp, ol_aheads, ol_tried, ol_best, .int ol_leastDifference])), (to, .inr (9, [.int 0, .int to_gustyCorners, .int 0, .int to_draw, .int to_drawTold, to_cornerNames, to_winds, to_lees, to_gustChances, to_gusts, to_guildNames, to_cloths, to_trues, to_strengths, to_reefs, to_pull, to_hold]))] := hD
  have hP9 : va_P g.1 vwCl [] H := hP.sub [] rfl
  have hD9 : va_D A [] := hD.sub [] (by decide) rfl
  exact xi hx hb hr hlocks rfl hP9 hD9 hS ⟨rfl, rfl⟩ (Nat.le_of_ble_eq_true rfl) (Nat.le_of_ble_eq_true rfl) dX10_narrow_7

set_option maxHeartbeats 4000000 in
set_option maxRecDepth 100000 in
theorem c_X10_lies {l : Launch} {g : Gx} {h0 ly : Nat} {p0 : Int32} {h0_tape : Value} {h0_tapeLength : Int32} {h0_reader : Value} {h0_draft : Value} {h0_told : Value} {h0_course : Value} {h0_now : Value} {h0_history : Value} {h0_boxes : Value} {h0_boxFilled : Value} {h0_outlook : Value} {h0_sightings : Value} {h0_time : Int32} {ly_numbers : Value} : MI l g yX10_lies cX10_lies 2 (some .int) 3 0 0 [.ref h0, .int p0] [(h0, .inr (10, [h0_tape, .int h0_tapeLength, h0_reader, h0_draft, h0_told, h0_course, h0_now, h0_history, h0_boxes, h0_boxFilled, .ref ly, h0_outlook, h0_sightings, .int h0_time])), (ly, .inr (3, [ly_numbers, .int 0]))] (fun r W' => (-2) = r ∧ W' = []) := by
  refine MIof (by decide) (Nat.le_of_ble_eq_true rfl) ?_
  intro p e s m below meth c A ls H locs hcx hA hP hD hS hl
  obtain ⟨hx, hb, hml, hr, hlocks, hown, hts, hE, hnm⟩ := id hcx
  have hown : s.vm.findClass RX10 = some m.cls := hown
  have hK := hE.1
  have hl : lv_has ls 2 [(0, .ref h0), (1, .int p0)] := hl
  refine lv_aload_n hx hb dX10_lies_0 rfl (lv_at hl 0 rfl) ?_
  refine va_get (D := g.1) (ci := 10) (v := Value.ref ly) (C := RX10) (T := TX10) (N := 14) hx hb hts inlX10 hown hK hP 0 rfl rfl 10 (by decide) (hts _ q2_17) (fun _ h9 => h9) rfl dX10_lies_1 ?_
  refine lv_iload_n hx hb dX10_lies_4 rfl (lv_at hl 1 rfl) ?_
  refine kI (wc := [(ly, .inr (3, [ly_numbers, .int 0]))]) (wr := [(h0, .inr (10, [h0_tape, .int h0_tapeLength, h0_reader, h0_draft, h0_told, h0_course, h0_now, h0_history, h0_boxes, h0_boxFilled, .ref ly, h0_outlook, h0_sightings, .int h0_time]))]) (rV (As := [.int p0]) (rest := []) (meth2 := "") hcx (c_X3_at H.size) (gdV q61_10 q61_11 q61_12 q2_16 q61_13) dvX3_at ⟨Nat.le_of_ble_eq_true rfl, Nat.le_of_ble_eq_true rfl⟩ (hP.sub [1] rfl) (hD.sub [1] (by decide) rfl) (va_recv hK hP (ci := 3) (q0 := 1) rfl rfl) rfl hl.1 rfl (Nat.le_of_ble_eq_true rfl) dX10_lies_5 ⟨Nat.le_of_ble_eq_true rfl, Nat.le_of_ble_eq_true rfl⟩) hP hD hS hA [1] [0] rfl rfl (by decide) (by decide) (fun r W' H locs hw hP hD hS => ?_)
  obtain ⟨rfl, rfl⟩ := hw
  have hP : va_P g.1 vwCl [(h0, .inr (10, [h0_tape, .int h0_tapeLength, h0_reader, h0_draft, h0_told, h0_course, h0_now, h0_history, h0_boxes, h0_boxFilled, .ref ly, h0_outlook, h0_sightings, .int h0_time])), (ly, .inr (3, [ly_numbers, .int 0]))] H := hP
  have hD : va_D A [(h0, .inr (10, [h0_tape, .int h0_tapeLength, h0_reader, h0_draft, h0_told, h0_course, h0_now, h0_history, h0_boxes, h0_boxFilled, .ref ly, h0_outlook, h0_sightings, .int h0_time])), (ly, .inr (3, [ly_numbers, .int 0]))] := hD
  have hP9 : va_P g.1 vwCl [] H := hP.sub [] rfl
  have hD9 : va_D A [] := hD.sub [] (by decide) rfl
  exact xi hx hb hr hlocks rfl hP9 hD9 hS ⟨rfl, rfl⟩ (Nat.le_of_ble_eq_true rfl) (Nat.le_of_ble_eq_true rfl) dX10_lies_8

set_option maxHeartbeats 4000000 in
set_option maxRecDepth 100000 in
theorem c_X10_seen {l : Launch} {g : Gx} {h0 to : Nat} {p0 : Int32} {p1 : Int32} {p2 : Int32} {h0_tape : Value} {h0_tapeLength : Int32} {h0_reader : Value} {h0_draft : Value} {h0_course : Value} {h0_now : Value} {h0_history : Value} {h0_boxes : Value} {h0_boxFilled : Value} {h0_lying : Value} {h0_outlook : Value} {h0_sightings : Value} {h0_time : Int32} {to_gustyCorners : Int32} {to_draw : Int32} {to_drawTold : Int32} {to_cornerNames : Value} {to_winds : Value} {to_lees : Value} {to_gustChances : Value} {to_gusts : Value} {to_guildNames : Value} {to_cloths : Value} {to_trues : Value} {to_strengths : Value} {to_reefs : Value} {to_pull : Value} {to_hold : Value} : MI l g yX10_seen cX10_seen 4 (some .int) 3 0 0 [.ref h0, .int p0, .int p1, .int p2] [(h0, .inr (10, [h0_tape, .int h0_tapeLength, h0_reader, h0_draft, .ref to, h0_course, h0_now, h0_history, h0_boxes, h0_boxFilled, h0_lying, h0_outlook, h0_sightings, .int h0_time])), (to, .inr (9, [.int 0, .int to_gustyCorners, .int 0, .int to_draw, .int to_drawTold, to_cornerNames, to_winds, to_lees, to_gustChances, to_gusts, to_guildNames, to_cloths, to_trues, to_strengths, to_reefs, to_pull, to_hold]))] (fun r W' => (-1) = r ∧ W' = []) := by
  refine MIof (by decide) (Nat.le_of_ble_eq_true rfl) ?_
  intro p e s m below meth c A ls H locs hcx hA hP hD hS hl
  obtain ⟨hx, hb, hml, hr, hlocks, hown, hts, hE, hnm⟩ := id hcx
  have hown : s.vm.findClass RX10 = some m.cls := hown
  have hK := hE.1
  have hl : lv_has ls 4 [(0, .ref h0), (1, .int p0), (2, .int p1), (3, .int p2)] := hl
  refine lv_iload_n hx hb dX10_seen_0 rfl (lv_at hl 1 rfl) ?_
  refine lv_if_lt (tgt := 26) hx hb dX10_seen_1 (by decide) (fun c1 => ?_) (fun c1 => ?_)
  · refine lv_iconst (v := (-1)) hx hb dX10_seen_26 (by decide) ?_
    have hP9 : va_P g.1 vwCl [] H := hP.sub [] rfl
    have hD9 : va_D A [] := hD.sub [] (by decide) rfl
    exact xi hx hb hr hlocks rfl hP9 hD9 hS ⟨rfl, rfl⟩ (Nat.le_of_ble_eq_true rfl) (Nat.le_of_ble_eq_true rfl) dX10_seen_27
  · refine lv_iload_n hx hb dX10_seen_4 rfl (lv_at hl 1 rfl) ?_
    refine lv_aload_n hx hb dX10_seen_5 rfl (lv_at hl 0 rfl) ?_
    refine va_get (D := g.1) (ci := 10) (v := Value.ref to) (C := RX10) (T := TX10) (N := 14) hx hb hts inlX10 hown hK hP 0 rfl rfl 4 (by decide) (hts _ q1_22) (fun _ h9 => h9) rfl dX10_seen_6 ?_
    refine va_get (D := g.1) (ci := 9) (v := Value.int 0) (C := RX9) (T := TX9) (N := 17) hx hb hts inlX9 hown hK hP 1 rfl rfl 0 (by decide) (hts _ q36_8) (fun _ h9 => h9) rfl dX10_seen_9 ?_
    refine lv_icmp_gt (tgt := 26) hx hb dX10_seen_12 (by decide) (fun c2 => ?_) (fun c2 => ?_)
    · refine lv_iconst (v := (-1)) hx hb dX10_seen_26 (by decide) ?_
      have hP9 : va_P g.1 vwCl [] H := hP.sub [] rfl
      have hD9 : va_D A [] := hD.sub [] (by decide) rfl
      exact xi hx hb hr hlocks rfl hP9 hD9 hS ⟨rfl, rfl⟩ (Nat.le_of_ble_eq_true rfl) (Nat.le_of_ble_eq_true rfl) dX10_seen_27
    · refine lv_aload_n hx hb dX10_seen_15 rfl (lv_at hl 0 rfl) ?_
      refine va_get (D := g.1) (ci := 10) (v := Value.ref to) (C := RX10) (T := TX10) (N := 14) hx hb hts inlX10 hown hK hP 0 rfl rfl 4 (by decide) (hts _ q1_22) (fun _ h9 => h9) rfl dX10_seen_16 ?_
      refine lv_iload_n hx hb dX10_seen_19 rfl (lv_at hl 2 rfl) ?_
      refine kI (wc := [(to, .inr (9, [.int 0, .int to_gustyCorners, .int 0, .int to_draw, .int to_drawTold, to_cornerNames, to_winds, to_lees, to_gustChances, to_gusts, to_guildNames, to_cloths, to_trues, to_strengths, to_reefs, to_pull, to_hold]))]) (wr := [(h0, .inr (10, [h0_tape, .int h0_tapeLength, h0_reader, h0_draft, .ref to, h0_course, h0_now, h0_history, h0_boxes, h0_boxFilled, h0_lying, h0_outlook, h0_sightings, .int h0_time]))]) (rV (As := [.int p1]) (rest := []) (meth2 := "") hcx (c_X9_hasGuild H.size) (gdV q32_17 q32_18 q32_19 q1_20 q32_20) dvX9_hasGuild ⟨Nat.le_of_ble_eq_true rfl, Nat.le_of_ble_eq_true rfl⟩ (hP.sub [1] rfl) (hD.sub [1] (by decide) rfl) (va_recv hK hP (ci := 9) (q0 := 1) rfl rfl) rfl hl.1 rfl (Nat.le_of_ble_eq_true rfl) dX10_seen_20 ⟨Nat.le_of_ble_eq_true rfl, Nat.le_of_ble_eq_true rfl⟩) hP hD hS hA [1] [0] rfl rfl (by decide) (by decide) (fun r W' H locs hw hP hD hS => ?_)
      obtain ⟨rfl, rfl⟩ := hw
      have hP : va_P g.1 vwCl [(h0, .inr (10, [h0_tape, .int h0_tapeLength, h0_reader, h0_draft, .ref to, h0_course, h0_now, h0_history, h0_boxes, h0_boxFilled, h0_lying, h0_outlook, h0_sightings, .int h0_time])), (to, .inr (9, [.int 0, .int to_gustyCorners, .int 0, .int to_draw, .int to_drawTold, to_cornerNames, to_winds, to_lees, to_gustChances, to_gusts, to_guildNames, to_cloths, to_trues, to_strengths, to_reefs, to_pull, to_hold]))] H := hP
      have hD : va_D A [(h0, .inr (10, [h0_tape, .int h0_tapeLength, h0_reader, h0_draft, .ref to, h0_course, h0_now, h0_history, h0_boxes, h0_boxFilled, h0_lying, h0_outlook, h0_sightings, .int h0_time])), (to, .inr (9, [.int 0, .int to_gustyCorners, .int 0, .int to_draw, .int to_drawTold, to_cornerNames, to_winds, to_lees, to_gustChances, to_gusts, to_guildNames, to_cloths, to_trues, to_strengths, to_reefs, to_pull, to_hold]))] := hD
      refine lv_if_ne (tgt := 28) hx hb dX10_seen_23 (by decide) (fun c3 => absurd (by decide) c3) (fun _ => ?_)
      refine lv_iconst (v := (-1)) hx hb dX10_seen_26 (by decide) ?_
      have hP9 : va_P g.1 vwCl [] H := hP.sub [] rfl
      have hD9 : va_D A [] := hD.sub [] (by decide) rfl
      exact xi hx hb hr hlocks rfl hP9 hD9 hS ⟨rfl, rfl⟩ (Nat.le_of_ble_eq_true rfl) (Nat.le_of_ble_eq_true rfl) dX10_seen_27

set_option maxHeartbeats 4000000 in
set_option maxRecDepth 100000 in
theorem c_X10_untell {l : Launch} {g : Gx} {h0 si : Nat} {p0 : Int32} {h0_tape : Value} {h0_tapeLength : Int32} {h0_reader : Value} {h0_draft : Value} {h0_told : Value} {h0_course : Value} {h0_now : Value} {h0_history : Value} {h0_boxes : Value} {h0_boxFilled : Value} {h0_lying : Value} {h0_outlook : Value} {h0_time : Int32} {si_course : Value} {si_trial : Value} {si_corners : Value} {si_guilds : Value} {si_wasUp : Value} {si_toldAt : Value} {si_untoldAt : Value} {si_untold : Value} {si_upBehind : Value} {si_fitting : Value} {si_groups : Value} {si_isWalked : Int32} : MI l g yX10_untell cX10_untell 2 (some .boolean) 3 0 0 [.ref h0, .int p0] [(h0, .inr (10, [h0_tape, .int h0_tapeLength, h0_reader, h0_draft, h0_told, h0_course, h0_now, h0_history, h0_boxes, h0_boxFilled, h0_lying, h0_outlook, .ref si, .int h0_time])), (si, .inr (6, [si_course, si_trial, si_corners, si_guilds, si_wasUp, si_toldAt, si_untoldAt, si_untold, si_upBehind, si_fitting, si_groups, .int si_isWalked, .int 0]))] (fun r W' => 0 = r ∧ W' = []) := by
  refine MIof (by decide) (Nat.le_of_ble_eq_true rfl) ?_
  intro p e s m below meth c A ls H locs hcx hA hP hD hS hl
  obtain ⟨hx, hb, hml, hr, hlocks, hown, hts, hE, hnm⟩ := id hcx
  have hown : s.vm.findClass RX10 = some m.cls := hown
  have hK := hE.1
  have hl : lv_has ls 2 [(0, .ref h0), (1, .int p0)] := hl
  refine lv_aload_n hx hb dX10_untell_0 rfl (lv_at hl 0 rfl) ?_
  refine va_get (D := g.1) (ci := 10) (v := Value.ref si) (C := RX10) (T := TX10) (N := 14) hx hb hts inlX10 hown hK hP 0 rfl rfl 12 (by decide) (hts _ q3_1) (fun _ h9 => h9) rfl dX10_untell_1 ?_
  refine lv_iload_n hx hb dX10_untell_4 rfl (lv_at hl 1 rfl) ?_
  refine lv_aload_n hx hb dX10_untell_5 rfl (lv_at hl 0 rfl) ?_
  refine va_get (D := g.1) (ci := 10) (v := Value.int h0_time) (C := RX10) (T := TX10) (N := 14) hx hb hts inlX10 hown hK hP 0 rfl rfl 13 (by decide) (hts _ q61_22) (fun _ h9 => h9) rfl dX10_untell_6 ?_
  refine kI (wc := [(si, .inr (6, [si_course, si_trial, si_corners, si_guilds, si_wasUp, si_toldAt, si_untoldAt, si_untold, si_upBehind, si_fitting, si_groups, .int si_isWalked, .int 0]))]) (wr := [(h0, .inr (10, [h0_tape, .int h0_tapeLength, h0_reader, h0_draft, h0_told, h0_course, h0_now, h0_history, h0_boxes, h0_boxFilled, h0_lying, h0_outlook, .ref si, .int h0_time]))]) (rV (As := [.int p0, .int h0_time]) (rest := []) (meth2 := "") hcx (c_X6_takeBack H.size) (gdV q62_12 q62_13 q62_14 q3_0 q62_15) dvX6_takeBack ⟨Nat.le_of_ble_eq_true rfl, Nat.le_of_ble_eq_true rfl⟩ (hP.sub [1] rfl) (hD.sub [1] (by decide) rfl) (va_recv hK hP (ci := 6) (q0 := 1) rfl rfl) rfl hl.1 rfl (Nat.le_of_ble_eq_true rfl) dX10_untell_9 ⟨Nat.le_of_ble_eq_true rfl, Nat.le_of_ble_eq_true rfl⟩) hP hD hS hA [1] [0] rfl rfl (by decide) (by decide) (fun r W' H locs hw hP hD hS => ?_)
  obtain ⟨rfl, rfl⟩ := hw
  have hP : va_P g.1 vwCl [(h0, .inr (10, [h0_tape, .int h0_tapeLength, h0_reader, h0_draft, h0_told, h0_course, h0_now, h0_history, h0_boxes, h0_boxFilled, h0_lying, h0_outlook, .ref si, .int h0_time])), (si, .inr (6, [si_course, si_trial, si_corners, si_guilds, si_wasUp, si_toldAt, si_untoldAt, si_untold, si_upBehind, si_fitting, si_groups, .int si_isWalked, .int 0]))] H := hP
  have hD : va_D A [(h0, .inr (10, [h0_tape, .int h0_tapeLength, h0_reader, h0_draft, h0_told, h0_course, h0_now, h0_history, h0_boxes, h0_boxFilled, h0_lying, h0_outlook, .ref si, .int h0_time])), (si, .inr (6, [si_course, si_trial, si_corners, si_guilds, si_wasUp, si_toldAt, si_untoldAt, si_untold, si_upBehind, si_fitting, si_groups, .int si_isWalked, .int 0]))] := hD
  have hP9 : va_P g.1 vwCl [] H := hP.sub [] rfl
  have hD9 : va_D A [] := hD.sub [] (by decide) rfl
  exact xi hx hb hr hlocks rfl hP9 hD9 hS ⟨rfl, rfl⟩ (Nat.le_of_ble_eq_true rfl) (Nat.le_of_ble_eq_true rfl) dX10_untell_12

set_option maxHeartbeats 4000000 in
set_option maxRecDepth 100000 in
theorem c_X10_later {l : Launch} {g : Gx} {h0 : Nat} {p0 : Int32} {h0_tape : Value} {h0_tapeLength : Int32} {h0_reader : Value} {h0_draft : Value} {h0_told : Value} {h0_course : Value} {h0_now : Value} {h0_history : Value} {h0_boxes : Value} {h0_boxFilled : Value} {h0_lying : Value} {h0_outlook : Value} {h0_sightings : Value} : MI l g yX10_later cX10_later 2 (some .int) 2 0 0 [.ref h0, .int p0] [(h0, .inr (10, [h0_tape, .int h0_tapeLength, h0_reader, h0_draft, h0_told, h0_course, h0_now, h0_history, h0_boxes, h0_boxFilled, h0_lying, h0_outlook, h0_sightings, .int 0]))] (fun r W' => r = sp_later p0 ∧ W' = []) := by
  refine MIof (by decide) (Nat.le_of_ble_eq_true rfl) ?_
  intro p e s m below meth c A ls H locs hcx hA hP hD hS hl
  obtain ⟨hx, hb, hml, hr, hlocks, hown, hts, hE, hnm⟩ := id hcx
  have hown : s.vm.findClass RX10 = some m.cls := hown
  have hK := hE.1
  have hl : lv_has ls 2 [(0, .ref h0), (1, .int p0)] := hl
  refine lv_iload_n hx hb dX10_later_0 rfl (lv_at hl 1 rfl) ?_
  refine lv_if_lt (tgt := 23) hx hb dX10_later_1 (by decide) (fun c1 => ?_) (fun c1 => ?_)
  · refine lv_iconst (v := (-1)) hx hb dX10_later_23 (by decide) ?_
    have hP9 : va_P g.1 vwCl [] H := hP.sub [] rfl
    have hD9 : va_D A [] := hD.sub [] (by decide) rfl
    exact xi hx hb hr hlocks rfl hP9 hD9 hS ⟨(by simp [sp_later, c1]), rfl⟩ (Nat.le_of_ble_eq_true rfl) (Nat.le_of_ble_eq_true rfl) dX10_later_24
  · refine lv_iload_n hx hb dX10_later_4 rfl (lv_at hl 1 rfl) ?_
    refine lv_sipush (v := 1000) hx hb dX10_later_5 (by decide) ?_
    refine lv_icmp_gt (tgt := 23) hx hb dX10_later_8 (by decide) (fun c2 => ?_) (fun c2 => ?_)
    · refine lv_iconst (v := (-1)) hx hb dX10_later_23 (by decide) ?_
      have hP9 : va_P g.1 vwCl [] H := hP.sub [] rfl
      have hD9 : va_D A [] := hD.sub [] (by decide) rfl
      exact xi hx hb hr hlocks rfl hP9 hD9 hS ⟨(by simp [sp_later, c1, c2]), rfl⟩ (Nat.le_of_ble_eq_true rfl) (Nat.le_of_ble_eq_true rfl) dX10_later_24
    · refine lv_aload_n hx hb dX10_later_11 rfl (lv_at hl 0 rfl) ?_
      refine va_get (D := g.1) (ci := 10) (v := Value.int 0) (C := RX10) (T := TX10) (N := 14) hx hb hts inlX10 hown hK hP 0 rfl rfl 13 (by decide) (hts _ q61_22) (fun _ h9 => h9) rfl dX10_later_12 ?_
      refine lv_iload_n hx hb dX10_later_15 rfl (lv_at hl 1 rfl) ?_
      refine lv_iadd hx hb dX10_later_16 ?_
      refine lv_tope (y := p0) (Int32.zero_add _) ?_
      refine lv_ldcw hx hb hown (hts _ q63_0) dX10_later_17 ?_
      refine lv_icmp_le (tgt := 25) hx hb dX10_later_20 (by decide) (fun _ => ?_) (fun c3 => absurd (Int32.le_trans (Int32.not_lt.mp c2) (by decide)) c3)
      refine lv_aload_n hx hb dX10_later_25 rfl (lv_at hl 0 rfl) ?_
      refine lv_dup hx hb dX10_later_26 rfl ?_
      refine va_get (D := g.1) (ci := 10) (v := Value.int 0) (C := RX10) (T := TX10) (N := 14) hx hb hts inlX10 hown hK hP 0 rfl rfl 13 (by decide) (hts _ q61_22) (fun _ h9 => h9) rfl dX10_later_27 ?_
      refine lv_iload_n hx hb dX10_later_30 rfl (lv_at hl 1 rfl) ?_
      refine lv_iadd hx hb dX10_later_31 ?_
      refine lv_tope (y := p0) (Int32.zero_add _) ?_
      refine va_put (D := g.1) (ci := 10) (v := Value.int p0) (ty := .int) (C := RX10) (T := TX10) (N := 14) hx hb hts inlX10 tyX10 tyX10_ok nmX10 hown hK hP hD hS 0 rfl rfl 13 (by decide) (hts _ q61_22) (fun _ h9 => h9) rfl (by decide +kernel) rfl rfl (Nat.le_of_ble_eq_true rfl) dX10_later_32 (fun H locs hP hD hS => ?_)
      have hP : va_P g.1 vwCl [(h0, .inr (10, [h0_tape, .int h0_tapeLength, h0_reader, h0_draft, h0_told, h0_course, h0_now, h0_history, h0_boxes, h0_boxFilled, h0_lying, h0_outlook, h0_sightings, .int p0]))] H := hP
      have hD : va_D A [(h0, .inr (10, [h0_tape, .int h0_tapeLength, h0_reader, h0_draft, h0_told, h0_course, h0_now, h0_history, h0_boxes, h0_boxFilled, h0_lying, h0_outlook, h0_sightings, .int p0]))] := hD
      refine lv_aload_n hx hb dX10_later_35 rfl (lv_at hl 0 rfl) ?_
      refine va_get (D := g.1) (ci := 10) (v := Value.int p0) (C := RX10) (T := TX10) (N := 14) hx hb hts inlX10 hown hK hP 0 rfl rfl 13 (by decide) (hts _ q61_22) (fun _ h9 => h9) rfl dX10_later_36 ?_
      have hP9 : va_P g.1 vwCl [] H := hP.sub [] rfl
      have hD9 : va_D A [] := hD.sub [] (by decide) rfl
      exact xi hx hb hr hlocks rfl hP9 hD9 hS ⟨(by simp [sp_later, c1, c2]), rfl⟩ (Nat.le_of_ble_eq_true rfl) (Nat.le_of_ble_eq_true rfl) dX10_later_39

set_option maxHeartbeats 4000000 in
set_option maxRecDepth 100000 in
theorem c_X10_fits {l : Launch} {g : Gx} {h0 si co to : Nat} {p0 : Int32} {h0_tape : Value} {h0_tapeLength : Int32} {h0_reader : Value} {h0_draft : Value} {h0_told : Value} {h0_course : Value} {h0_now : Value} {h0_history : Value} {h0_boxes : Value} {h0_boxFilled : Value} {h0_lying : Value} {h0_outlook : Value} {h0_time : Int32} {si_trial : Value} {si_corners : Value} {si_guilds : Value} {si_wasUp : Value} {si_toldAt : Value} {si_untoldAt : Value} {si_untold : Value} {si_upBehind : Value} {si_fitting : Value} {si_groups : Value} {si_isWalked : Int32} {si_count : Int32} {co_values : Value} {co_pull : Int32} {co_hold : Int32} {to_gustyCorners : Int32} {to_draw : Int32} {to_drawTold : Int32} {to_cornerNames : Value} {to_winds : Value} {to_lees : Value} {to_gustChances : Value} {to_gusts : Value} {to_guildNames : Value} {to_cloths : Value} {to_trues : Value} {to_strengths : Value} {to_reefs : Value} {to_pull : Value} {to_hold : Value} : MI l g yX10_fits cX10_fits 2 (some .int) 3 0 0 [.ref h0, .int p0] [(h0, .inr (10, [h0_tape, .int h0_tapeLength, h0_reader, h0_draft, h0_told, h0_course, h0_now, h0_history, h0_boxes, h0_boxFilled, h0_lying, h0_outlook, .ref si, .int h0_time])), (si, .inr (6, [.ref co, si_trial, si_corners, si_guilds, si_wasUp, si_toldAt, si_untoldAt, si_untold, si_upBehind, si_fitting, si_groups, .int si_isWalked, .int si_count])), (co, .inr (0, [.ref to, co_values, .int co_pull, .int co_hold])), (to, .inr (9, [.int 0, .int to_gustyCorners, .int 0, .int to_draw, .int to_drawTold, to_cornerNames, to_winds, to_lees, to_gustChances, to_gusts, to_guildNames, to_cloths, to_trues, to_strengths, to_reefs, to_pull, to_hold]))] (fun r W' => 0 = r ∧ W' = []) := by
  refine MIof (by decide) (Nat.le_of_ble_eq_true rfl) ?_
  intro p e s m below meth c A ls H locs hcx hA hP hD hS hl
  obtain ⟨hx, hb, hml, hr, hlocks, hown, hts, hE, hnm⟩ := id hcx
  have hown : s.vm.findClass RX10 = some m.cls := hown
  have hK := hE.1
  have hl : lv_has ls 2 [(0, .ref h0), (1, .int p0)] := hl
  refine lv_aload_n hx hb dX10_fits_0 rfl (lv_at hl 0 rfl) ?_
  refine va_get (D := g.1) (ci := 10) (v := Value.ref si) (C := RX10) (T := TX10) (N := 14) hx hb hts inlX10 hown hK hP 0 rfl rfl 12 (by decide) (hts _ q3_1) (fun _ h9 => h9) rfl dX10_fits_1 ?_
  refine lv_iload_n hx hb dX10_fits_4 rfl (lv_at hl 1 rfl) ?_
  refine kI (wc := [(si, .inr (6, [.ref co, si_trial, si_corners, si_guilds, si_wasUp, si_toldAt, si_untoldAt, si_untold, si_upBehind, si_fitting, si_groups, .int si_isWalked, .int si_count])), (co, .inr (0, [.ref to, co_values, .int co_pull, .int co_hold])), (to, .inr (9, [.int 0, .int to_gustyCorners, .int 0, .int to_draw, .int to_drawTold, to_cornerNames, to_winds, to_lees, to_gustChances, to_gusts, to_guildNames, to_cloths, to_trues, to_strengths, to_reefs, to_pull, to_hold]))]) (wr := [(h0, .inr (10, [h0_tape, .int h0_tapeLength, h0_reader, h0_draft, h0_told, h0_course, h0_now, h0_history, h0_boxes, h0_boxFilled, h0_lying, h0_outlook, .ref si, .int h0_time]))]) (rV (As := [.int p0]) (rest := []) (meth2 := "") hcx (c_X6_countFitting H.size) (gdV q63_10 q63_11 q63_12 q3_0 q63_13) dvX6_countFitting ⟨Nat.le_of_ble_eq_true rfl, Nat.le_of_ble_eq_true rfl⟩ (hP.sub [1, 2, 3] rfl) (hD.sub [1, 2, 3] (by decide) rfl) (va_recv hK hP (ci := 6) (q0 := 1) rfl rfl) rfl hl.1 rfl (Nat.le_of_ble_eq_true rfl) dX10_fits_5 ⟨Nat.le_of_ble_eq_true rfl, Nat.le_of_ble_eq_true rfl⟩) hP hD hS hA [1, 2, 3] [0] rfl rfl (by decide) (by decide) (fun r W' H locs hw hP hD hS => ?_)
  obtain ⟨rfl, rfl⟩ := hw
  have hP : va_P g.1 vwCl [(h0, .inr (10, [h0_tape, .int h0_tapeLength, h0_reader, h0_draft, h0_told, h0_course, h0_now, h0_history, h0_boxes, h0_boxFilled, h0_lying, h0_outlook, .ref si, .int h0_time])), (si, .inr (6, [.ref co, si_trial, si_corners, si_guilds, si_wasUp, si_toldAt, si_untoldAt, si_untold, si_upBehind, si_fitting, si_groups, .int si_isWalked, .int si_count])), (co, .inr (0, [.ref to, co_values, .int co_pull, .int co_hold])), (to, .inr (9, [.int 0, .int to_gustyCorners, .int 0, .int to_draw, .int to_drawTold, to_cornerNames, to_winds, to_lees, to_gustChances, to_gusts, to_guildNames, to_cloths, to_trues, to_strengths, to_reefs, to_pull, to_hold]))] H := hP
  have hD : va_D A [(h0, .inr (10, [h0_tape, .int h0_tapeLength, h0_reader, h0_draft, h0_told, h0_course, h0_now, h0_history, h0_boxes, h0_boxFilled, h0_lying, h0_outlook, .ref si, .int h0_time])), (si, .inr (6, [.ref co, si_trial, si_corners, si_guilds, si_wasUp, si_toldAt, si_untoldAt, si_untold, si_upBehind, si_fitting, si_groups, .int si_isWalked, .int si_count])), (co, .inr (0, [.ref to, co_values, .int co_pull, .int co_hold])), (to, .inr (9, [.int 0, .int to_gustyCorners, .int 0, .int to_draw, .int to_drawTold, to_cornerNames, to_winds, to_lees, to_gustChances, to_gusts, to_guildNames, to_cloths, to_trues, to_strengths, to_reefs, to_pull, to_hold]))] := hD
  have hP9 : va_P g.1 vwCl [] H := hP.sub [] rfl
  have hD9 : va_D A [] := hD.sub [] (by decide) rfl
  exact xi hx hb hr hlocks rfl hP9 hD9 hS ⟨rfl, rfl⟩ (Nat.le_of_ble_eq_true rfl) (Nat.le_of_ble_eq_true rfl) dX10_fits_8

set_option maxHeartbeats 4000000 in
set_option maxRecDepth 100000 in
theorem c_X10_sure {l : Launch} {g : Gx} {h0 si co to : Nat} {p0 : Int32} {p1 : Int32} {h0_tape : Value} {h0_tapeLength : Int32} {h0_reader : Value} {h0_draft : Value} {h0_told : Value} {h0_course : Value} {h0_now : Value} {h0_history : Value} {h0_boxes : Value} {h0_boxFilled : Value} {h0_lying : Value} {h0_outlook : Value} {h0_time : Int32} {si_trial : Value} {si_corners : Value} {si_guilds : Value} {si_wasUp : Value} {si_toldAt : Value} {si_untoldAt : Value} {si_untold : Value} {si_upBehind : Value} {si_fitting : Value} {si_groups : Value} {si_isWalked : Int32} {si_count : Int32} {co_values : Value} {co_pull : Int32} {co_hold : Int32} {to_gustyCorners : Int32} {to_draw : Int32} {to_drawTold : Int32} {to_cornerNames : Value} {to_winds : Value} {to_lees : Value} {to_gustChances : Value} {to_gusts : Value} {to_guildNames : Value} {to_cloths : Value} {to_trues : Value} {to_strengths : Value} {to_reefs : Value} {to_pull : Value} {to_hold : Value} : MI l g yX10_sure cX10_sure 3 (some .int) 4 0 0 [.ref h0, .int p0, .int p1] [(h0, .inr (10, [h0_tape, .int h0_tapeLength, h0_reader, h0_draft, h0_told, h0_course, h0_now, h0_history, h0_boxes, h0_boxFilled, h0_lying, h0_outlook, .ref si, .int h0_time])), (si, .inr (6, [.ref co, si_trial, si_corners, si_guilds, si_wasUp, si_toldAt, si_untoldAt, si_untold, si_upBehind, si_fitting, si_groups, .int si_isWalked, .int si_count])), (co, .inr (0, [.ref to, co_values, .int co_pull, .int co_hold])), (to, .inr (9, [.int 0, .int to_gustyCorners, .int 0, .int to_draw, .int to_drawTold, to_cornerNames, to_winds, to_lees, to_gustChances, to_gusts, to_guildNames, to_cloths, to_trues, to_strengths, to_reefs, to_pull, to_hold]))] (fun r W' => (-1) = r ∧ W' = []) := by
  refine MIof (by decide) (Nat.le_of_ble_eq_true rfl) ?_
  intro p e s m below meth c A ls H locs hcx hA hP hD hS hl
  obtain ⟨hx, hb, hml, hr, hlocks, hown, hts, hE, hnm⟩ := id hcx
  have hown : s.vm.findClass RX10 = some m.cls := hown
  have hK := hE.1
  have hl : lv_has ls 3 [(0, .ref h0), (1, .int p0), (2, .int p1)] := hl
  refine lv_iload_n hx hb dX10_sure_0 rfl (lv_at hl 1 rfl) ?_
  refine lv_if_lt (tgt := 9) hx hb dX10_sure_1 (by decide) (fun c1 => ?_) (fun c1 => ?_)
  · refine lv_iconst (v := (-1)) hx hb dX10_sure_9 (by decide) ?_
    have hP9 : va_P g.1 vwCl [] H := hP.sub [] rfl
    have hD9 : va_D A [] := hD.sub [] (by decide) rfl
    exact xi hx hb hr hlocks rfl hP9 hD9 hS ⟨rfl, rfl⟩ (Nat.le_of_ble_eq_true rfl) (Nat.le_of_ble_eq_true rfl) dX10_sure_10
  · refine lv_iload_n hx hb dX10_sure_4 rfl (lv_at hl 1 rfl) ?_
    refine lv_iconst (v := 1) hx hb dX10_sure_5 (by decide) ?_
    refine lv_icmp_le (tgt := 11) hx hb dX10_sure_6 (by decide) (fun c2 => ?_) (fun c2 => ?_)
    · refine lv_iload_n hx hb dX10_sure_11 rfl (lv_at hl 1 rfl) ?_
      refine lv_if_ne (tgt := 26) hx hb dX10_sure_12 (by decide) (fun c3 => ?_) (fun c3 => ?_)
      · refine lv_aload_n hx hb dX10_sure_26 rfl (lv_at hl 0 rfl) ?_
        refine va_get (D := g.1) (ci := 10) (v := Value.ref si) (C := RX10) (T := TX10) (N := 14) hx hb hts inlX10 hown hK hP 0 rfl rfl 12 (by decide) (hts _ q3_1) (fun _ h9 => h9) rfl dX10_sure_27 ?_
        refine lv_iload_n hx hb dX10_sure_30 rfl (lv_at hl 2 rfl) ?_
        refine kI (wc := [(si, .inr (6, [.ref co, si_trial, si_corners, si_guilds, si_wasUp, si_toldAt, si_untoldAt, si_untold, si_upBehind, si_fitting, si_groups, .int si_isWalked, .int si_count])), (co, .inr (0, [.ref to, co_values, .int co_pull, .int co_hold])), (to, .inr (9, [.int 0, .int to_gustyCorners, .int 0, .int to_draw, .int to_drawTold, to_cornerNames, to_winds, to_lees, to_gustChances, to_gusts, to_guildNames, to_cloths, to_trues, to_strengths, to_reefs, to_pull, to_hold]))]) (wr := [(h0, .inr (10, [h0_tape, .int h0_tapeLength, h0_reader, h0_draft, h0_told, h0_course, h0_now, h0_history, h0_boxes, h0_boxFilled, h0_lying, h0_outlook, .ref si, .int h0_time]))]) (rV (As := [.int p1]) (rest := []) (meth2 := "") hcx (c_X6_greatestFitting H.size) (gdV q65_6 q65_7 q65_8 q3_0 q65_9) dvX6_greatestFitting ⟨Nat.le_of_ble_eq_true rfl, Nat.le_of_ble_eq_true rfl⟩ (hP.sub [1, 2, 3] rfl) (hD.sub [1, 2, 3] (by decide) rfl) (va_recv hK hP (ci := 6) (q0 := 1) rfl rfl) rfl hl.1 rfl (Nat.le_of_ble_eq_true rfl) dX10_sure_31 ⟨Nat.le_of_ble_eq_true rfl, Nat.le_of_ble_eq_true rfl⟩) hP hD hS hA [1, 2, 3] [0] rfl rfl (by decide) (by decide) (fun r W' H locs hw hP hD hS => ?_)
        obtain ⟨rfl, rfl⟩ := hw
        have hP : va_P g.1 vwCl [(h0, .inr (10, [h0_tape, .int h0_tapeLength, h0_reader, h0_draft, h0_told, h0_course, h0_now, h0_history, h0_boxes, h0_boxFilled, h0_lying, h0_outlook, .ref si, .int h0_time])), (si, .inr (6, [.ref co, si_trial, si_corners, si_guilds, si_wasUp, si_toldAt, si_untoldAt, si_untold, si_upBehind, si_fitting, si_groups, .int si_isWalked, .int si_count])), (co, .inr (0, [.ref to, co_values, .int co_pull, .int co_hold])), (to, .inr (9, [.int 0, .int to_gustyCorners, .int 0, .int to_draw, .int to_drawTold, to_cornerNames, to_winds, to_lees, to_gustChances, to_gusts, to_guildNames, to_cloths, to_trues, to_strengths, to_reefs, to_pull, to_hold]))] H := hP
        have hD : va_D A [(h0, .inr (10, [h0_tape, .int h0_tapeLength, h0_reader, h0_draft, h0_told, h0_course, h0_now, h0_history, h0_boxes, h0_boxFilled, h0_lying, h0_outlook, .ref si, .int h0_time])), (si, .inr (6, [.ref co, si_trial, si_corners, si_guilds, si_wasUp, si_toldAt, si_untoldAt, si_untold, si_upBehind, si_fitting, si_groups, .int si_isWalked, .int si_count])), (co, .inr (0, [.ref to, co_values, .int co_pull, .int co_hold])), (to, .inr (9, [.int 0, .int to_gustyCorners, .int 0, .int to_draw, .int to_drawTold, to_cornerNames, to_winds, to_lees, to_gustChances, to_gusts, to_guildNames, to_cloths, to_trues, to_strengths, to_reefs, to_pull, to_hold]))] := hD
        have hP9 : va_P g.1 vwCl [] H := hP.sub [] rfl
        have hD9 : va_D A [] := hD.sub [] (by decide) rfl
        exact xi hx hb hr hlocks rfl hP9 hD9 hS ⟨rfl, rfl⟩ (Nat.le_of_ble_eq_true rfl) (Nat.le_of_ble_eq_true rfl) dX10_sure_34
      · refine lv_aload_n hx hb dX10_sure_15 rfl (lv_at hl 0 rfl) ?_
        refine va_get (D := g.1) (ci := 10) (v := Value.ref si) (C := RX10) (T := TX10) (N := 14) hx hb hts inlX10 hown hK hP 0 rfl rfl 12 (by decide) (hts _ q3_1) (fun _ h9 => h9) rfl dX10_sure_16 ?_
        refine lv_iload_n hx hb dX10_sure_19 rfl (lv_at hl 2 rfl) ?_
        refine kI (wc := [(si, .inr (6, [.ref co, si_trial, si_corners, si_guilds, si_wasUp, si_toldAt, si_untoldAt, si_untold, si_upBehind, si_fitting, si_groups, .int si_isWalked, .int si_count])), (co, .inr (0, [.ref to, co_values, .int co_pull, .int co_hold])), (to, .inr (9, [.int 0, .int to_gustyCorners, .int 0, .int to_draw, .int to_drawTold, to_cornerNames, to_winds, to_lees, to_gustChances, to_gusts, to_guildNames, to_cloths, to_trues, to_strengths, to_reefs, to_pull, to_hold]))]) (wr := [(h0, .inr (10, [h0_tape, .int h0_tapeLength, h0_reader, h0_draft, h0_told, h0_course, h0_now, h0_history, h0_boxes, h0_boxFilled, h0_lying, h0_outlook, .ref si, .int h0_time]))]) (rV (As := [.int p1]) (rest := []) (meth2 := "") hcx (c_X6_leastFitting H.size) (gdV q65_1 q65_2 q65_3 q3_0 q65_4) dvX6_leastFitting ⟨Nat.le_of_ble_eq_true rfl, Nat.le_of_ble_eq_true rfl⟩ (hP.sub [1, 2, 3] rfl) (hD.sub [1, 2, 3] (by decide) rfl) (va_recv hK hP (ci := 6) (q0 := 1) rfl rfl) rfl hl.1 rfl (Nat.le_of_ble_eq_true rfl) dX10_sure_20 ⟨Nat.le_of_ble_eq_true rfl, Nat.le_of_ble_eq_true rfl⟩) hP hD hS hA [1, 2, 3] [0] rfl rfl (by decide) (by decide) (fun r W' H locs hw hP hD hS => ?_)
        obtain ⟨rfl, rfl⟩ := hw
        have hP : va_P g.1 vwCl [(h0, .inr (10, [h0_tape, .int h0_tapeLength, h0_reader, h0_draft, h0_told, h0_course, h0_now, h0_history, h0_boxes, h0_boxFilled, h0_lying, h0_outlook, .ref si, .int h0_time])), (si, .inr (6, [.ref co, si_trial, si_corners, si_guilds, si_wasUp, si_toldAt, si_untoldAt, si_untold, si_upBehind, si_fitting, si_groups, .int si_isWalked, .int si_count])), (co, .inr (0, [.ref to, co_values, .int co_pull, .int co_hold])), (to, .inr (9, [.int 0, .int to_gustyCorners, .int 0, .int to_draw, .int to_drawTold, to_cornerNames, to_winds, to_lees, to_gustChances, to_gusts, to_guildNames, to_cloths, to_trues, to_strengths, to_reefs, to_pull, to_hold]))] H := hP
        have hD : va_D A [(h0, .inr (10, [h0_tape, .int h0_tapeLength, h0_reader, h0_draft, h0_told, h0_course, h0_now, h0_history, h0_boxes, h0_boxFilled, h0_lying, h0_outlook, .ref si, .int h0_time])), (si, .inr (6, [.ref co, si_trial, si_corners, si_guilds, si_wasUp, si_toldAt, si_untoldAt, si_untold, si_upBehind, si_fitting, si_groups, .int si_isWalked, .int si_count])), (co, .inr (0, [.ref to, co_values, .int co_pull, .int co_hold])), (to, .inr (9, [.int 0, .int to_gustyCorners, .int 0, .int to_draw, .int to_drawTold, to_cornerNames, to_winds, to_lees, to_gustChances, to_gusts, to_guildNames, to_cloths, to_trues, to_strengths, to_reefs, to_pull, to_hold]))] := hD
        refine lv_goto (tgt := 34) hx hb dX10_sure_23 (by decide) ?_
        have hP9 : va_P g.1 vwCl [] H := hP.sub [] rfl
        have hD9 : va_D A [] := hD.sub [] (by decide) rfl
        exact xi hx hb hr hlocks rfl hP9 hD9 hS ⟨rfl, rfl⟩ (Nat.le_of_ble_eq_true rfl) (Nat.le_of_ble_eq_true rfl) dX10_sure_34
    · refine lv_iconst (v := (-1)) hx hb dX10_sure_9 (by decide) ?_
      have hP9 : va_P g.1 vwCl [] H := hP.sub [] rfl
      have hD9 : va_D A [] := hD.sub [] (by decide) rfl
      exact xi hx hb hr hlocks rfl hP9 hD9 hS ⟨rfl, rfl⟩ (Nat.le_of_ble_eq_true rfl) (Nat.le_of_ble_eq_true rfl) dX10_sure_10

set_option maxHeartbeats 4000000 in
set_option maxRecDepth 100000 in
theorem c_X10_ask {l : Launch} {g : Gx} {h0 si co to : Nat} {p0 : Int32} {p1 : Int32} {h0_tape : Value} {h0_tapeLength : Int32} {h0_reader : Value} {h0_draft : Value} {h0_told : Value} {h0_course : Value} {h0_now : Value} {h0_history : Value} {h0_boxes : Value} {h0_boxFilled : Value} {h0_lying : Value} {h0_outlook : Value} {h0_time : Int32} {si_trial : Value} {si_corners : Value} {si_guilds : Value} {si_wasUp : Value} {si_toldAt : Value} {si_untoldAt : Value} {si_untold : Value} {si_upBehind : Value} {si_fitting : Value} {si_groups : Value} {si_isWalked : Int32} {si_count : Int32} {co_values : Value} {co_pull : Int32} {co_hold : Int32} {to_gustyCorners : Int32} {to_draw : Int32} {to_drawTold : Int32} {to_cornerNames : Value} {to_winds : Value} {to_lees : Value} {to_gustChances : Value} {to_gusts : Value} {to_guildNames : Value} {to_cloths : Value} {to_trues : Value} {to_strengths : Value} {to_reefs : Value} {to_pull : Value} {to_hold : Value} : MI l g yX10_ask cX10_ask 3 (some .int) 4 0 0 [.ref h0, .int p0, .int p1] [(h0, .inr (10, [h0_tape, .int h0_tapeLength, h0_reader, h0_draft, h0_told, h0_course, h0_now, h0_history, h0_boxes, h0_boxFilled, h0_lying, h0_outlook, .ref si, .int h0_time])), (si, .inr (6, [.ref co, si_trial, si_corners, si_guilds, si_wasUp, si_toldAt, si_untoldAt, si_untold, si_upBehind, si_fitting, si_groups, .int si_isWalked, .int si_count])), (co, .inr (0, [.ref to, co_values, .int co_pull, .int co_hold])), (to, .inr (9, [.int 0, .int to_gustyCorners, .int 0, .int to_draw, .int to_drawTold, to_cornerNames, to_winds, to_lees, to_gustChances, to_gusts, to_guildNames, to_cloths, to_trues, to_strengths, to_reefs, to_pull, to_hold]))] (fun r W' => (-1) = r ∧ W' = []) := by
  refine MIof (by decide) (Nat.le_of_ble_eq_true rfl) ?_
  intro p e s m below meth c A ls H locs hcx hA hP hD hS hl
  obtain ⟨hx, hb, hml, hr, hlocks, hown, hts, hE, hnm⟩ := id hcx
  have hown : s.vm.findClass RX10 = some m.cls := hown
  have hK := hE.1
  have hl : lv_has ls 3 [(0, .ref h0), (1, .int p0), (2, .int p1)] := hl
  refine lv_iload_n hx hb dX10_ask_0 rfl (lv_at hl 1 rfl) ?_
  refine lv_if_lt (tgt := 9) hx hb dX10_ask_1 (by decide) (fun c1 => ?_) (fun c1 => ?_)
  · refine lv_iconst (v := (-1)) hx hb dX10_ask_9 (by decide) ?_
    have hP9 : va_P g.1 vwCl [] H := hP.sub [] rfl
    have hD9 : va_D A [] := hD.sub [] (by decide) rfl
    exact xi hx hb hr hlocks rfl hP9 hD9 hS ⟨rfl, rfl⟩ (Nat.le_of_ble_eq_true rfl) (Nat.le_of_ble_eq_true rfl) dX10_ask_10
  · refine lv_iload_n hx hb dX10_ask_4 rfl (lv_at hl 1 rfl) ?_
    refine lv_iconst (v := 1) hx hb dX10_ask_5 (by decide) ?_
    refine lv_icmp_le (tgt := 11) hx hb dX10_ask_6 (by decide) (fun c2 => ?_) (fun c2 => ?_)
    · refine lv_aload_n hx hb dX10_ask_11 rfl (lv_at hl 0 rfl) ?_
      refine va_get (D := g.1) (ci := 10) (v := Value.ref si) (C := RX10) (T := TX10) (N := 14) hx hb hts inlX10 hown hK hP 0 rfl rfl 12 (by decide) (hts _ q3_1) (fun _ h9 => h9) rfl dX10_ask_12 ?_
      refine lv_iload_n hx hb dX10_ask_15 rfl (lv_at hl 2 rfl) ?_
      refine lv_iload_n hx hb dX10_ask_16 rfl (lv_at hl 1 rfl) ?_
      refine lv_if_ne (tgt := 24) hx hb dX10_ask_17 (by decide) (fun c3 => ?_) (fun c3 => ?_)
      · refine lv_iconst (v := 0) hx hb dX10_ask_24 (by decide) ?_
        refine kI (wc := [(si, .inr (6, [.ref co, si_trial, si_corners, si_guilds, si_wasUp, si_toldAt, si_untoldAt, si_untold, si_upBehind, si_fitting, si_groups, .int si_isWalked, .int si_count])), (co, .inr (0, [.ref to, co_values, .int co_pull, .int co_hold])), (to, .inr (9, [.int 0, .int to_gustyCorners, .int 0, .int to_draw, .int to_drawTold, to_cornerNames, to_winds, to_lees, to_gustChances, to_gusts, to_guildNames, to_cloths, to_trues, to_strengths, to_reefs, to_pull, to_hold]))]) (wr := [(h0, .inr (10, [h0_tape, .int h0_tapeLength, h0_reader, h0_draft, h0_told, h0_course, h0_now, h0_history, h0_boxes, h0_boxFilled, h0_lying, h0_outlook, .ref si, .int h0_time]))]) (rV (As := [.int p1, .int 0]) (rest := []) (meth2 := "") hcx (c_X6_nextToWatch H.size) (gdV q65_19 q65_20 q65_21 q3_0 q65_22) dvX6_nextToWatch ⟨Nat.le_of_ble_eq_true rfl, Nat.le_of_ble_eq_true rfl⟩ (hP.sub [1, 2, 3] rfl) (hD.sub [1, 2, 3] (by decide) rfl) (va_recv hK hP (ci := 6) (q0 := 1) rfl rfl) rfl hl.1 rfl (Nat.le_of_ble_eq_true rfl) dX10_ask_25 ⟨Nat.le_of_ble_eq_true rfl, Nat.le_of_ble_eq_true rfl⟩) hP hD hS hA [1, 2, 3] [0] rfl rfl (by decide) (by decide) (fun r W' H locs hw hP hD hS => ?_)
        obtain ⟨rfl, rfl⟩ := hw
        have hP : va_P g.1 vwCl [(h0, .inr (10, [h0_tape, .int h0_tapeLength, h0_reader, h0_draft, h0_told, h0_course, h0_now, h0_history, h0_boxes, h0_boxFilled, h0_lying, h0_outlook, .ref si, .int h0_time])), (si, .inr (6, [.ref co, si_trial, si_corners, si_guilds, si_wasUp, si_toldAt, si_untoldAt, si_untold, si_upBehind, si_fitting, si_groups, .int si_isWalked, .int si_count])), (co, .inr (0, [.ref to, co_values, .int co_pull, .int co_hold])), (to, .inr (9, [.int 0, .int to_gustyCorners, .int 0, .int to_draw, .int to_drawTold, to_cornerNames, to_winds, to_lees, to_gustChances, to_gusts, to_guildNames, to_cloths, to_trues, to_strengths, to_reefs, to_pull, to_hold]))] H := hP
        have hD : va_D A [(h0, .inr (10, [h0_tape, .int h0_tapeLength, h0_reader, h0_draft, h0_told, h0_course, h0_now, h0_history, h0_boxes, h0_boxFilled, h0_lying, h0_outlook, .ref si, .int h0_time])), (si, .inr (6, [.ref co, si_trial, si_corners, si_guilds, si_wasUp, si_toldAt, si_untoldAt, si_untold, si_upBehind, si_fitting, si_groups, .int si_isWalked, .int si_count])), (co, .inr (0, [.ref to, co_values, .int co_pull, .int co_hold])), (to, .inr (9, [.int 0, .int to_gustyCorners, .int 0, .int to_draw, .int to_drawTold, to_cornerNames, to_winds, to_lees, to_gustChances, to_gusts, to_guildNames, to_cloths, to_trues, to_strengths, to_reefs, to_pull, to_hold]))] := hD
        have hP9 : va_P g.1 vwCl [] H := hP.sub [] rfl
        have hD9 : va_D A [] := hD.sub [] (by decide) rfl
        exact xi hx hb hr hlocks rfl hP9 hD9 hS ⟨rfl, rfl⟩ (Nat.le_of_ble_eq_true rfl) (Nat.le_of_ble_eq_true rfl) dX10_ask_28
      · refine lv_iconst (v := 1) hx hb dX10_ask_20 (by decide) ?_
        refine lv_goto (tgt := 25) hx hb dX10_ask_21 (by decide) ?_
        refine kI (wc := [(si, .inr (6, [.ref co, si_trial, si_corners, si_guilds, si_wasUp, si_toldAt, si_untoldAt, si_untold, si_upBehind, si_fitting, si_groups, .int si_isWalked, .int si_count])), (co, .inr (0, [.ref to, co_values, .int co_pull, .int co_hold])), (to, .inr (9, [.int 0, .int to_gustyCorners, .int 0, .int to_draw, .int to_drawTold, to_cornerNames, to_winds, to_lees, to_gustChances, to_gusts, to_guildNames, to_cloths, to_trues, to_strengths, to_reefs, to_pull, to_hold]))]) (wr := [(h0, .inr (10, [h0_tape, .int h0_tapeLength, h0_reader, h0_draft, h0_told, h0_course, h0_now, h0_history, h0_boxes, h0_boxFilled, h0_lying, h0_outlook, .ref si, .int h0_time]))]) (rV (As := [.int p1, .int 1]) (rest := []) (meth2 := "") hcx (c_X6_nextToWatch H.size) (gdV q65_19 q65_20 q65_21 q3_0 q65_22) dvX6_nextToWatch ⟨Nat.le_of_ble_eq_true rfl, Nat.le_of_ble_eq_true rfl⟩ (hP.sub [1, 2, 3] rfl) (hD.sub [1, 2, 3] (by decide) rfl) (va_recv hK hP (ci := 6) (q0 := 1) rfl rfl) rfl hl.1 rfl (Nat.le_of_ble_eq_true rfl) dX10_ask_25 ⟨Nat.le_of_ble_eq_true rfl, Nat.le_of_ble_eq_true rfl⟩) hP hD hS hA [1, 2, 3] [0] rfl rfl (by decide) (by decide) (fun r W' H locs hw hP hD hS => ?_)
        obtain ⟨rfl, rfl⟩ := hw
        have hP : va_P g.1 vwCl [(h0, .inr (10, [h0_tape, .int h0_tapeLength, h0_reader, h0_draft, h0_told, h0_course, h0_now, h0_history, h0_boxes, h0_boxFilled, h0_lying, h0_outlook, .ref si, .int h0_time])), (si, .inr (6, [.ref co, si_trial, si_corners, si_guilds, si_wasUp, si_toldAt, si_untoldAt, si_untold, si_upBehind, si_fitting, si_groups, .int si_isWalked, .int si_count])), (co, .inr (0, [.ref to, co_values, .int co_pull, .int co_hold])), (to, .inr (9, [.int 0, .int to_gustyCorners, .int 0, .int to_draw, .int to_drawTold, to_cornerNames, to_winds, to_lees, to_gustChances, to_gusts, to_guildNames, to_cloths, to_trues, to_strengths, to_reefs, to_pull, to_hold]))] H := hP
        have hD : va_D A [(h0, .inr (10, [h0_tape, .int h0_tapeLength, h0_reader, h0_draft, h0_told, h0_course, h0_now, h0_history, h0_boxes, h0_boxFilled, h0_lying, h0_outlook, .ref si, .int h0_time])), (si, .inr (6, [.ref co, si_trial, si_corners, si_guilds, si_wasUp, si_toldAt, si_untoldAt, si_untold, si_upBehind, si_fitting, si_groups, .int si_isWalked, .int si_count])), (co, .inr (0, [.ref to, co_values, .int co_pull, .int co_hold])), (to, .inr (9, [.int 0, .int to_gustyCorners, .int 0, .int to_draw, .int to_drawTold, to_cornerNames, to_winds, to_lees, to_gustChances, to_gusts, to_guildNames, to_cloths, to_trues, to_strengths, to_reefs, to_pull, to_hold]))] := hD
        have hP9 : va_P g.1 vwCl [] H := hP.sub [] rfl
        have hD9 : va_D A [] := hD.sub [] (by decide) rfl
        exact xi hx hb hr hlocks rfl hP9 hD9 hS ⟨rfl, rfl⟩ (Nat.le_of_ble_eq_true rfl) (Nat.le_of_ble_eq_true rfl) dX10_ask_28
    · refine lv_iconst (v := (-1)) hx hb dX10_ask_9 (by decide) ?_
      have hP9 : va_P g.1 vwCl [] H := hP.sub [] rfl
      have hD9 : va_D A [] := hD.sub [] (by decide) rfl
      exact xi hx hb hr hlocks rfl hP9 hD9 hS ⟨rfl, rfl⟩ (Nat.le_of_ble_eq_true rfl) (Nat.le_of_ble_eq_true rfl) dX10_ask_10

set_option maxHeartbeats 4000000 in
set_option maxRecDepth 100000 in
theorem c_X10_image_0 {l : Launch} {g : Gx} {h0 bx b0 b0_or b0_re b0_ch b0_ho b0_gu no no_or no_re no_ch no_ho no_gu bf : Nat} {h0_tape : Value} {h0_tapeLength : Int32} {h0_reader : Value} {h0_draft : Value} {h0_told : Value} {h0_course : Value} {h0_history : Value} {h0_lying : Value} {h0_outlook : Value} {h0_sightings : Value} {h0_time : Int32} {f_bx : Nat → Option Nat} {b0_up : Int32} {b0_standing : Int32} {b0_day : Int32} {b0_seed : Int32} {b0_firstTrue : Int32} {f_b0_or : Nat → Int32} {f_b0_re : Nat → Int32} {f_b0_ch : Nat → Int32} {f_b0_ho : Nat → Int32} {f_b0_gu : Nat → Int32} {no_up : Int32} {no_standing : Int32} {no_seed : Int32} {no_firstTrue : Int32} {f_no_or : Nat → Int32} {f_no_re : Nat → Int32} {f_no_ch : Nat → Int32} {f_no_ho : Nat → Int32} {f_no_gu : Nat → Int32} {f_bf : Nat → Int32} (h_f_bx_0 : f_bx 0 = some b0) : MI l g yX10_image cX10_image 2 (some .int) 3 0 0 [.ref h0, .int 0] [(h0, .inr (10, [h0_tape, .int h0_tapeLength, h0_reader, h0_draft, h0_told, h0_course, .ref no, h0_history, .ref bx, .ref bf, h0_lying, h0_outlook, h0_sightings, .int h0_time])), (bx, .inl (gO g, 3, .inr (.inr (.inr (.inr f_bx))))), (b0, .inr (7, [.ref b0_or, .ref b0_re, .ref b0_ch, .ref b0_ho, .ref b0_gu, .int b0_up, .int b0_standing, .int b0_day, .int b0_seed, .int b0_firstTrue])), (b0_or, .inl (gI g, 5, .inl f_b0_or)), (b0_re, .inl (gI g, 5, .inl f_b0_re)), (b0_ch, .inl (gI g, 5, .inl f_b0_ch)), (b0_ho, .inl (gI g, 5, .inl f_b0_ho)), (b0_gu, .inl (gI g, 5, .inl f_b0_gu)), (no, .inr (7, [.ref no_or, .ref no_re, .ref no_ch, .ref no_ho, .ref no_gu, .int no_up, .int no_standing, .int 0, .int no_seed, .int no_firstTrue])), (no_or, .inl (gI g, 5, .inl f_no_or)), (no_re, .inl (gI g, 5, .inl f_no_re)), (no_ch, .inl (gI g, 5, .inl f_no_ch)), (no_ho, .inl (gI g, 5, .inl f_no_ho)), (no_gu, .inl (gI g, 5, .inl f_no_gu)), (bf, .inl (gZ g, 3, .inl f_bf))] (fun r W' => 0 = r ∧ W' = []) := by
  refine MIof (by decide) (Nat.le_of_ble_eq_true rfl) ?_
  intro p e s m below meth c A ls H locs hcx hA hP hD hS hl
  obtain ⟨hx, hb, hml, hr, hlocks, hown, hts, hE, hnm⟩ := id hcx
  have hown : s.vm.findClass RX10 = some m.cls := hown
  have hK := hE.1
  have hl : lv_has ls 2 [(0, .ref h0), (1, .int 0)] := hl
  refine lv_iload_n hx hb dX10_image_0 rfl (lv_at hl 1 rfl) ?_
  refine lv_if_lt (tgt := 9) hx hb dX10_image_1 (by decide) (fun c1 => absurd c1 (by decide)) (fun _ => ?_)
  refine lv_iload_n hx hb dX10_image_4 rfl (lv_at hl 1 rfl) ?_
  refine lv_iconst (v := 3) hx hb dX10_image_5 (by decide) ?_
  refine lv_icmp_lt (tgt := 11) hx hb dX10_image_6 (by decide) (fun _ => ?_) (fun c2 => absurd (by decide) c2)
  refine lv_aload_n hx hb dX10_image_11 rfl (lv_at hl 0 rfl) ?_
  refine va_get (D := g.1) (ci := 10) (v := Value.ref bx) (C := RX10) (T := TX10) (N := 14) hx hb hts inlX10 hown hK hP 0 rfl rfl 8 (by decide) (hts _ q2_11) (fun _ h9 => h9) rfl dX10_image_12 ?_
  refine lv_iload_n hx hb dX10_image_15 rfl (lv_at hl 1 rfl) ?_
  refine oa_ld hx hb hK hP 1 4 rfl rfl 0 rfl (by decide) (by decide) h_f_bx_0 dX10_image_16 ?_
  refine lv_aload_n hx hb dX10_image_17 rfl (lv_at hl 0 rfl) ?_
  refine va_get (D := g.1) (ci := 10) (v := Value.ref no) (C := RX10) (T := TX10) (N := 14) hx hb hts inlX10 hown hK hP 0 rfl rfl 6 (by decide) (hts _ q2_6) (fun _ h9 => h9) rfl dX10_image_18 ?_
  refine kV (wc := [(b0, .inr (7, [.ref b0_or, .ref b0_re, .ref b0_ch, .ref b0_ho, .ref b0_gu, .int b0_up, .int b0_standing, .int b0_day, .int b0_seed, .int b0_firstTrue])), (b0_or, .inl (gI g, 5, .inl f_b0_or)), (b0_re, .inl (gI g, 5, .inl f_b0_re)), (b0_ch, .inl (gI g, 5, .inl f_b0_ch)), (b0_ho, .inl (gI g, 5, .inl f_b0_ho)), (b0_gu, .inl (gI g, 5, .inl f_b0_gu)), (no, .inr (7, [.ref no_or, .ref no_re, .ref no_ch, .ref no_ho, .ref no_gu, .int no_up, .int no_standing, .int 0, .int no_seed, .int no_firstTrue])), (no_or, .inl (gI g, 5, .inl f_no_or)), (no_re, .inl (gI g, 5, .inl f_no_re)), (no_ch, .inl (gI g, 5, .inl f_no_ch)), (no_ho, .inl (gI g, 5, .inl f_no_ho)), (no_gu, .inl (gI g, 5, .inl f_no_gu))]) (wr := [(h0, .inr (10, [h0_tape, .int h0_tapeLength, h0_reader, h0_draft, h0_told, h0_course, .ref no, h0_history, .ref bx, .ref bf, h0_lying, h0_outlook, h0_sightings, .int h0_time])), (bx, .inl (gO g, 3, .inr (.inr (.inr (.inr f_bx))))), (bf, .inl (gZ g, 3, .inl f_bf))]) (rV (As := [.ref no]) (rest := []) (meth2 := "") hcx (c_X7_copyFrom H.size) (gdV q66_16 q11_21 q11_22 q2_5 q11_23) dvX7_copyFrom ⟨Nat.le_of_ble_eq_true rfl, Nat.le_of_ble_eq_true rfl⟩ (hP.sub [2, 3, 4, 5, 6, 7, 8, 9, 10, 11, 12, 13] rfl) (hD.sub [2, 3, 4, 5, 6, 7, 8, 9, 10, 11, 12, 13] (by decide) rfl) (va_recv hK hP (ci := 7) (q0 := 2) rfl rfl) rfl hl.1 rfl (Nat.le_of_ble_eq_true rfl) dX10_image_21 ⟨Nat.le_of_ble_eq_true rfl, Nat.le_of_ble_eq_true rfl⟩) hP hD hS hA [2, 3, 4, 5, 6, 7, 8, 9, 10, 11, 12, 13] [0, 1, 14] rfl rfl (by decide) (by decide) (fun W' H locs hw hP hD hS => ?_)
  obtain ⟨f3, f4, f5, f6, f7, rfl⟩ := hw
  have hP : va_P g.1 vwCl [(h0, .inr (10, [h0_tape, .int h0_tapeLength, h0_reader, h0_draft, h0_told, h0_course, .ref no, h0_history, .ref bx, .ref bf, h0_lying, h0_outlook, h0_sightings, .int h0_time])), (bx, .inl (gO g, 3, .inr (.inr (.inr (.inr f_bx))))), (bf, .inl (gZ g, 3, .inl f_bf)), (b0, .inr (7, [.ref b0_or, .ref b0_re, .ref b0_ch, .ref b0_ho, .ref b0_gu, .int no_up, .int no_standing, .int 0, .int no_seed, .int no_firstTrue])), (b0_or, .inl (gI g, 5, .inl f3)), (b0_re, .inl (gI g, 5, .inl f4)), (b0_ch, .inl (gI g, 5, .inl f5)), (b0_ho, .inl (gI g, 5, .inl f6)), (b0_gu, .inl (gI g, 5, .inl f7)), (no, .inr (7, [.ref no_or, .ref no_re, .ref no_ch, .ref no_ho, .ref no_gu, .int no_up, .int no_standing, .int 0, .int no_seed, .int no_firstTrue])), (no_or, .inl (gI g, 5, .inl f_no_or)), (no_re, .inl (gI g, 5, .inl f_no_re)), (no_ch, .inl (gI g, 5, .inl f_no_ch)), (no_ho, .inl (gI g, 5, .inl f_no_ho)), (no_gu, .inl (gI g, 5, .inl f_no_gu))] H := hP
  have hD : va_D A [(h0, .inr (10, [h0_tape, .int h0_tapeLength, h0_reader, h0_draft, h0_told, h0_course, .ref no, h0_history, .ref bx, .ref bf, h0_lying, h0_outlook, h0_sightings, .int h0_time])), (bx, .inl (gO g, 3, .inr (.inr (.inr (.inr f_bx))))), (bf, .inl (gZ g, 3, .inl f_bf)), (b0, .inr (7, [.ref b0_or, .ref b0_re, .ref b0_ch, .ref b0_ho, .ref b0_gu, .int no_up, .int no_standing, .int 0, .int no_seed, .int no_firstTrue])), (b0_or, .inl (gI g, 5, .inl f3)), (b0_re, .inl (gI g, 5, .inl f4)), (b0_ch, .inl (gI g, 5, .inl f5)), (b0_ho, .inl (gI g, 5, .inl f6)), (b0_gu, .inl (gI g, 5, .inl f7)), (no, .inr (7, [.ref no_or, .ref no_re, .ref no_ch, .ref no_ho, .ref no_gu, .int no_up, .int no_standing, .int 0, .int no_seed, .int no_firstTrue])), (no_or, .inl (gI g, 5, .inl f_no_or)), (no_re, .inl (gI g, 5, .inl f_no_re)), (no_ch, .inl (gI g, 5, .inl f_no_ch)), (no_ho, .inl (gI g, 5, .inl f_no_ho)), (no_gu, .inl (gI g, 5, .inl f_no_gu))] := hD
  refine lv_aload_n hx hb dX10_image_24 rfl (lv_at hl 0 rfl) ?_
  refine va_get (D := g.1) (ci := 10) (v := Value.ref bf) (C := RX10) (T := TX10) (N := 14) hx hb hts inlX10 hown hK hP 0 rfl rfl 9 (by decide) (hts _ q2_13) (fun _ h9 => h9) rfl dX10_image_25 ?_
  refine lv_iload_n hx hb dX10_image_28 rfl (lv_at hl 1 rfl) ?_
  refine lv_iconst (v := 1) hx hb dX10_image_29 (by decide) ?_
  refine za_st hx hb hK hP hD hS 2 3 rfl rfl (0) rfl (by decide) (by decide) rfl dX10_image_30 (fun f8 H locs ef8 hP hD hS => ?_)
  have hP : va_P g.1 vwCl [(h0, .inr (10, [h0_tape, .int h0_tapeLength, h0_reader, h0_draft, h0_told, h0_course, .ref no, h0_history, .ref bx, .ref bf, h0_lying, h0_outlook, h0_sightings, .int h0_time])), (bx, .inl (gO g, 3, .inr (.inr (.inr (.inr f_bx))))), (bf, .inl (gZ g, 3, .inl f8)), (b0, .inr (7, [.ref b0_or, .ref b0_re, .ref b0_ch, .ref b0_ho, .ref b0_gu, .int no_up, .int no_standing, .int 0, .int no_seed, .int no_firstTrue])), (b0_or, .inl (gI g, 5, .inl f3)), (b0_re, .inl (gI g, 5, .inl f4)), (b0_ch, .inl (gI g, 5, .inl f5)), (b0_ho, .inl (gI g, 5, .inl f6)), (b0_gu, .inl (gI g, 5, .inl f7)), (no, .inr (7, [.ref no_or, .ref no_re, .ref no_ch, .ref no_ho, .ref no_gu, .int no_up, .int no_standing, .int 0, .int no_seed, .int no_firstTrue])), (no_or, .inl (gI g, 5, .inl f_no_or)), (no_re, .inl (gI g, 5, .inl f_no_re)), (no_ch, .inl (gI g, 5, .inl f_no_ch)), (no_ho, .inl (gI g, 5, .inl f_no_ho)), (no_gu, .inl (gI g, 5, .inl f_no_gu))] H := hP
  have hD : va_D A [(h0, .inr (10, [h0_tape, .int h0_tapeLength, h0_reader, h0_draft, h0_told, h0_course, .ref no, h0_history, .ref bx, .ref bf, h0_lying, h0_outlook, h0_sightings, .int h0_time])), (bx, .inl (gO g, 3, .inr (.inr (.inr (.inr f_bx))))), (bf, .inl (gZ g, 3, .inl f8)), (b0, .inr (7, [.ref b0_or, .ref b0_re, .ref b0_ch, .ref b0_ho, .ref b0_gu, .int no_up, .int no_standing, .int 0, .int no_seed, .int no_firstTrue])), (b0_or, .inl (gI g, 5, .inl f3)), (b0_re, .inl (gI g, 5, .inl f4)), (b0_ch, .inl (gI g, 5, .inl f5)), (b0_ho, .inl (gI g, 5, .inl f6)), (b0_gu, .inl (gI g, 5, .inl f7)), (no, .inr (7, [.ref no_or, .ref no_re, .ref no_ch, .ref no_ho, .ref no_gu, .int no_up, .int no_standing, .int 0, .int no_seed, .int no_firstTrue])), (no_or, .inl (gI g, 5, .inl f_no_or)), (no_re, .inl (gI g, 5, .inl f_no_re)), (no_ch, .inl (gI g, 5, .inl f_no_ch)), (no_ho, .inl (gI g, 5, .inl f_no_ho)), (no_gu, .inl (gI g, 5, .inl f_no_gu))] := hD
  refine lv_aload_n hx hb dX10_image_31 rfl (lv_at hl 0 rfl) ?_
  refine va_get (D := g.1) (ci := 10) (v := Value.ref no) (C := RX10) (T := TX10) (N := 14) hx hb hts inlX10 hown hK hP 0 rfl rfl 6 (by decide) (hts _ q2_6) (fun _ h9 => h9) rfl dX10_image_32 ?_
  refine va_get (D := g.1) (ci := 7) (v := Value.int 0) (C := RX7) (T := TX7) (N := 10) hx hb hts inlX7 hown hK hP 9 rfl rfl 7 (by decide) (hts _ q45_4) (fun _ h9 => h9) rfl dX10_image_35 ?_
  have hP9 : va_P g.1 vwCl [] H := hP.sub [] rfl
  have hD9 : va_D A [] := hD.sub [] (by decide) rfl
  exact xi hx hb hr hlocks rfl hP9 hD9 hS ⟨rfl, rfl⟩ (Nat.le_of_ble_eq_true rfl) (Nat.le_of_ble_eq_true rfl) dX10_image_38

set_option maxHeartbeats 4000000 in
set_option maxRecDepth 100000 in
theorem c_X10_back_0 {l : Launch} {g : Gx} {h0 bf : Nat} {h0_tape : Value} {h0_tapeLength : Int32} {h0_reader : Value} {h0_draft : Value} {h0_told : Value} {h0_course : Value} {h0_now : Value} {h0_history : Value} {h0_boxes : Value} {h0_lying : Value} {h0_outlook : Value} {h0_sightings : Value} {h0_time : Int32} {f_bf : Nat → Int32} (h_f_bf_0 : f_bf 0 = 0) : MI l g yX10_back cX10_back 2 (some .int) 2 0 0 [.ref h0, .int 0] [(h0, .inr (10, [h0_tape, .int h0_tapeLength, h0_reader, h0_draft, h0_told, h0_course, h0_now, h0_history, h0_boxes, .ref bf, h0_lying, h0_outlook, h0_sightings, .int h0_time])), (bf, .inl (gZ g, 3, .inl f_bf))] (fun r W' => (-1) = r ∧ W' = []) := by
  refine MIof (by decide) (Nat.le_of_ble_eq_true rfl) ?_
  intro p e s m below meth c A ls H locs hcx hA hP hD hS hl
  obtain ⟨hx, hb, hml, hr, hlocks, hown, hts, hE, hnm⟩ := id hcx
  have hown : s.vm.findClass RX10 = some m.cls := hown
  have hK := hE.1
  have hl : lv_has ls 2 [(0, .ref h0), (1, .int 0)] := hl
  refine lv_iload_n hx hb dX10_back_0 rfl (lv_at hl 1 rfl) ?_
  refine lv_if_lt (tgt := 18) hx hb dX10_back_1 (by decide) (fun c1 => absurd c1 (by decide)) (fun _ => ?_)
  refine lv_iload_n hx hb dX10_back_4 rfl (lv_at hl 1 rfl) ?_
  refine lv_iconst (v := 3) hx hb dX10_back_5 (by decide) ?_
  refine lv_icmp_ge (tgt := 18) hx hb dX10_back_6 (by decide) (fun c2 => absurd c2 (by decide)) (fun _ => ?_)
  refine lv_aload_n hx hb dX10_back_9 rfl (lv_at hl 0 rfl) ?_
  refine va_get (D := g.1) (ci := 10) (v := Value.ref bf) (C := RX10) (T := TX10) (N := 14) hx hb hts inlX10 hown hK hP 0 rfl rfl 9 (by decide) (hts _ q2_13) (fun _ h9 => h9) rfl dX10_back_10 ?_
  refine lv_iload_n hx hb dX10_back_13 rfl (lv_at hl 1 rfl) ?_
  refine za_ld hx hb hK hP 1 3 rfl rfl (0) rfl (by decide) (by decide) dX10_back_14 ?_
  refine lv_tope (y := 0) h_f_bf_0 ?_
  refine lv_if_ne (tgt := 20) hx hb dX10_back_15 (by decide) (fun c3 => absurd (by decide) c3) (fun _ => ?_)
  refine lv_iconst (v := (-1)) hx hb dX10_back_18 (by decide) ?_
  have hP9 : va_P g.1 vwCl [] H := hP.sub [] rfl
  have hD9 : va_D A [] := hD.sub [] (by decide) rfl
  exact xi hx hb hr hlocks rfl hP9 hD9 hS ⟨rfl, rfl⟩ (Nat.le_of_ble_eq_true rfl) (Nat.le_of_ble_eq_true rfl) dX10_back_19

set_option maxHeartbeats 4000000 in
set_option maxRecDepth 100000 in
theorem c_X10_image_1 {l : Launch} {g : Gx} {h0 bx b0 b0_or b0_re b0_ch b0_ho b0_gu no no_or no_re no_ch no_ho no_gu bf : Nat} {h0_tape : Value} {h0_tapeLength : Int32} {h0_reader : Value} {h0_draft : Value} {h0_told : Value} {h0_course : Value} {h0_history : Value} {h0_lying : Value} {h0_outlook : Value} {h0_sightings : Value} {h0_time : Int32} {f_bx : Nat → Option Nat} {b0_up : Int32} {b0_standing : Int32} {b0_day : Int32} {b0_seed : Int32} {b0_firstTrue : Int32} {f_b0_or : Nat → Int32} {f_b0_re : Nat → Int32} {f_b0_ch : Nat → Int32} {f_b0_ho : Nat → Int32} {f_b0_gu : Nat → Int32} {no_up : Int32} {no_standing : Int32} {no_seed : Int32} {no_firstTrue : Int32} {f_no_or : Nat → Int32} {f_no_re : Nat → Int32} {f_no_ch : Nat → Int32} {f_no_ho : Nat → Int32} {f_no_gu : Nat → Int32} {f_bf : Nat → Int32} (h_f_bx_1 : f_bx 1 = some b0) : MI l g yX10_image cX10_image 2 (some .int) 3 0 0 [.ref h0, .int 1] [(h0, .inr (10, [h0_tape, .int h0_tapeLength, h0_reader, h0_draft, h0_told, h0_course, .ref no, h0_history, .ref bx, .ref bf, h0_lying, h0_outlook, h0_sightings, .int h0_time])), (bx, .inl (gO g, 3, .inr (.inr (.inr (.inr f_bx))))), (b0, .inr (7, [.ref b0_or, .ref b0_re, .ref b0_ch, .ref b0_ho, .ref b0_gu, .int b0_up, .int b0_standing, .int b0_day, .int b0_seed, .int b0_firstTrue])), (b0_or, .inl (gI g, 5, .inl f_b0_or)), (b0_re, .inl (gI g, 5, .inl f_b0_re)), (b0_ch, .inl (gI g, 5, .inl f_b0_ch)), (b0_ho, .inl (gI g, 5, .inl f_b0_ho)), (b0_gu, .inl (gI g, 5, .inl f_b0_gu)), (no, .inr (7, [.ref no_or, .ref no_re, .ref no_ch, .ref no_ho, .ref no_gu, .int no_up, .int no_standing, .int 0, .int no_seed, .int no_firstTrue])), (no_or, .inl (gI g, 5, .inl f_no_or)), (no_re, .inl (gI g, 5, .inl f_no_re)), (no_ch, .inl (gI g, 5, .inl f_no_ch)), (no_ho, .inl (gI g, 5, .inl f_no_ho)), (no_gu, .inl (gI g, 5, .inl f_no_gu)), (bf, .inl (gZ g, 3, .inl f_bf))] (fun r W' => 0 = r ∧ W' = []) := by
  refine MIof (by decide) (Nat.le_of_ble_eq_true rfl) ?_
  intro p e s m below meth c A ls H locs hcx hA hP hD hS hl
  obtain ⟨hx, hb, hml, hr, hlocks, hown, hts, hE, hnm⟩ := id hcx
  have hown : s.vm.findClass RX10 = some m.cls := hown
  have hK := hE.1
  have hl : lv_has ls 2 [(0, .ref h0), (1, .int 1)] := hl
  refine lv_iload_n hx hb dX10_image_0 rfl (lv_at hl 1 rfl) ?_
  refine lv_if_lt (tgt := 9) hx hb dX10_image_1 (by decide) (fun c1 => absurd c1 (by decide)) (fun _ => ?_)
  refine lv_iload_n hx hb dX10_image_4 rfl (lv_at hl 1 rfl) ?_
  refine lv_iconst (v := 3) hx hb dX10_image_5 (by decide) ?_
  refine lv_icmp_lt (tgt := 11) hx hb dX10_image_6 (by decide) (fun _ => ?_) (fun c2 => absurd (by decide) c2)
  refine lv_aload_n hx hb dX10_image_11 rfl (lv_at hl 0 rfl) ?_
  refine va_get (D := g.1) (ci := 10) (v := Value.ref bx) (C := RX10) (T := TX10) (N := 14) hx hb hts inlX10 hown hK hP 0 rfl rfl 8 (by decide) (hts _ q2_11) (fun _ h9 => h9) rfl dX10_image_12 ?_
  refine lv_iload_n hx hb dX10_image_15 rfl (lv_at hl 1 rfl) ?_
  refine oa_ld hx hb hK hP 1 4 rfl rfl 1 rfl (by decide) (by decide) h_f_bx_1 dX10_image_16 ?_
  refine lv_aload_n hx hb dX10_image_17 rfl (lv_at hl 0 rfl) ?_
  refine va_get (D := g.1) (ci := 10) (v := Value.ref no) (C := RX10) (T := TX10) (N := 14) hx hb hts inlX10 hown hK hP 0 rfl rfl 6 (by decide) (hts _ q2_6) (fun _ h9 => h9) rfl dX10_image_18 ?_
  refine kV (wc := [(b0, .inr (7, [.ref b0_or, .ref b0_re, .ref b0_ch, .ref b0_ho, .ref b0_gu, .int b0_up, .int b0_standing, .int b0_day, .int b0_seed, .int b0_firstTrue])), (b0_or, .inl (gI g, 5, .inl f_b0_or)), (b0_re, .inl (gI g, 5, .inl f_b0_re)), (b0_ch, .inl (gI g, 5, .inl f_b0_ch)), (b0_ho, .inl (gI g, 5, .inl f_b0_ho)), (b0_gu, .inl (gI g, 5, .inl f_b0_gu)), (no, .inr (7, [.ref no_or, .ref no_re, .ref no_ch, .ref no_ho, .ref no_gu, .int no_up, .int no_standing, .int 0, .int no_seed, .int no_firstTrue])), (no_or, .inl (gI g, 5, .inl f_no_or)), (no_re, .inl (gI g, 5, .inl f_no_re)), (no_ch, .inl (gI g, 5, .inl f_no_ch)), (no_ho, .inl (gI g, 5, .inl f_no_ho)), (no_gu, .inl (gI g, 5, .inl f_no_gu))]) (wr := [(h0, .inr (10, [h0_tape, .int h0_tapeLength, h0_reader, h0_draft, h0_told, h0_course, .ref no, h0_history, .ref bx, .ref bf, h0_lying, h0_outlook, h0_sightings, .int h0_time])), (bx, .inl (gO g, 3, .inr (.inr (.inr (.inr f_bx))))), (bf, .inl (gZ g, 3, .inl f_bf))]) (rV (As := [.ref no]) (rest := []) (meth2 := "") hcx (c_X7_copyFrom H.size) (gdV q66_16 q11_21 q11_22 q2_5 q11_23) dvX7_copyFrom ⟨Nat.le_of_ble_eq_true rfl, Nat.le_of_ble_eq_true rfl⟩ (hP.sub [2, 3, 4, 5, 6, 7, 8, 9, 10, 11, 12, 13] rfl) (hD.sub [2, 3, 4, 5, 6, 7, 8, 9, 10, 11, 12, 13] (by decide) rfl) (va_recv hK hP (ci := 7) (q0 := 2) rfl rfl) rfl hl.1 rfl (Nat.le_of_ble_eq_true rfl) dX10_image_21 ⟨Nat.le_of_ble_eq_true rfl, Nat.le_of_ble_eq_true rfl⟩) hP hD hS hA [2, 3, 4, 5, 6, 7, 8, 9, 10, 11, 12, 13] [0, 1, 14] rfl rfl (by decide) (by decide) (fun W' H locs hw hP hD hS => ?_)
  obtain ⟨f3, f4, f5, f6, f7, rfl⟩ := hw
  have hP : va_P g.1 vwCl [(h0, .inr (10, [h0_tape, .int h0_tapeLength, h0_reader, h0_draft, h0_told, h0_course, .ref no, h0_history, .ref bx, .ref bf, h0_lying, h0_outlook, h0_sightings, .int h0_time])), (bx, .inl (gO g, 3, .inr (.inr (.inr (.inr f_bx))))), (bf, .inl (gZ g, 3, .inl f_bf)), (b0, .inr (7, [.ref b0_or, .ref b0_re, .ref b0_ch, .ref b0_ho, .ref b0_gu, .int no_up, .int no_standing, .int 0, .int no_seed, .int no_firstTrue])), (b0_or, .inl (gI g, 5, .inl f3)), (b0_re, .inl (gI g, 5, .inl f4)), (b0_ch, .inl (gI g, 5, .inl f5)), (b0_ho, .inl (gI g, 5, .inl f6)), (b0_gu, .inl (gI g, 5, .inl f7)), (no, .inr (7, [.ref no_or, .ref no_re, .ref no_ch, .ref no_ho, .ref no_gu, .int no_up, .int no_standing, .int 0, .int no_seed, .int no_firstTrue])), (no_or, .inl (gI g, 5, .inl f_no_or)), (no_re, .inl (gI g, 5, .inl f_no_re)), (no_ch, .inl (gI g, 5, .inl f_no_ch)), (no_ho, .inl (gI g, 5, .inl f_no_ho)), (no_gu, .inl (gI g, 5, .inl f_no_gu))] H := hP
  have hD : va_D A [(h0, .inr (10, [h0_tape, .int h0_tapeLength, h0_reader, h0_draft, h0_told, h0_course, .ref no, h0_history, .ref bx, .ref bf, h0_lying, h0_outlook, h0_sightings, .int h0_time])), (bx, .inl (gO g, 3, .inr (.inr (.inr (.inr f_bx))))), (bf, .inl (gZ g, 3, .inl f_bf)), (b0, .inr (7, [.ref b0_or, .ref b0_re, .ref b0_ch, .ref b0_ho, .ref b0_gu, .int no_up, .int no_standing, .int 0, .int no_seed, .int no_firstTrue])), (b0_or, .inl (gI g, 5, .inl f3)), (b0_re, .inl (gI g, 5, .inl f4)), (b0_ch, .inl (gI g, 5, .inl f5)), (b0_ho, .inl (gI g, 5, .inl f6)), (b0_gu, .inl (gI g, 5, .inl f7)), (no, .inr (7, [.ref no_or, .ref no_re, .ref no_ch, .ref no_ho, .ref no_gu, .int no_up, .int no_standing, .int 0, .int no_seed, .int no_firstTrue])), (no_or, .inl (gI g, 5, .inl f_no_or)), (no_re, .inl (gI g, 5, .inl f_no_re)), (no_ch, .inl (gI g, 5, .inl f_no_ch)), (no_ho, .inl (gI g, 5, .inl f_no_ho)), (no_gu, .inl (gI g, 5, .inl f_no_gu))] := hD
  refine lv_aload_n hx hb dX10_image_24 rfl (lv_at hl 0 rfl) ?_
  refine va_get (D := g.1) (ci := 10) (v := Value.ref bf) (C := RX10) (T := TX10) (N := 14) hx hb hts inlX10 hown hK hP 0 rfl rfl 9 (by decide) (hts _ q2_13) (fun _ h9 => h9) rfl dX10_image_25 ?_
  refine lv_iload_n hx hb dX10_image_28 rfl (lv_at hl 1 rfl) ?_
  refine lv_iconst (v := 1) hx hb dX10_image_29 (by decide) ?_
  refine za_st hx hb hK hP hD hS 2 3 rfl rfl (1) rfl (by decide) (by decide) rfl dX10_image_30 (fun f8 H locs ef8 hP hD hS => ?_)
  have hP : va_P g.1 vwCl [(h0, .inr (10, [h0_tape, .int h0_tapeLength, h0_reader, h0_draft, h0_told, h0_course, .ref no, h0_history, .ref bx, .ref bf, h0_lying, h0_outlook, h0_sightings, .int h0_time])), (bx, .inl (gO g, 3, .inr (.inr (.inr (.inr f_bx))))), (bf, .inl (gZ g, 3, .inl f8)), (b0, .inr (7, [.ref b0_or, .ref b0_re, .ref b0_ch, .ref b0_ho, .ref b0_gu, .int no_up, .int no_standing, .int 0, .int no_seed, .int no_firstTrue])), (b0_or, .inl (gI g, 5, .inl f3)), (b0_re, .inl (gI g, 5, .inl f4)), (b0_ch, .inl (gI g, 5, .inl f5)), (b0_ho, .inl (gI g, 5, .inl f6)), (b0_gu, .inl (gI g, 5, .inl f7)), (no, .inr (7, [.ref no_or, .ref no_re, .ref no_ch, .ref no_ho, .ref no_gu, .int no_up, .int no_standing, .int 0, .int no_seed, .int no_firstTrue])), (no_or, .inl (gI g, 5, .inl f_no_or)), (no_re, .inl (gI g, 5, .inl f_no_re)), (no_ch, .inl (gI g, 5, .inl f_no_ch)), (no_ho, .inl (gI g, 5, .inl f_no_ho)), (no_gu, .inl (gI g, 5, .inl f_no_gu))] H := hP
  have hD : va_D A [(h0, .inr (10, [h0_tape, .int h0_tapeLength, h0_reader, h0_draft, h0_told, h0_course, .ref no, h0_history, .ref bx, .ref bf, h0_lying, h0_outlook, h0_sightings, .int h0_time])), (bx, .inl (gO g, 3, .inr (.inr (.inr (.inr f_bx))))), (bf, .inl (gZ g, 3, .inl f8)), (b0, .inr (7, [.ref b0_or, .ref b0_re, .ref b0_ch, .ref b0_ho, .ref b0_gu, .int no_up, .int no_standing, .int 0, .int no_seed, .int no_firstTrue])), (b0_or, .inl (gI g, 5, .inl f3)), (b0_re, .inl (gI g, 5, .inl f4)), (b0_ch, .inl (gI g, 5, .inl f5)), (b0_ho, .inl (gI g, 5, .inl f6)), (b0_gu, .inl (gI g, 5, .inl f7)), (no, .inr (7, [.ref no_or, .ref no_re, .ref no_ch, .ref no_ho, .ref no_gu, .int no_up, .int no_standing, .int 0, .int no_seed, .int no_firstTrue])), (no_or, .inl (gI g, 5, .inl f_no_or)), (no_re, .inl (gI g, 5, .inl f_no_re)), (no_ch, .inl (gI g, 5, .inl f_no_ch)), (no_ho, .inl (gI g, 5, .inl f_no_ho)), (no_gu, .inl (gI g, 5, .inl f_no_gu))] := hD
  refine lv_aload_n hx hb dX10_image_31 rfl (lv_at hl 0 rfl) ?_
  refine va_get (D := g.1) (ci := 10) (v := Value.ref no) (C := RX10) (T := TX10) (N := 14) hx hb hts inlX10 hown hK hP 0 rfl rfl 6 (by decide) (hts _ q2_6) (fun _ h9 => h9) rfl dX10_image_32 ?_
  refine va_get (D := g.1) (ci := 7) (v := Value.int 0) (C := RX7) (T := TX7) (N := 10) hx hb hts inlX7 hown hK hP 9 rfl rfl 7 (by decide) (hts _ q45_4) (fun _ h9 => h9) rfl dX10_image_35 ?_
  have hP9 : va_P g.1 vwCl [] H := hP.sub [] rfl
  have hD9 : va_D A [] := hD.sub [] (by decide) rfl
  exact xi hx hb hr hlocks rfl hP9 hD9 hS ⟨rfl, rfl⟩ (Nat.le_of_ble_eq_true rfl) (Nat.le_of_ble_eq_true rfl) dX10_image_38

set_option maxHeartbeats 4000000 in
set_option maxRecDepth 100000 in
theorem c_X10_back_1 {l : Launch} {g : Gx} {h0 bf : Nat} {h0_tape : Value} {h0_tapeLength : Int32} {h0_reader : Value} {h0_draft : Value} {h0_told : Value} {h0_course : Value} {h0_now : Value} {h0_history : Value} {h0_boxes : Value} {h0_lying : Value} {h0_outlook : Value} {h0_sightings : Value} {h0_time : Int32} {f_bf : Nat → Int32} (h_f_bf_1 : f_bf 1 = 0) : MI l g yX10_back cX10_back 2 (some .int) 2 0 0 [.ref h0, .int 1] [(h0, .inr (10, [h0_tape, .int h0_tapeLength, h0_reader, h0_draft, h0_told, h0_course, h0_now, h0_history, h0_boxes, .ref bf, h0_lying, h0_outlook, h0_sightings, .int h0_time])), (bf, .inl (gZ g, 3, .inl f_bf))] (fun r W' => (-1) = r ∧ W' = []) := by
  refine MIof (by decide) (Nat.le_of_ble_eq_true rfl) ?_
  intro p e s m below meth c A ls H locs hcx hA hP hD hS hl
  obtain ⟨hx, hb, hml, hr, hlocks, hown, hts, hE, hnm⟩ := id hcx
  have hown : s.vm.findClass RX10 = some m.cls := hown
  have hK := hE.1
  have hl : lv_has ls 2 [(0, .ref h0), (1, .int 1)] := hl
  refine lv_iload_n hx hb dX10_back_0 rfl (lv_at hl 1 rfl) ?_
  refine lv_if_lt (tgt := 18) hx hb dX10_back_1 (by decide) (fun c1 => absurd c1 (by decide)) (fun _ => ?_)
  refine lv_iload_n hx hb dX10_back_4 rfl (lv_at hl 1 rfl) ?_
  refine lv_iconst (v := 3) hx hb dX10_back_5 (by decide) ?_
  refine lv_icmp_ge (tgt := 18) hx hb dX10_back_6 (by decide) (fun c2 => absurd c2 (by decide)) (fun _ => ?_)
  refine lv_aload_n hx hb dX10_back_9 rfl (lv_at hl 0 rfl) ?_
  refine va_get (D := g.1) (ci := 10) (v := Value.ref bf) (C := RX10) (T := TX10) (N := 14) hx hb hts inlX10 hown hK hP 0 rfl rfl 9 (by decide) (hts _ q2_13) (fun _ h9 => h9) rfl dX10_back_10 ?_
  refine lv_iload_n hx hb dX10_back_13 rfl (lv_at hl 1 rfl) ?_
  refine za_ld hx hb hK hP 1 3 rfl rfl (1) rfl (by decide) (by decide) dX10_back_14 ?_
  refine lv_tope (y := 0) h_f_bf_1 ?_
  refine lv_if_ne (tgt := 20) hx hb dX10_back_15 (by decide) (fun c3 => absurd (by decide) c3) (fun _ => ?_)
  refine lv_iconst (v := (-1)) hx hb dX10_back_18 (by decide) ?_
  have hP9 : va_P g.1 vwCl [] H := hP.sub [] rfl
  have hD9 : va_D A [] := hD.sub [] (by decide) rfl
  exact xi hx hb hr hlocks rfl hP9 hD9 hS ⟨rfl, rfl⟩ (Nat.le_of_ble_eq_true rfl) (Nat.le_of_ble_eq_true rfl) dX10_back_19

set_option maxHeartbeats 4000000 in
set_option maxRecDepth 100000 in
theorem c_X10_image_2 {l : Launch} {g : Gx} {h0 bx b0 b0_or b0_re b0_ch b0_ho b0_gu no no_or no_re no_ch no_ho no_gu bf : Nat} {h0_tape : Value} {h0_tapeLength : Int32} {h0_reader : Value} {h0_draft : Value} {h0_told : Value} {h0_course : Value} {h0_history : Value} {h0_lying : Value} {h0_outlook : Value} {h0_sightings : Value} {h0_time : Int32} {f_bx : Nat → Option Nat} {b0_up : Int32} {b0_standing : Int32} {b0_day : Int32} {b0_seed : Int32} {b0_firstTrue : Int32} {f_b0_or : Nat → Int32} {f_b0_re : Nat → Int32} {f_b0_ch : Nat → Int32} {f_b0_ho : Nat → Int32} {f_b0_gu : Nat → Int32} {no_up : Int32} {no_standing : Int32} {no_seed : Int32} {no_firstTrue : Int32} {f_no_or : Nat → Int32} {f_no_re : Nat → Int32} {f_no_ch : Nat → Int32} {f_no_ho : Nat → Int32} {f_no_gu : Nat → Int32} {f_bf : Nat → Int32} (h_f_bx_2 : f_bx 2 = some b0) : MI l g yX10_image cX10_image 2 (some .int) 3 0 0 [.ref h0, .int 2] [(h0, .inr (10, [h0_tape, .int h0_tapeLength, h0_reader, h0_draft, h0_told, h0_course, .ref no, h0_history, .ref bx, .ref bf, h0_lying, h0_outlook, h0_sightings, .int h0_time])), (bx, .inl (gO g, 3, .inr (.inr (.inr (.inr f_bx))))), (b0, .inr (7, [.ref b0_or, .ref b0_re, .ref b0_ch, .ref b0_ho, .ref b0_gu, .int b0_up, .int b0_standing, .int b0_day, .int b0_seed, .int b0_firstTrue])), (b0_or, .inl (gI g, 5, .inl f_b0_or)), (b0_re, .inl (gI g, 5, .inl f_b0_re)), (b0_ch, .inl (gI g, 5, .inl f_b0_ch)), (b0_ho, .inl (gI g, 5, .inl f_b0_ho)), (b0_gu, .inl (gI g, 5, .inl f_b0_gu)), (no, .inr (7, [.ref no_or, .ref no_re, .ref no_ch, .ref no_ho, .ref no_gu, .int no_up, .int no_standing, .int 0, .int no_seed, .int no_firstTrue])), (no_or, .inl (gI g, 5, .inl f_no_or)), (no_re, .inl (gI g, 5, .inl f_no_re)), (no_ch, .inl (gI g, 5, .inl f_no_ch)), (no_ho, .inl (gI g, 5, .inl f_no_ho)), (no_gu, .inl (gI g, 5, .inl f_no_gu)), (bf, .inl (gZ g, 3, .inl f_bf))] (fun r W' => 0 = r ∧ W' = []) := by
  refine MIof (by decide) (Nat.le_of_ble_eq_true rfl) ?_
  intro p e s m below meth c A ls H locs hcx hA hP hD hS hl
  obtain ⟨hx, hb, hml, hr, hlocks, hown, hts, hE, hnm⟩ := id hcx
  have hown : s.vm.findClass RX10 = some m.cls := hown
  have hK := hE.1
  have hl : lv_has ls 2 [(0, .ref h0), (1, .int 2)] := hl
  refine lv_iload_n hx hb dX10_image_0 rfl (lv_at hl 1 rfl) ?_
  refine lv_if_lt (tgt := 9) hx hb dX10_image_1 (by decide) (fun c1 => absurd c1 (by decide)) (fun _ => ?_)
  refine lv_iload_n hx hb dX10_image_4 rfl (lv_at hl 1 rfl) ?_
  refine lv_iconst (v := 3) hx hb dX10_image_5 (by decide) ?_
  refine lv_icmp_lt (tgt := 11) hx hb dX10_image_6 (by decide) (fun _ => ?_) (fun c2 => absurd (by decide) c2)
  refine lv_aload_n hx hb dX10_image_11 rfl (lv_at hl 0 rfl) ?_
  refine va_get (D := g.1) (ci := 10) (v := Value.ref bx) (C := RX10) (T := TX10) (N := 14) hx hb hts inlX10 hown hK hP 0 rfl rfl 8 (by decide) (hts _ q2_11) (fun _ h9 => h9) rfl dX10_image_12 ?_
  refine lv_iload_n hx hb dX10_image_15 rfl (lv_at hl 1 rfl) ?_
  refine oa_ld hx hb hK hP 1 4 rfl rfl 2 rfl (by decide) (by decide) h_f_bx_2 dX10_image_16 ?_
  refine lv_aload_n hx hb dX10_image_17 rfl (lv_at hl 0 rfl) ?_
  refine va_get (D := g.1) (ci := 10) (v := Value.ref no) (C := RX10) (T := TX10) (N := 14) hx hb hts inlX10 hown hK hP 0 rfl rfl 6 (by decide) (hts _ q2_6) (fun _ h9 => h9) rfl dX10_image_18 ?_
  refine kV (wc := [(b0, .inr (7, [.ref b0_or, .ref b0_re, .ref b0_ch, .ref b0_ho, .ref b0_gu, .int b0_up, .int b0_standing, .int b0_day, .int b0_seed, .int b0_firstTrue])), (b0_or, .inl (gI g, 5, .inl f_b0_or)), (b0_re, .inl (gI g, 5, .inl f_b0_re)), (b0_ch, .inl (gI g, 5, .inl f_b0_ch)), (b0_ho, .inl (gI g, 5, .inl f_b0_ho)), (b0_gu, .inl (gI g, 5, .inl f_b0_gu)), (no, .inr (7, [.ref no_or, .ref no_re, .ref no_ch, .ref no_ho, .ref no_gu, .int no_up, .int no_standing, .int 0, .int no_seed, .int no_firstTrue])), (no_or, .inl (gI g, 5, .inl f_no_or)), (no_re, .inl (gI g, 5, .inl f_no_re)), (no_ch, .inl (gI g, 5, .inl f_no_ch)), (no_ho, .inl (gI g, 5, .inl f_no_ho)), (no_gu, .inl (gI g, 5, .inl f_no_gu))]) (wr := [(h0, .inr (10, [h0_tape, .int h0_tapeLength, h0_reader, h0_draft, h0_told, h0_course, .ref no, h0_history, .ref bx, .ref bf, h0_lying, h0_outlook, h0_sightings, .int h0_time])), (bx, .inl (gO g, 3, .inr (.inr (.inr (.inr f_bx))))), (bf, .inl (gZ g, 3, .inl f_bf))]) (rV (As := [.ref no]) (rest := []) (meth2 := "") hcx (c_X7_copyFrom H.size) (gdV q66_16 q11_21 q11_22 q2_5 q11_23) dvX7_copyFrom ⟨Nat.le_of_ble_eq_true rfl, Nat.le_of_ble_eq_true rfl⟩ (hP.sub [2, 3, 4, 5, 6, 7, 8, 9, 10, 11, 12, 13] rfl) (hD.sub [2, 3, 4, 5, 6, 7, 8, 9, 10, 11, 12, 13] (by decide) rfl) (va_recv hK hP (ci := 7) (q0 := 2) rfl rfl) rfl hl.1 rfl (Nat.le_of_ble_eq_true rfl) dX10_image_21 ⟨Nat.le_of_ble_eq_true rfl, Nat.le_of_ble_eq_true rfl⟩) hP hD hS hA [2, 3, 4, 5, 6, 7, 8, 9, 10, 11, 12, 13] [0, 1, 14] rfl rfl (by decide) (by decide) (fun W' H locs hw hP hD hS => ?_)
  obtain ⟨f3, f4, f5, f6, f7, rfl⟩ := hw
  have hP : va_P g.1 vwCl [(h0, .inr (10, [h0_tape, .int h0_tapeLength, h0_reader, h0_draft, h0_told, h0_course, .ref no, h0_history, .ref bx, .ref bf, h0_lying, h0_outlook, h0_sightings, .int h0_time])), (bx, .inl (gO g, 3, .inr (.inr (.inr (.inr f_bx))))), (bf, .inl (gZ g, 3, .inl f_bf)), (b0, .inr (7, [.ref b0_or, .ref b0_re, .ref b0_ch, .ref b0_ho, .ref b0_gu, .int no_up, .int no_standing, .int 0, .int no_seed, .int no_firstTrue])), (b0_or, .inl (gI g, 5, .inl f3)), (b0_re, .inl (gI g, 5, .inl f4)), (b0_ch, .inl (gI g, 5, .inl f5)), (b0_ho, .inl (gI g, 5, .inl f6)), (b0_gu, .inl (gI g, 5, .inl f7)), (no, .inr (7, [.ref no_or, .ref no_re, .ref no_ch, .ref no_ho, .ref no_gu, .int no_up, .int no_standing, .int 0, .int no_seed, .int no_firstTrue])), (no_or, .inl (gI g, 5, .inl f_no_or)), (no_re, .inl (gI g, 5, .inl f_no_re)), (no_ch, .inl (gI g, 5, .inl f_no_ch)), (no_ho, .inl (gI g, 5, .inl f_no_ho)), (no_gu, .inl (gI g, 5, .inl f_no_gu))] H := hP
  have hD : va_D A [(h0, .inr (10, [h0_tape, .int h0_tapeLength, h0_reader, h0_draft, h0_told, h0_course, .ref no, h0_history, .ref bx, .ref bf, h0_lying, h0_outlook, h0_sightings, .int h0_time])), (bx, .inl (gO g, 3, .inr (.inr (.inr (.inr f_bx))))), (bf, .inl (gZ g, 3, .inl f_bf)), (b0, .inr (7, [.ref b0_or, .ref b0_re, .ref b0_ch, .ref b0_ho, .ref b0_gu, .int no_up, .int no_standing, .int 0, .int no_seed, .int no_firstTrue])), (b0_or, .inl (gI g, 5, .inl f3)), (b0_re, .inl (gI g, 5, .inl f4)), (b0_ch, .inl (gI g, 5, .inl f5)), (b0_ho, .inl (gI g, 5, .inl f6)), (b0_gu, .inl (gI g, 5, .inl f7)), (no, .inr (7, [.ref no_or, .ref no_re, .ref no_ch, .ref no_ho, .ref no_gu, .int no_up, .int no_standing, .int 0, .int no_seed, .int no_firstTrue])), (no_or, .inl (gI g, 5, .inl f_no_or)), (no_re, .inl (gI g, 5, .inl f_no_re)), (no_ch, .inl (gI g, 5, .inl f_no_ch)), (no_ho, .inl (gI g, 5, .inl f_no_ho)), (no_gu, .inl (gI g, 5, .inl f_no_gu))] := hD
  refine lv_aload_n hx hb dX10_image_24 rfl (lv_at hl 0 rfl) ?_
  refine va_get (D := g.1) (ci := 10) (v := Value.ref bf) (C := RX10) (T := TX10) (N := 14) hx hb hts inlX10 hown hK hP 0 rfl rfl 9 (by decide) (hts _ q2_13) (fun _ h9 => h9) rfl dX10_image_25 ?_
  refine lv_iload_n hx hb dX10_image_28 rfl (lv_at hl 1 rfl) ?_
  refine lv_iconst (v := 1) hx hb dX10_image_29 (by decide) ?_
  refine za_st hx hb hK hP hD hS 2 3 rfl rfl (2) rfl (by decide) (by decide) rfl dX10_image_30 (fun f8 H locs ef8 hP hD hS => ?_)
  have hP : va_P g.1 vwCl [(h0, .inr (10, [h0_tape, .int h0_tapeLength, h0_reader, h0_draft, h0_told, h0_course, .ref no, h0_history, .ref bx, .ref bf, h0_lying, h0_outlook, h0_sightings, .int h0_time])), (bx, .inl (gO g, 3, .inr (.inr (.inr (.inr f_bx))))), (bf, .inl (gZ g, 3, .inl f8)), (b0, .inr (7, [.ref b0_or, .ref b0_re, .ref b0_ch, .ref b0_ho, .ref b0_gu, .int no_up, .int no_standing, .int 0, .int no_seed, .int no_firstTrue])), (b0_or, .inl (gI g, 5, .inl f3)), (b0_re, .inl (gI g, 5, .inl f4)), (b0_ch, .inl (gI g, 5, .inl f5)), (b0_ho, .inl (gI g, 5, .inl f6)), (b0_gu, .inl (gI g, 5, .inl f7)), (no, .inr (7, [.ref no_or, .ref no_re, .ref no_ch, .ref no_ho, .ref no_gu, .int no_up, .int no_standing, .int 0, .int no_seed, .int no_firstTrue])), (no_or, .inl (gI g, 5, .inl f_no_or)), (no_re, .inl (gI g, 5, .inl f_no_re)), (no_ch, .inl (gI g, 5, .inl f_no_ch)), (no_ho, .inl (gI g, 5, .inl f_no_ho)), (no_gu, .inl (gI g, 5, .inl f_no_gu))] H := hP
  have hD : va_D A [(h0, .inr (10, [h0_tape, .int h0_tapeLength, h0_reader, h0_draft, h0_told, h0_course, .ref no, h0_history, .ref bx, .ref bf, h0_lying, h0_outlook, h0_sightings, .int h0_time])), (bx, .inl (gO g, 3, .inr (.inr (.inr (.inr f_bx))))), (bf, .inl (gZ g, 3, .inl f8)), (b0, .inr (7, [.ref b0_or, .ref b0_re, .ref b0_ch, .ref b0_ho, .ref b0_gu, .int no_up, .int no_standing, .int 0, .int no_seed, .int no_firstTrue])), (b0_or, .inl (gI g, 5, .inl f3)), (b0_re, .inl (gI g, 5, .inl f4)), (b0_ch, .inl (gI g, 5, .inl f5)), (b0_ho, .inl (gI g, 5, .inl f6)), (b0_gu, .inl (gI g, 5, .inl f7)), (no, .inr (7, [.ref no_or, .ref no_re, .ref no_ch, .ref no_ho, .ref no_gu, .int no_up, .int no_standing, .int 0, .int no_seed, .int no_firstTrue])), (no_or, .inl (gI g, 5, .inl f_no_or)), (no_re, .inl (gI g, 5, .inl f_no_re)), (no_ch, .inl (gI g, 5, .inl f_no_ch)), (no_ho, .inl (gI g, 5, .inl f_no_ho)), (no_gu, .inl (gI g, 5, .inl f_no_gu))] := hD
  refine lv_aload_n hx hb dX10_image_31 rfl (lv_at hl 0 rfl) ?_
  refine va_get (D := g.1) (ci := 10) (v := Value.ref no) (C := RX10) (T := TX10) (N := 14) hx hb hts inlX10 hown hK hP 0 rfl rfl 6 (by decide) (hts _ q2_6) (fun _ h9 => h9) rfl dX10_image_32 ?_
  refine va_get (D := g.1) (ci := 7) (v := Value.int 0) (C := RX7) (T := TX7) (N := 10) hx hb hts inlX7 hown hK hP 9 rfl rfl 7 (by decide) (hts _ q45_4) (fun _ h9 => h9) rfl dX10_image_35 ?_
  have hP9 : va_P g.1 vwCl [] H := hP.sub [] rfl
  have hD9 : va_D A [] := hD.sub [] (by decide) rfl
  exact xi hx hb hr hlocks rfl hP9 hD9 hS ⟨rfl, rfl⟩ (Nat.le_of_ble_eq_true rfl) (Nat.le_of_ble_eq_true rfl) dX10_image_38

set_option maxHeartbeats 4000000 in
set_option maxRecDepth 100000 in
theorem c_X10_back_2 {l : Launch} {g : Gx} {h0 bf : Nat} {h0_tape : Value} {h0_tapeLength : Int32} {h0_reader : Value} {h0_draft : Value} {h0_told : Value} {h0_course : Value} {h0_now : Value} {h0_history : Value} {h0_boxes : Value} {h0_lying : Value} {h0_outlook : Value} {h0_sightings : Value} {h0_time : Int32} {f_bf : Nat → Int32} (h_f_bf_2 : f_bf 2 = 0) : MI l g yX10_back cX10_back 2 (some .int) 2 0 0 [.ref h0, .int 2] [(h0, .inr (10, [h0_tape, .int h0_tapeLength, h0_reader, h0_draft, h0_told, h0_course, h0_now, h0_history, h0_boxes, .ref bf, h0_lying, h0_outlook, h0_sightings, .int h0_time])), (bf, .inl (gZ g, 3, .inl f_bf))] (fun r W' => (-1) = r ∧ W' = []) := by
  refine MIof (by decide) (Nat.le_of_ble_eq_true rfl) ?_
  intro p e s m below meth c A ls H locs hcx hA hP hD hS hl
  obtain ⟨hx, hb, hml, hr, hlocks, hown, hts, hE, hnm⟩ := id hcx
  have hown : s.vm.findClass RX10 = some m.cls := hown
  have hK := hE.1
  have hl : lv_has ls 2 [(0, .ref h0), (1, .int 2)] := hl
  refine lv_iload_n hx hb dX10_back_0 rfl (lv_at hl 1 rfl) ?_
  refine lv_if_lt (tgt := 18) hx hb dX10_back_1 (by decide) (fun c1 => absurd c1 (by decide)) (fun _ => ?_)
  refine lv_iload_n hx hb dX10_back_4 rfl (lv_at hl 1 rfl) ?_
  refine lv_iconst (v := 3) hx hb dX10_back_5 (by decide) ?_
  refine lv_icmp_ge (tgt := 18) hx hb dX10_back_6 (by decide) (fun c2 => absurd c2 (by decide)) (fun _ => ?_)
  refine lv_aload_n hx hb dX10_back_9 rfl (lv_at hl 0 rfl) ?_
  refine va_get (D := g.1) (ci := 10) (v := Value.ref bf) (C := RX10) (T := TX10) (N := 14) hx hb hts inlX10 hown hK hP 0 rfl rfl 9 (by decide) (hts _ q2_13) (fun _ h9 => h9) rfl dX10_back_10 ?_
  refine lv_iload_n hx hb dX10_back_13 rfl (lv_at hl 1 rfl) ?_
  refine za_ld hx hb hK hP 1 3 rfl rfl (2) rfl (by decide) (by decide) dX10_back_14 ?_
  refine lv_tope (y := 0) h_f_bf_2 ?_
  refine lv_if_ne (tgt := 20) hx hb dX10_back_15 (by decide) (fun c3 => absurd (by decide) c3) (fun _ => ?_)
  refine lv_iconst (v := (-1)) hx hb dX10_back_18 (by decide) ?_
  have hP9 : va_P g.1 vwCl [] H := hP.sub [] rfl
  have hD9 : va_D A [] := hD.sub [] (by decide) rfl
  exact xi hx hb hr hlocks rfl hP9 hD9 hS ⟨rfl, rfl⟩ (Nat.le_of_ble_eq_true rfl) (Nat.le_of_ble_eq_true rfl) dX10_back_19

set_option maxHeartbeats 4000000 in
set_option maxRecDepth 100000 in
theorem c_X10_image_out {l : Launch} {g : Gx} {h0 : Nat} {p0 : Int32} {h0_tape : Value} {h0_tapeLength : Int32} {h0_reader : Value} {h0_draft : Value} {h0_told : Value} {h0_course : Value} {h0_now : Value} {h0_history : Value} {h0_boxes : Value} {h0_boxFilled : Value} {h0_lying : Value} {h0_outlook : Value} {h0_sightings : Value} {h0_time : Int32} (ho : ¬ p0 = 0 ∧ ¬ p0 = 1 ∧ ¬ p0 = 2) : MI l g yX10_image cX10_image 2 (some .int) 2 0 0 [.ref h0, .int p0] [(h0, .inr (10, [h0_tape, .int h0_tapeLength, h0_reader, h0_draft, h0_told, h0_course, h0_now, h0_history, h0_boxes, h0_boxFilled, h0_lying, h0_outlook, h0_sightings, .int h0_time]))] (fun r W' => (-1) = r ∧ W' = []) := by
  refine MIof (by decide) (Nat.le_of_ble_eq_true rfl) ?_
  intro p e s m below meth c A ls H locs hcx hA hP hD hS hl
  obtain ⟨hx, hb, hml, hr, hlocks, hown, hts, hE, hnm⟩ := id hcx
  have hown : s.vm.findClass RX10 = some m.cls := hown
  have hK := hE.1
  have hl : lv_has ls 2 [(0, .ref h0), (1, .int p0)] := hl
  refine lv_iload_n hx hb dX10_image_0 rfl (lv_at hl 1 rfl) ?_
  refine lv_if_lt (tgt := 9) hx hb dX10_image_1 (by decide) (fun c1 => ?_) (fun c1 => ?_)
  · refine lv_iconst (v := (-1)) hx hb dX10_image_9 (by decide) ?_
    have hP9 : va_P g.1 vwCl [] H := hP.sub [] rfl
    have hD9 : va_D A [] := hD.sub [] (by decide) rfl
    exact xi hx hb hr hlocks rfl hP9 hD9 hS ⟨rfl, rfl⟩ (Nat.le_of_ble_eq_true rfl) (Nat.le_of_ble_eq_true rfl) dX10_image_10
  · refine lv_iload_n hx hb dX10_image_4 rfl (lv_at hl 1 rfl) ?_
    refine lv_iconst (v := 3) hx hb dX10_image_5 (by decide) ?_
    refine lv_icmp_lt (tgt := 11) hx hb dX10_image_6 (by decide) (fun c2 => absurd c2 (i_out3 ho c1)) (fun _ => ?_)
    refine lv_iconst (v := (-1)) hx hb dX10_image_9 (by decide) ?_
    have hP9 : va_P g.1 vwCl [] H := hP.sub [] rfl
    have hD9 : va_D A [] := hD.sub [] (by decide) rfl
    exact xi hx hb hr hlocks rfl hP9 hD9 hS ⟨rfl, rfl⟩ (Nat.le_of_ble_eq_true rfl) (Nat.le_of_ble_eq_true rfl) dX10_image_10

set_option maxHeartbeats 4000000 in
set_option maxRecDepth 100000 in
theorem c_X10_back_out {l : Launch} {g : Gx} {h0 : Nat} {p0 : Int32} {h0_tape : Value} {h0_tapeLength : Int32} {h0_reader : Value} {h0_draft : Value} {h0_told : Value} {h0_course : Value} {h0_now : Value} {h0_history : Value} {h0_boxes : Value} {h0_boxFilled : Value} {h0_lying : Value} {h0_outlook : Value} {h0_sightings : Value} {h0_time : Int32} (ho : ¬ p0 = 0 ∧ ¬ p0 = 1 ∧ ¬ p0 = 2) : MI l g yX10_back cX10_back 2 (some .int) 2 0 0 [.ref h0, .int p0] [(h0, .inr (10, [h0_tape, .int h0_tapeLength, h0_reader, h0_draft, h0_told, h0_course, h0_now, h0_history, h0_boxes, h0_boxFilled, h0_lying, h0_outlook, h0_sightings, .int h0_time]))] (fun r W' => (-1) = r ∧ W' = []) := by
  refine MIof (by decide) (Nat.le_of_ble_eq_true rfl) ?_
  intro p e s m below meth c A ls H locs hcx hA hP hD hS hl
  obtain ⟨hx, hb, hml, hr, hlocks, hown, hts, hE, hnm⟩ := id hcx
  have hown : s.vm.findClass RX10 = some m.cls := hown
  have hK := hE.1
  have hl : lv_has ls 2 [(0, .ref h0), (1, .int p0)] := hl
  refine lv_iload_n hx hb dX10_back_0 rfl (lv_at hl 1 rfl) ?_
  refine lv_if_lt (tgt := 18) hx hb dX10_back_1 (by decide) (fun c1 => ?_) (fun c1 => ?_)
  · refine lv_iconst (v := (-1)) hx hb dX10_back_18 (by decide) ?_
    have hP9 : va_P g.1 vwCl [] H := hP.sub [] rfl
    have hD9 : va_D A [] := hD.sub [] (by decide) rfl
    exact xi hx hb hr hlocks rfl hP9 hD9 hS ⟨rfl, rfl⟩ (Nat.le_of_ble_eq_true rfl) (Nat.le_of_ble_eq_true rfl) dX10_back_19
  · refine lv_iload_n hx hb dX10_back_4 rfl (lv_at hl 1 rfl) ?_
    refine lv_iconst (v := 3) hx hb dX10_back_5 (by decide) ?_
    refine lv_icmp_ge (tgt := 18) hx hb dX10_back_6 (by decide) (fun _ => ?_) (fun c2 => absurd (Int32.not_lt.mp (i_out3 ho c1)) c2)
    refine lv_iconst (v := (-1)) hx hb dX10_back_18 (by decide) ?_
    have hP9 : va_P g.1 vwCl [] H := hP.sub [] rfl
    have hD9 : va_D A [] := hD.sub [] (by decide) rfl
    exact xi hx hb hr hlocks rfl hP9 hD9 hS ⟨rfl, rfl⟩ (Nat.le_of_ble_eq_true rfl) (Nat.le_of_ble_eq_true rfl) dX10_back_19

set_option maxHeartbeats 4000000 in
set_option maxRecDepth 100000 in
theorem c_X9_units {l : Launch} {g : Gx} {h0 fp fh : Nat} {h0_corners : Int32} {h0_gustyCorners : Int32} {h0_guilds : Int32} {h0_draw : Int32} {h0_drawTold : Int32} {h0_cornerNames : Value} {h0_winds : Value} {h0_lees : Value} {h0_gustChances : Value} {h0_gusts : Value} {h0_guildNames : Value} {h0_cloths : Value} {h0_trues : Value} {h0_strengths : Value} {h0_reefs : Value} {fp_operations : Value} {fp_numbers : Value} {fp_stack : Value} {fp_length : Int32} {fp_isTold : Int32} {fh_operations : Value} {fh_numbers : Value} {fh_stack : Value} {fh_length : Int32} {fh_isTold : Int32} : MI l g yX9_units cX9_units 1 (some .int) 2 0 0 [.ref h0] [(h0, .inr (9, [.int h0_corners, .int h0_gustyCorners, .int h0_guilds, .int h0_draw, .int h0_drawTold, h0_cornerNames, h0_winds, h0_lees, h0_gustChances, h0_gusts, h0_guildNames, h0_cloths, h0_trues, h0_strengths, h0_reefs, .ref fp, .ref fh])), (fp, .inr (1, [fp_operations, fp_numbers, fp_stack, .int fp_length, .int fp_isTold, .int 0])), (fh, .inr (1, [fh_operations, fh_numbers, fh_stack, .int fh_length, .int fh_isTold, .int 0]))] (fun r W' => 0 = r ∧ W' = [(h0, .inr (9, [.int h0_corners, .int h0_gustyCorners, .int h0_guilds, .int h0_draw, .int h0_drawTold, h0_cornerNames, h0_winds, h0_lees, h0_gustChances, h0_gusts, h0_guildNames, h0_cloths, h0_trues, h0_strengths, h0_reefs, .ref fp, .ref fh])), (fp, .inr (1, [fp_operations, fp_numbers, fp_stack, .int fp_length, .int fp_isTold, .int 0])), (fh, .inr (1, [fh_operations, fh_numbers, fh_stack, .int fh_length, .int fh_isTold, .int 0]))]) := by
  refine MIof (by decide) (Nat.le_of_ble_eq_true rfl) ?_
  intro p e s m below meth c A ls H locs hcx hA hP hD hS hl
  obtain ⟨hx, hb, hml, hr, hlocks, hown, hts, hE, hnm⟩ := id hcx
  have hown : s.vm.findClass RX9 = some m.cls := hown
  have hK := hE.1
  have hl : lv_has ls 1 [(0, .ref h0)] := hl
  refine lv_aload_n hx hb dX9_units_0 rfl (lv_at hl 0 rfl) ?_
  refine va_get (D := g.1) (ci := 9) (v := Value.ref fp) (C := RX9) (T := TX9) (N := 17) hx hb hts inlX9 hown hK hP 0 rfl rfl 15 (by decide) (hts _ q6_15) (fun _ h9 => h9) rfl dX9_units_1 ?_
  refine va_get (D := g.1) (ci := 1) (v := Value.int 0) (C := RX1) (T := TX1) (N := 6) hx hb hts inlX1 hown hK hP 1 rfl rfl 5 (by decide) (hts _ q67_18) (fun _ h9 => h9) rfl dX9_units_4 ?_
  refine lv_aload_n hx hb dX9_units_7 rfl (lv_at hl 0 rfl) ?_
  refine va_get (D := g.1) (ci := 9) (v := Value.ref fh) (C := RX9) (T := TX9) (N := 17) hx hb hts inlX9 hown hK hP 0 rfl rfl 16 (by decide) (hts _ q6_16) (fun _ h9 => h9) rfl dX9_units_8 ?_
  refine va_get (D := g.1) (ci := 1) (v := Value.int 0) (C := RX1) (T := TX1) (N := 6) hx hb hts inlX1 hown hK hP 2 rfl rfl 5 (by decide) (hts _ q67_18) (fun _ h9 => h9) rfl dX9_units_11 ?_
  refine lv_iadd hx hb dX9_units_14 ?_
  refine lv_tope (y := 0) (by decide) ?_
  exact xi hx hb hr hlocks rfl hP hD hS ⟨rfl, rfl⟩ (Nat.le_of_ble_eq_true rfl) (Nat.le_of_ble_eq_true rfl) dX9_units_15

set_option maxHeartbeats 4000000 in
set_option maxRecDepth 100000 in
theorem c_X10_about {l : Launch} {g : Gx} {h0 to fp fh no hi si ly : Nat} {p0 : Int32} {h0_tape : Value} {h0_reader : Value} {h0_draft : Value} {h0_course : Value} {h0_boxes : Value} {h0_boxFilled : Value} {h0_outlook : Value} {to_gustyCorners : Int32} {to_draw : Int32} {to_drawTold : Int32} {to_cornerNames : Value} {to_winds : Value} {to_lees : Value} {to_gustChances : Value} {to_gusts : Value} {to_guildNames : Value} {to_cloths : Value} {to_trues : Value} {to_strengths : Value} {to_reefs : Value} {fp_operations : Value} {fp_numbers : Value} {fp_stack : Value} {fp_length : Int32} {fp_isTold : Int32} {fh_operations : Value} {fh_numbers : Value} {fh_stack : Value} {fh_length : Int32} {fh_isTold : Int32} {no_order : Value} {no_reefs : Value} {no_children : Value} {no_hosts : Value} {no_guests : Value} {no_firstTrue : Int32} {hi_states : Value} {hi_oldest : Int32} {si_course : Value} {si_trial : Value} {si_corners : Value} {si_guilds : Value} {si_wasUp : Value} {si_toldAt : Value} {si_untoldAt : Value} {si_untold : Value} {si_upBehind : Value} {si_fitting : Value} {si_groups : Value} {si_isWalked : Int32} {ly_numbers : Value} : MI l g yX10_about cX10_about 2 (some .int) 3 0 0 [.ref h0, .int p0] [(h0, .inr (10, [h0_tape, .int 0, h0_reader, h0_draft, .ref to, h0_course, .ref no, .ref hi, h0_boxes, h0_boxFilled, .ref ly, h0_outlook, .ref si, .int 0])), (to, .inr (9, [.int 0, .int to_gustyCorners, .int 0, .int to_draw, .int to_drawTold, to_cornerNames, to_winds, to_lees, to_gustChances, to_gusts, to_guildNames, to_cloths, to_trues, to_strengths, to_reefs, .ref fp, .ref fh])), (fp, .inr (1, [fp_operations, fp_numbers, fp_stack, .int fp_length, .int fp_isTold, .int 0])), (fh, .inr (1, [fh_operations, fh_numbers, fh_stack, .int fh_length, .int fh_isTold, .int 0])), (no, .inr (7, [no_order, no_reefs, no_children, no_hosts, no_guests, .int 0, .int 0, .int 0, .int 0, .int no_firstTrue])), (hi, .inr (2, [hi_states, .int hi_oldest, .int 0, .int 0])), (si, .inr (6, [si_course, si_trial, si_corners, si_guilds, si_wasUp, si_toldAt, si_untoldAt, si_untold, si_upBehind, si_fitting, si_groups, .int si_isWalked, .int 0])), (ly, .inr (3, [ly_numbers, .int 0]))] (fun r W' => r = sp_about p0 ∧ W' = []) := by
  refine MIof (by decide) (Nat.le_of_ble_eq_true rfl) ?_
  intro p e s m below meth c A ls H locs hcx hA hP hD hS hl
  obtain ⟨hx, hb, hml, hr, hlocks, hown, hts, hE, hnm⟩ := id hcx
  have hown : s.vm.findClass RX10 = some m.cls := hown
  have hK := hE.1
  have hl : lv_has ls 2 [(0, .ref h0), (1, .int p0)] := hl
  refine lv_iload_n hx hb dX10_about_0 rfl (lv_at hl 1 rfl) ?_
  by_cases c1 : p0 = 0
  · refine lv_tableIn (off := 67) (tgt := 68) hx hb dX10_about_1 (by rw [c1]; decide) (by rw [c1]; decide) (by rw [c1]; decide) (by decide) ?_
    refine lv_aload_n hx hb dX10_about_68 rfl (lv_at hl 0 rfl) ?_
    refine va_get (D := g.1) (ci := 10) (v := Value.ref to) (C := RX10) (T := TX10) (N := 14) hx hb hts inlX10 hown hK hP 0 rfl rfl 4 (by decide) (hts _ q1_22) (fun _ h9 => h9) rfl dX10_about_69 ?_
    refine va_get (D := g.1) (ci := 9) (v := Value.int 0) (C := RX9) (T := TX9) (N := 17) hx hb hts inlX9 hown hK hP 1 rfl rfl 2 (by decide) (hts _ q16_12) (fun _ h9 => h9) rfl dX10_about_72 ?_
    have hP9 : va_P g.1 vwCl [] H := hP.sub [] rfl
    have hD9 : va_D A [] := hD.sub [] (by decide) rfl
    exact xi hx hb hr hlocks rfl hP9 hD9 hS ⟨(by simp [sp_about, c1]), rfl⟩ (Nat.le_of_ble_eq_true rfl) (Nat.le_of_ble_eq_true rfl) dX10_about_75
  by_cases c2 : p0 = 1
  · refine lv_tableIn (off := 75) (tgt := 76) hx hb dX10_about_1 (by rw [c2]; decide) (by rw [c2]; decide) (by rw [c2]; decide) (by decide) ?_
    refine lv_aload_n hx hb dX10_about_76 rfl (lv_at hl 0 rfl) ?_
    refine va_get (D := g.1) (ci := 10) (v := Value.ref to) (C := RX10) (T := TX10) (N := 14) hx hb hts inlX10 hown hK hP 0 rfl rfl 4 (by decide) (hts _ q1_22) (fun _ h9 => h9) rfl dX10_about_77 ?_
    refine va_get (D := g.1) (ci := 9) (v := Value.int 0) (C := RX9) (T := TX9) (N := 17) hx hb hts inlX9 hown hK hP 1 rfl rfl 0 (by decide) (hts _ q36_8) (fun _ h9 => h9) rfl dX10_about_80 ?_
    have hP9 : va_P g.1 vwCl [] H := hP.sub [] rfl
    have hD9 : va_D A [] := hD.sub [] (by decide) rfl
    exact xi hx hb hr hlocks rfl hP9 hD9 hS ⟨(by simp [sp_about, c2]), rfl⟩ (Nat.le_of_ble_eq_true rfl) (Nat.le_of_ble_eq_true rfl) dX10_about_83
  by_cases c3 : p0 = 2
  · refine lv_tableIn (off := 83) (tgt := 84) hx hb dX10_about_1 (by rw [c3]; decide) (by rw [c3]; decide) (by rw [c3]; decide) (by decide) ?_
    refine lv_aload_n hx hb dX10_about_84 rfl (lv_at hl 0 rfl) ?_
    refine va_get (D := g.1) (ci := 10) (v := Value.ref no) (C := RX10) (T := TX10) (N := 14) hx hb hts inlX10 hown hK hP 0 rfl rfl 6 (by decide) (hts _ q2_6) (fun _ h9 => h9) rfl dX10_about_85 ?_
    refine va_get (D := g.1) (ci := 7) (v := Value.int 0) (C := RX7) (T := TX7) (N := 10) hx hb hts inlX7 hown hK hP 4 rfl rfl 5 (by decide) (hts _ q45_5) (fun _ h9 => h9) rfl dX10_about_88 ?_
    have hP9 : va_P g.1 vwCl [] H := hP.sub [] rfl
    have hD9 : va_D A [] := hD.sub [] (by decide) rfl
    exact xi hx hb hr hlocks rfl hP9 hD9 hS ⟨(by simp [sp_about, c3]), rfl⟩ (Nat.le_of_ble_eq_true rfl) (Nat.le_of_ble_eq_true rfl) dX10_about_91
  by_cases c4 : p0 = 3
  · refine lv_tableIn (off := 91) (tgt := 92) hx hb dX10_about_1 (by rw [c4]; decide) (by rw [c4]; decide) (by rw [c4]; decide) (by decide) ?_
    refine lv_aload_n hx hb dX10_about_92 rfl (lv_at hl 0 rfl) ?_
    refine va_get (D := g.1) (ci := 10) (v := Value.ref no) (C := RX10) (T := TX10) (N := 14) hx hb hts inlX10 hown hK hP 0 rfl rfl 6 (by decide) (hts _ q2_6) (fun _ h9 => h9) rfl dX10_about_93 ?_
    refine va_get (D := g.1) (ci := 7) (v := Value.int 0) (C := RX7) (T := TX7) (N := 10) hx hb hts inlX7 hown hK hP 4 rfl rfl 6 (by decide) (hts _ q45_6) (fun _ h9 => h9) rfl dX10_about_96 ?_
    have hP9 : va_P g.1 vwCl [] H := hP.sub [] rfl
    have hD9 : va_D A [] := hD.sub [] (by decide) rfl
    exact xi hx hb hr hlocks rfl hP9 hD9 hS ⟨(by simp [sp_about, c4]), rfl⟩ (Nat.le_of_ble_eq_true rfl) (Nat.le_of_ble_eq_true rfl) dX10_about_99
  by_cases c5 : p0 = 4
  · refine lv_tableIn (off := 99) (tgt := 100) hx hb dX10_about_1 (by rw [c5]; decide) (by rw [c5]; decide) (by rw [c5]; decide) (by decide) ?_
    refine lv_aload_n hx hb dX10_about_100 rfl (lv_at hl 0 rfl) ?_
    refine va_get (D := g.1) (ci := 10) (v := Value.ref no) (C := RX10) (T := TX10) (N := 14) hx hb hts inlX10 hown hK hP 0 rfl rfl 6 (by decide) (hts _ q2_6) (fun _ h9 => h9) rfl dX10_about_101 ?_
    refine va_get (D := g.1) (ci := 7) (v := Value.int 0) (C := RX7) (T := TX7) (N := 10) hx hb hts inlX7 hown hK hP 4 rfl rfl 7 (by decide) (hts _ q45_4) (fun _ h9 => h9) rfl dX10_about_104 ?_
    have hP9 : va_P g.1 vwCl [] H := hP.sub [] rfl
    have hD9 : va_D A [] := hD.sub [] (by decide) rfl
    exact xi hx hb hr hlocks rfl hP9 hD9 hS ⟨(by simp [sp_about, c5]), rfl⟩ (Nat.le_of_ble_eq_true rfl) (Nat.le_of_ble_eq_true rfl) dX10_about_107
  by_cases c6 : p0 = 5
  · refine lv_tableIn (off := 107) (tgt := 108) hx hb dX10_about_1 (by rw [c6]; decide) (by rw [c6]; decide) (by rw [c6]; decide) (by decide) ?_
    refine lv_aload_n hx hb dX10_about_108 rfl (lv_at hl 0 rfl) ?_
    refine va_get (D := g.1) (ci := 10) (v := Value.ref no) (C := RX10) (T := TX10) (N := 14) hx hb hts inlX10 hown hK hP 0 rfl rfl 6 (by decide) (hts _ q2_6) (fun _ h9 => h9) rfl dX10_about_109 ?_
    refine va_get (D := g.1) (ci := 7) (v := Value.int 0) (C := RX7) (T := TX7) (N := 10) hx hb hts inlX7 hown hK hP 4 rfl rfl 8 (by decide) (hts _ q67_9) (fun _ h9 => h9) rfl dX10_about_112 ?_
    have hP9 : va_P g.1 vwCl [] H := hP.sub [] rfl
    have hD9 : va_D A [] := hD.sub [] (by decide) rfl
    exact xi hx hb hr hlocks rfl hP9 hD9 hS ⟨(by simp [sp_about, c6]), rfl⟩ (Nat.le_of_ble_eq_true rfl) (Nat.le_of_ble_eq_true rfl) dX10_about_115
  by_cases c7 : p0 = 6
  · refine lv_tableIn (off := 115) (tgt := 116) hx hb dX10_about_1 (by rw [c7]; decide) (by rw [c7]; decide) (by rw [c7]; decide) (by decide) ?_
    refine lv_aload_n hx hb dX10_about_116 rfl (lv_at hl 0 rfl) ?_
    refine va_get (D := g.1) (ci := 10) (v := Value.ref hi) (C := RX10) (T := TX10) (N := 14) hx hb hts inlX10 hown hK hP 0 rfl rfl 7 (by decide) (hts _ q2_10) (fun _ h9 => h9) rfl dX10_about_117 ?_
    refine va_get (D := g.1) (ci := 2) (v := Value.int 0) (C := RX2) (T := TX2) (N := 4) hx hb hts inlX2 hown hK hP 5 rfl rfl 2 (by decide) (hts _ q67_10) (fun _ h9 => h9) rfl dX10_about_120 ?_
    have hP9 : va_P g.1 vwCl [] H := hP.sub [] rfl
    have hD9 : va_D A [] := hD.sub [] (by decide) rfl
    exact xi hx hb hr hlocks rfl hP9 hD9 hS ⟨(by simp [sp_about, c7]), rfl⟩ (Nat.le_of_ble_eq_true rfl) (Nat.le_of_ble_eq_true rfl) dX10_about_123
  by_cases c8 : p0 = 7
  · refine lv_tableIn (off := 123) (tgt := 124) hx hb dX10_about_1 (by rw [c8]; decide) (by rw [c8]; decide) (by rw [c8]; decide) (by decide) ?_
    refine lv_aload_n hx hb dX10_about_124 rfl (lv_at hl 0 rfl) ?_
    refine va_get (D := g.1) (ci := 10) (v := Value.ref hi) (C := RX10) (T := TX10) (N := 14) hx hb hts inlX10 hown hK hP 0 rfl rfl 7 (by decide) (hts _ q2_10) (fun _ h9 => h9) rfl dX10_about_125 ?_
    refine va_get (D := g.1) (ci := 2) (v := Value.int 0) (C := RX2) (T := TX2) (N := 4) hx hb hts inlX2 hown hK hP 5 rfl rfl 3 (by decide) (hts _ q67_11) (fun _ h9 => h9) rfl dX10_about_128 ?_
    have hP9 : va_P g.1 vwCl [] H := hP.sub [] rfl
    have hD9 : va_D A [] := hD.sub [] (by decide) rfl
    exact xi hx hb hr hlocks rfl hP9 hD9 hS ⟨(by simp [sp_about, c8]), rfl⟩ (Nat.le_of_ble_eq_true rfl) (Nat.le_of_ble_eq_true rfl) dX10_about_131
  by_cases c9 : p0 = 8
  · refine lv_tableIn (off := 131) (tgt := 132) hx hb dX10_about_1 (by rw [c9]; decide) (by rw [c9]; decide) (by rw [c9]; decide) (by decide) ?_
    refine lv_aload_n hx hb dX10_about_132 rfl (lv_at hl 0 rfl) ?_
    refine va_get (D := g.1) (ci := 10) (v := Value.ref si) (C := RX10) (T := TX10) (N := 14) hx hb hts inlX10 hown hK hP 0 rfl rfl 12 (by decide) (hts _ q3_1) (fun _ h9 => h9) rfl dX10_about_133 ?_
    refine va_get (D := g.1) (ci := 6) (v := Value.int 0) (C := RX6) (T := TX6) (N := 13) hx hb hts inlX6 hown hK hP 6 rfl rfl 12 (by decide) (hts _ q67_12) (fun _ h9 => h9) rfl dX10_about_136 ?_
    have hP9 : va_P g.1 vwCl [] H := hP.sub [] rfl
    have hD9 : va_D A [] := hD.sub [] (by decide) rfl
    exact xi hx hb hr hlocks rfl hP9 hD9 hS ⟨(by simp [sp_about, c9]), rfl⟩ (Nat.le_of_ble_eq_true rfl) (Nat.le_of_ble_eq_true rfl) dX10_about_139
  by_cases c10 : p0 = 9
  · refine lv_tableIn (off := 139) (tgt := 140) hx hb dX10_about_1 (by rw [c10]; decide) (by rw [c10]; decide) (by rw [c10]; decide) (by decide) ?_
    refine lv_aload_n hx hb dX10_about_140 rfl (lv_at hl 0 rfl) ?_
    refine va_get (D := g.1) (ci := 10) (v := Value.int 0) (C := RX10) (T := TX10) (N := 14) hx hb hts inlX10 hown hK hP 0 rfl rfl 13 (by decide) (hts _ q61_22) (fun _ h9 => h9) rfl dX10_about_141 ?_
    have hP9 : va_P g.1 vwCl [] H := hP.sub [] rfl
    have hD9 : va_D A [] := hD.sub [] (by decide) rfl
    exact xi hx hb hr hlocks rfl hP9 hD9 hS ⟨(by simp [sp_about, c10]), rfl⟩ (Nat.le_of_ble_eq_true rfl) (Nat.le_of_ble_eq_true rfl) dX10_about_144
  by_cases c11 : p0 = 10
  · refine lv_tableIn (off := 144) (tgt := 145) hx hb dX10_about_1 (by rw [c11]; decide) (by rw [c11]; decide) (by rw [c11]; decide) (by decide) ?_
    refine lv_aload_n hx hb dX10_about_145 rfl (lv_at hl 0 rfl) ?_
    refine va_get (D := g.1) (ci := 10) (v := Value.int 0) (C := RX10) (T := TX10) (N := 14) hx hb hts inlX10 hown hK hP 0 rfl rfl 1 (by decide) (hts _ q15_14) (fun _ h9 => h9) rfl dX10_about_146 ?_
    have hP9 : va_P g.1 vwCl [] H := hP.sub [] rfl
    have hD9 : va_D A [] := hD.sub [] (by decide) rfl
    exact xi hx hb hr hlocks rfl hP9 hD9 hS ⟨(by simp [sp_about, c11]), rfl⟩ (Nat.le_of_ble_eq_true rfl) (Nat.le_of_ble_eq_true rfl) dX10_about_149
  by_cases c12 : p0 = 11
  · refine lv_tableIn (off := 149) (tgt := 150) hx hb dX10_about_1 (by rw [c12]; decide) (by rw [c12]; decide) (by rw [c12]; decide) (by decide) ?_
    refine lv_aload_n hx hb dX10_about_150 rfl (lv_at hl 0 rfl) ?_
    refine va_get (D := g.1) (ci := 10) (v := Value.ref to) (C := RX10) (T := TX10) (N := 14) hx hb hts inlX10 hown hK hP 0 rfl rfl 4 (by decide) (hts _ q1_22) (fun _ h9 => h9) rfl dX10_about_151 ?_
    refine kI (wc := [(to, .inr (9, [.int 0, .int to_gustyCorners, .int 0, .int to_draw, .int to_drawTold, to_cornerNames, to_winds, to_lees, to_gustChances, to_gusts, to_guildNames, to_cloths, to_trues, to_strengths, to_reefs, .ref fp, .ref fh])), (fp, .inr (1, [fp_operations, fp_numbers, fp_stack, .int fp_length, .int fp_isTold, .int 0])), (fh, .inr (1, [fh_operations, fh_numbers, fh_stack, .int fh_length, .int fh_isTold, .int 0]))]) (wr := [(h0, .inr (10, [h0_tape, .int 0, h0_reader, h0_draft, .ref to, h0_course, .ref no, .ref hi, h0_boxes, h0_boxFilled, .ref ly, h0_outlook, .ref si, .int 0])), (no, .inr (7, [no_order, no_reefs, no_children, no_hosts, no_guests, .int 0, .int 0, .int 0, .int 0, .int no_firstTrue])), (hi, .inr (2, [hi_states, .int hi_oldest, .int 0, .int 0])), (si, .inr (6, [si_course, si_trial, si_corners, si_guilds, si_wasUp, si_toldAt, si_untoldAt, si_untold, si_upBehind, si_fitting, si_groups, .int si_isWalked, .int 0])), (ly, .inr (3, [ly_numbers, .int 0]))]) (rV (As := []) (rest := []) (meth2 := "") hcx (c_X9_units H.size) (gdV q67_14 q67_15 q67_16 q1_20 q67_17) dvX9_units ⟨Nat.le_of_ble_eq_true rfl, Nat.le_of_ble_eq_true rfl⟩ (hP.sub [1, 2, 3] rfl) (hD.sub [1, 2, 3] (by decide) rfl) (va_recv hK hP (ci := 9) (q0 := 1) rfl rfl) rfl hl.1 rfl (Nat.le_of_ble_eq_true rfl) dX10_about_154 ⟨Nat.le_of_ble_eq_true rfl, Nat.le_of_ble_eq_true rfl⟩) hP hD hS hA [1, 2, 3] [0, 4, 5, 6, 7] rfl rfl (by decide) (by decide) (fun r W' H locs hw hP hD hS => ?_)
    obtain ⟨rfl, rfl⟩ := hw
    have hP : va_P g.1 vwCl [(h0, .inr (10, [h0_tape, .int 0, h0_reader, h0_draft, .ref to, h0_course, .ref no, .ref hi, h0_boxes, h0_boxFilled, .ref ly, h0_outlook, .ref si, .int 0])), (no, .inr (7, [no_order, no_reefs, no_children, no_hosts, no_guests, .int 0, .int 0, .int 0, .int 0, .int no_firstTrue])), (hi, .inr (2, [hi_states, .int hi_oldest, .int 0, .int 0])), (si, .inr (6, [si_course, si_trial, si_corners, si_guilds, si_wasUp, si_toldAt, si_untoldAt, si_untold, si_upBehind, si_fitting, si_groups, .int si_isWalked, .int 0])), (ly, .inr (3, [ly_numbers, .int 0])), (to, .inr (9, [.int 0, .int to_gustyCorners, .int 0, .int to_draw, .int to_drawTold, to_cornerNames, to_winds, to_lees, to_gustChances, to_gusts, to_guildNames, to_cloths, to_trues, to_strengths, to_reefs, .ref fp, .ref fh])), (fp, .inr (1, [fp_operations, fp_numbers, fp_stack, .int fp_length, .int fp_isTold, .int 0])), (fh, .inr (1, [fh_operations, fh_numbers, fh_stack, .int fh_length, .int fh_isTold, .int 0]))] H := hP
    have hD : va_D A [(h0, .inr (10, [h0_tape, .int 0, h0_reader, h0_draft, .ref to, h0_course, .ref no, .ref hi, h0_boxes, h0_boxFilled, .ref ly, h0_outlook, .ref si, .int 0])), (no, .inr (7, [no_order, no_reefs, no_children, no_hosts, no_guests, .int 0, .int 0, .int 0, .int 0, .int no_firstTrue])), (hi, .inr (2, [hi_states, .int hi_oldest, .int 0, .int 0])), (si, .inr (6, [si_course, si_trial, si_corners, si_guilds, si_wasUp, si_toldAt, si_untoldAt, si_untold, si_upBehind, si_fitting, si_groups, .int si_isWalked, .int 0])), (ly, .inr (3, [ly_numbers, .int 0])), (to, .inr (9, [.int 0, .int to_gustyCorners, .int 0, .int to_draw, .int to_drawTold, to_cornerNames, to_winds, to_lees, to_gustChances, to_gusts, to_guildNames, to_cloths, to_trues, to_strengths, to_reefs, .ref fp, .ref fh])), (fp, .inr (1, [fp_operations, fp_numbers, fp_stack, .int fp_length, .int fp_isTold, .int 0])), (fh, .inr (1, [fh_operations, fh_numbers, fh_stack, .int fh_length, .int fh_isTold, .int 0]))] := hD
    have hP9 : va_P g.1 vwCl [] H := hP.sub [] rfl
    have hD9 : va_D A [] := hD.sub [] (by decide) rfl
    exact xi hx hb hr hlocks rfl hP9 hD9 hS ⟨(by simp [sp_about, c12]), rfl⟩ (Nat.le_of_ble_eq_true rfl) (Nat.le_of_ble_eq_true rfl) dX10_about_157
  by_cases c13 : p0 = 12
  · refine lv_tableIn (off := 157) (tgt := 158) hx hb dX10_about_1 (by rw [c13]; decide) (by rw [c13]; decide) (by rw [c13]; decide) (by decide) ?_
    refine lv_aload_n hx hb dX10_about_158 rfl (lv_at hl 0 rfl) ?_
    refine va_get (D := g.1) (ci := 10) (v := Value.ref ly) (C := RX10) (T := TX10) (N := 14) hx hb hts inlX10 hown hK hP 0 rfl rfl 10 (by decide) (hts _ q2_17) (fun _ h9 => h9) rfl dX10_about_159 ?_
    refine va_get (D := g.1) (ci := 3) (v := Value.int 0) (C := RX3) (T := TX3) (N := 2) hx hb hts inlX3 hown hK hP 7 rfl rfl 1 (by decide) (hts _ q67_13) (fun _ h9 => h9) rfl dX10_about_162 ?_
    have hP9 : va_P g.1 vwCl [] H := hP.sub [] rfl
    have hD9 : va_D A [] := hD.sub [] (by decide) rfl
    exact xi hx hb hr hlocks rfl hP9 hD9 hS ⟨(by simp [sp_about, c13]), rfl⟩ (Nat.le_of_ble_eq_true rfl) (Nat.le_of_ble_eq_true rfl) dX10_about_165
  refine lv_tableOut (tgt := 166) hx hb dX10_about_1 (sw_out (hi := 12) (by decide) (fun v hv => match v, hv with | 0, _ => c1 | 1, _ => c2 | 2, _ => c3 | 3, _ => c4 | 4, _ => c5 | 5, _ => c6 | 6, _ => c7 | 7, _ => c8 | 8, _ => c9 | 9, _ => c10 | 10, _ => c11 | 11, _ => c12 | 12, _ => c13 | n + 13, h => absurd h (by omega))) (by decide) ?_
  refine lv_iconst (v := (-1)) hx hb dX10_about_166 (by decide) ?_
  have hP9 : va_P g.1 vwCl [] H := hP.sub [] rfl
  have hD9 : va_D A [] := hD.sub [] (by decide) rfl
  exact xi hx hb hr hlocks rfl hP9 hD9 hS ⟨(by simp [sp_about, c1, c2, c3, c4, c5, c6, c7, c8, c9, c10, c11, c12, c13]), rfl⟩ (Nat.le_of_ble_eq_true rfl) (Nat.le_of_ble_eq_true rfl) dX10_about_167

set_option maxHeartbeats 4000000 in
set_option maxRecDepth 100000 in
theorem c_X10_town {l : Launch} {g : Gx} {h0 rd tk tp dr dr_winds dr_lees dr_gustChances dr_gusts dr_cloths dr_trues dr_strengths dr_reefs dr_pull dr_pull_op dr_pull_nu dr_hold dr_hold_op dr_hold_nu to to_winds to_lees to_gustChances to_gusts to_cloths to_trues to_strengths to_reefs to_pull to_pull_op to_pull_nu to_hold to_hold_op to_hold_nu no no_or no_re no_ch no_ho no_gu hi hi_st s0 s0_or s0_re s0_ch s0_ho s0_gu ly si bf : Nat} {h0_course : Value} {h0_boxes : Value} {h0_outlook : Value} {h0_time : Int32} {rd_units : Int32} {rd_number : Int32} {rd_fault : Int32} {rd_faultPlace : Int32} {tk_spellings : Value} {tk_bytes : Value} {tk_length : Int32} {tk_at : Int32} {tk_kind : Int32} {tk_start : Int32} {tk_word : Int32} {tk_spelling : Int64} {tk_number : Int32} {tk_sign : Int32} {f_tp : Nat → Int32} {dr_corners : Int32} {dr_gustyCorners : Int32} {dr_guilds : Int32} {dr_draw : Int32} {dr_drawTold : Int32} {dr_cornerNames : Value} {dr_guildNames : Value} {f_dr_winds : Nat → Int32} {f_dr_lees : Nat → Int32} {f_dr_gustChances : Nat → Int32} {f_dr_gusts : Nat → Int32} {f_dr_cloths : Nat → Int32} {f_dr_trues : Nat → Int32} {f_dr_strengths : Nat → Int32} {f_dr_reefs : Nat → Int32} {dr_pull_stack : Value} {dr_pull_length : Int32} {dr_pull_isTold : Int32} {dr_pull_units : Int32} {f_dr_pull_op : Nat → Int32} {f_dr_pull_nu : Nat → Int32} {dr_hold_stack : Value} {dr_hold_length : Int32} {dr_hold_isTold : Int32} {dr_hold_units : Int32} {f_dr_hold_op : Nat → Int32} {f_dr_hold_nu : Nat → Int32} {to_corners : Int32} {to_gustyCorners : Int32} {to_guilds : Int32} {to_draw : Int32} {to_drawTold : Int32} {to_cornerNames : Value} {to_guildNames : Value} {f_to_winds : Nat → Int32} {f_to_lees : Nat → Int32} {f_to_gustChances : Nat → Int32} {f_to_gusts : Nat → Int32} {f_to_cloths : Nat → Int32} {f_to_trues : Nat → Int32} {f_to_strengths : Nat → Int32} {f_to_reefs : Nat → Int32} {to_pull_stack : Value} {to_pull_length : Int32} {to_pull_isTold : Int32} {to_pull_units : Int32} {f_to_pull_op : Nat → Int32} {f_to_pull_nu : Nat → Int32} {to_hold_stack : Value} {to_hold_length : Int32} {to_hold_isTold : Int32} {to_hold_units : Int32} {f_to_hold_op : Nat → Int32} {f_to_hold_nu : Nat → Int32} {no_up : Int32} {no_standing : Int32} {no_day : Int32} {no_seed : Int32} {no_firstTrue : Int32} {f_no_or : Nat → Int32} {f_no_re : Nat → Int32} {f_no_ch : Nat → Int32} {f_no_ho : Nat → Int32} {f_no_gu : Nat → Int32} {hi_oldest : Int32} {hi_undoable : Int32} {hi_redoable : Int32} {f_hi_st : Nat → Option Nat} {s0_up : Int32} {s0_standing : Int32} {s0_day : Int32} {s0_seed : Int32} {s0_firstTrue : Int32} {f_s0_or : Nat → Int32} {f_s0_re : Nat → Int32} {f_s0_ch : Nat → Int32} {f_s0_ho : Nat → Int32} {f_s0_gu : Nat → Int32} {ly_numbers : Value} {ly_count : Int32} {si_course : Value} {si_trial : Value} {si_corners : Value} {si_guilds : Value} {si_wasUp : Value} {si_toldAt : Value} {si_untoldAt : Value} {si_untold : Value} {si_upBehind : Value} {si_fitting : Value} {si_groups : Value} {si_isWalked : Int32} {si_count : Int32} {f_bf : Nat → Int32} (h_f_hi_st_0 : f_hi_st 0 = some s0) : MI l g yX10_town cX10_town 1 (some .int) 5 0 0 [.ref h0] [(h0, .inr (10, [.ref tp, .int 0, .ref rd, .ref dr, .ref to, h0_course, .ref no, .ref hi, h0_boxes, .ref bf, .ref ly, h0_outlook, .ref si, .int h0_time])), (rd, .inr (5, [.ref tk, .int rd_units, .int rd_number, .int rd_fault, .int rd_faultPlace])), (tk, .inr (8, [tk_spellings, tk_bytes, .int tk_length, .int tk_at, .int tk_kind, .int tk_start, .int tk_word, .long tk_spelling, .int tk_number, .int tk_sign])), (tp, .inl (gB g, 1600, .inl f_tp)), (dr, .inr (9, [.int dr_corners, .int dr_gustyCorners, .int dr_guilds, .int dr_draw, .int dr_drawTold, dr_cornerNames, .ref dr_winds, .ref dr_lees, .ref dr_gustChances, .ref dr_gusts, dr_guildNames, .ref dr_cloths, .ref dr_trues, .ref dr_strengths, .ref dr_reefs, .ref dr_pull, .ref dr_hold])), (dr_winds, .inl (gI g, 8, .inl f_dr_winds)), (dr_lees, .inl (gI g, 8, .inl f_dr_lees)), (dr_gustChances, .inl (gI g, 8, .inl f_dr_gustChances)), (dr_gusts, .inl (gI g, 8, .inl f_dr_gusts)), (dr_cloths, .inl (gI g, 5, .inl f_dr_cloths)), (dr_trues, .inl (gI g, 5, .inl f_dr_trues)), (dr_strengths, .inl (gI g, 5, .inl f_dr_strengths)), (dr_reefs, .inl (gI g, 5, .inl f_dr_reefs)), (dr_pull, .inr (1, [.ref dr_pull_op, .ref dr_pull_nu, dr_pull_stack, .int dr_pull_length, .int dr_pull_isTold, .int dr_pull_units])), (dr_pull_op, .inl (gI g, 300, .inl f_dr_pull_op)), (dr_pull_nu, .inl (gI g, 300, .inl f_dr_pull_nu)), (dr_hold, .inr (1, [.ref dr_hold_op, .ref dr_hold_nu, dr_hold_stack, .int dr_hold_length, .int dr_hold_isTold, .int dr_hold_units])), (dr_hold_op, .inl (gI g, 300, .inl f_dr_hold_op)), (dr_hold_nu, .inl (gI g, 300, .inl f_dr_hold_nu)), (to, .inr (9, [.int to_corners, .int to_gustyCorners, .int to_guilds, .int to_draw, .int to_drawTold, to_cornerNames, .ref to_winds, .ref to_lees, .ref to_gustChances, .ref to_gusts, to_guildNames, .ref to_cloths, .ref to_trues, .ref to_strengths, .ref to_reefs, .ref to_pull, .ref to_hold])), (to_winds, .inl (gI g, 8, .inl f_to_winds)), (to_lees, .inl (gI g, 8, .inl f_to_lees)), (to_gustChances, .inl (gI g, 8, .inl f_to_gustChances)), (to_gusts, .inl (gI g, 8, .inl f_to_gusts)), (to_cloths, .inl (gI g, 5, .inl f_to_cloths)), (to_trues, .inl (gI g, 5, .inl f_to_trues)), (to_strengths, .inl (gI g, 5, .inl f_to_strengths)), (to_reefs, .inl (gI g, 5, .inl f_to_reefs)), (to_pull, .inr (1, [.ref to_pull_op, .ref to_pull_nu, to_pull_stack, .int to_pull_length, .int to_pull_isTold, .int to_pull_units])), (to_pull_op, .inl (gI g, 300, .inl f_to_pull_op)), (to_pull_nu, .inl (gI g, 300, .inl f_to_pull_nu)), (to_hold, .inr (1, [.ref to_hold_op, .ref to_hold_nu, to_hold_stack, .int to_hold_length, .int to_hold_isTold, .int to_hold_units])), (to_hold_op, .inl (gI g, 300, .inl f_to_hold_op)), (to_hold_nu, .inl (gI g, 300, .inl f_to_hold_nu)), (no, .inr (7, [.ref no_or, .ref no_re, .ref no_ch, .ref no_ho, .ref no_gu, .int no_up, .int no_standing, .int no_day, .int no_seed, .int no_firstTrue])), (no_or, .inl (gI g, 5, .inl f_no_or)), (no_re, .inl (gI g, 5, .inl f_no_re)), (no_ch, .inl (gI g, 5, .inl f_no_ch)), (no_ho, .inl (gI g, 5, .inl f_no_ho)), (no_gu, .inl (gI g, 5, .inl f_no_gu)), (hi, .inr (2, [.ref hi_st, .int hi_oldest, .int hi_undoable, .int hi_redoable])), (hi_st, .inl (gO g, 41, .inr (.inr (.inr (.inr f_hi_st))))), (s0, .inr (7, [.ref s0_or, .ref s0_re, .ref s0_ch, .ref s0_ho, .ref s0_gu, .int s0_up, .int s0_standing, .int s0_day, .int s0_seed, .int s0_firstTrue])), (s0_or, .inl (gI g, 5, .inl f_s0_or)), (s0_re, .inl (gI g, 5, .inl f_s0_re)), (s0_ch, .inl (gI g, 5, .inl f_s0_ch)), (s0_ho, .inl (gI g, 5, .inl f_s0_ho)), (s0_gu, .inl (gI g, 5, .inl f_s0_gu)), (ly, .inr (3, [ly_numbers, .int ly_count])), (si, .inr (6, [si_course, si_trial, si_corners, si_guilds, si_wasUp, si_toldAt, si_untoldAt, si_untold, si_upBehind, si_fitting, si_groups, .int si_isWalked, .int si_count])), (bf, .inl (gZ g, 3, .inl f_bf))] (fun r W' => 0 = r ∧ W' = []) := by
  refine MIof (by decide) (Nat.le_of_ble_eq_true rfl) ?_
  intro p e s m below meth c A ls H locs hcx hA hP hD hS hl
  obtain ⟨hx, hb, hml, hr, hlocks, hown, hts, hE, hnm⟩ := id hcx
  have hown : s.vm.findClass RX10 = some m.cls := hown
  have hK := hE.1
  have hl : lv_has ls 1 [(0, .ref h0)] := hl
  refine lv_aload_n hx hb dX10_town_0 rfl (lv_at hl 0 rfl) ?_
  refine va_get (D := g.1) (ci := 10) (v := Value.ref rd) (C := RX10) (T := TX10) (N := 14) hx hb hts inlX10 hown hK hP 0 rfl rfl 2 (by decide) (hts _ q1_17) (fun _ h9 => h9) rfl dX10_town_1 ?_
  refine lv_aload_n hx hb dX10_town_4 rfl (lv_at hl 0 rfl) ?_
  refine va_get (D := g.1) (ci := 10) (v := Value.ref tp) (C := RX10) (T := TX10) (N := 14) hx hb hts inlX10 hown hK hP 0 rfl rfl 0 (by decide) (hts _ q1_13) (fun _ h9 => h9) rfl dX10_town_5 ?_
  refine lv_aload_n hx hb dX10_town_8 rfl (lv_at hl 0 rfl) ?_
  refine va_get (D := g.1) (ci := 10) (v := Value.int 0) (C := RX10) (T := TX10) (N := 14) hx hb hts inlX10 hown hK hP 0 rfl rfl 1 (by decide) (hts _ q15_14) (fun _ h9 => h9) rfl dX10_town_9 ?_
  refine lv_aload_n hx hb dX10_town_12 rfl (lv_at hl 0 rfl) ?_
  refine va_get (D := g.1) (ci := 10) (v := Value.ref dr) (C := RX10) (T := TX10) (N := 14) hx hb hts inlX10 hown hK hP 0 rfl rfl 3 (by decide) (hts _ q1_21) (fun _ h9 => h9) rfl dX10_town_13 ?_
  refine kI (wc := [(rd, .inr (5, [.ref tk, .int rd_units, .int rd_number, .int rd_fault, .int rd_faultPlace])), (tk, .inr (8, [tk_spellings, tk_bytes, .int tk_length, .int tk_at, .int tk_kind, .int tk_start, .int tk_word, .long tk_spelling, .int tk_number, .int tk_sign])), (tp, .inl (gB g, 1600, .inl f_tp)), (dr, .inr (9, [.int dr_corners, .int dr_gustyCorners, .int dr_guilds, .int dr_draw, .int dr_drawTold, dr_cornerNames, .ref dr_winds, .ref dr_lees, .ref dr_gustChances, .ref dr_gusts, dr_guildNames, .ref dr_cloths, .ref dr_trues, .ref dr_strengths, .ref dr_reefs, .ref dr_pull, .ref dr_hold])), (dr_lees, .inl (gI g, 8, .inl f_dr_lees)), (dr_gustChances, .inl (gI g, 8, .inl f_dr_gustChances)), (dr_gusts, .inl (gI g, 8, .inl f_dr_gusts)), (dr_reefs, .inl (gI g, 5, .inl f_dr_reefs)), (dr_pull, .inr (1, [.ref dr_pull_op, .ref dr_pull_nu, dr_pull_stack, .int dr_pull_length, .int dr_pull_isTold, .int dr_pull_units])), (dr_hold, .inr (1, [.ref dr_hold_op, .ref dr_hold_nu, dr_hold_stack, .int dr_hold_length, .int dr_hold_isTold, .int dr_hold_units]))]) (wr := [(h0, .inr (10, [.ref tp, .int 0, .ref rd, .ref dr, .ref to, h0_course, .ref no, .ref hi, h0_boxes, .ref bf, .ref ly, h0_outlook, .ref si, .int h0_time])), (dr_winds, .inl (gI g, 8, .inl f_dr_winds)), (dr_cloths, .inl (gI g, 5, .inl f_dr_cloths)), (dr_trues, .inl (gI g, 5, .inl f_dr_trues)), (dr_strengths, .inl (gI g, 5, .inl f_dr_strengths)), (dr_pull_op, .inl (gI g, 300, .inl f_dr_pull_op)), (dr_pull_nu, .inl (gI g, 300, .inl f_dr_pull_nu)), (dr_hold_op, .inl (gI g, 300, .inl f_dr_hold_op)), (dr_hold_nu, .inl (gI g, 300, .inl f_dr_hold_nu)), (to, .inr (9, [.int to_corners, .int to_gustyCorners, .int to_guilds, .int to_draw, .int to_drawTold, to_cornerNames, .ref to_winds, .ref to_lees, .ref to_gustChances, .ref to_gusts, to_guildNames, .ref to_cloths, .ref to_trues, .ref to_strengths, .ref to_reefs, .ref to_pull, .ref to_hold])), (to_winds, .inl (gI g, 8, .inl f_to_winds)), (to_lees, .inl (gI g, 8, .inl f_to_lees)), (to_gustChances, .inl (gI g, 8, .inl f_to_gustChances)), (to_gusts, .inl (gI g, 8, .inl f_to_gusts)), (to_cloths, .inl (gI g, 5, .inl f_to_cloths)), (to_trues, .inl (gI g, 5, .inl f_to_trues)), (to_strengths, .inl (gI g, 5, .inl f_to_strengths)), (to_reefs, .inl (gI g, 5, .inl f_to_reefs)), (to_pull, .inr (1, [.ref to_pull_op, .ref to_pull_nu, to_pull_stack, .int to_pull_length, .int to_pull_isTold, .int to_pull_units])), (to_pull_op, .inl (gI g, 300, .inl f_to_pull_op)), (to_pull_nu, .inl (gI g, 300, .inl f_to_pull_nu)), (to_hold, .inr (1, [.ref to_hold_op, .ref to_hold_nu, to_hold_stack, .int to_hold_length, .int to_hold_isTold, .int to_hold_units])), (to_hold_op, .inl (gI g, 300, .inl f_to_hold_op)), (to_hold_nu, .inl (gI g, 300, .inl f_to_hold_nu)), (no, .inr (7, [.ref no_or, .ref no_re, .ref no_ch, .ref no_ho, .ref no_gu, .int no_up, .int no_standing, .int no_day, .int no_seed, .int no_firstTrue])), (no_or, .inl (gI g, 5, .inl f_no_or)), (no_re, .inl (gI g, 5, .inl f_no_re)), (no_ch, .inl (gI g, 5, .inl f_no_ch)), (no_ho, .inl (gI g, 5, .inl f_no_ho)), (no_gu, .inl (gI g, 5, .inl f_no_gu)), (hi, .inr (2, [.ref hi_st, .int hi_oldest, .int hi_undoable, .int hi_redoable])), (hi_st, .inl (gO g, 41, .inr (.inr (.inr (.inr f_hi_st))))), (s0, .inr (7, [.ref s0_or, .ref s0_re, .ref s0_ch, .ref s0_ho, .ref s0_gu, .int s0_up, .int s0_standing, .int s0_day, .int s0_seed, .int s0_firstTrue])), (s0_or, .inl (gI g, 5, .inl f_s0_or)), (s0_re, .inl (gI g, 5, .inl f_s0_re)), (s0_ch, .inl (gI g, 5, .inl f_s0_ch)), (s0_ho, .inl (gI g, 5, .inl f_s0_ho)), (s0_gu, .inl (gI g, 5, .inl f_s0_gu)), (ly, .inr (3, [ly_numbers, .int ly_count])), (si, .inr (6, [si_course, si_trial, si_corners, si_guilds, si_wasUp, si_toldAt, si_untoldAt, si_untold, si_upBehind, si_fitting, si_groups, .int si_isWalked, .int si_count])), (bf, .inl (gZ g, 3, .inl f_bf))]) (rV (As := [.ref tp, .int 0, .ref dr]) (rest := []) (meth2 := "") hcx (c_X5_read H.size) (gdV q16_13 q16_14 q16_15 q1_16 q16_16) dvX5_read ⟨Nat.le_of_ble_eq_true rfl, Nat.le_of_ble_eq_true rfl⟩ (hP.sub [1, 2, 3, 4, 6, 7, 8, 12, 13, 16] rfl) (hD.sub [1, 2, 3, 4, 6, 7, 8, 12, 13, 16] (by decide) rfl) (va_recv hK hP (ci := 5) (q0 := 1) rfl rfl) rfl hl.1 rfl (Nat.le_of_ble_eq_true rfl) dX10_town_16 ⟨Nat.le_of_ble_eq_true rfl, Nat.le_of_ble_eq_true rfl⟩) hP hD hS hA [1, 2, 3, 4, 6, 7, 8, 12, 13, 16] [0, 5, 9, 10, 11, 14, 15, 17, 18, 19, 20, 21, 22, 23, 24, 25, 26, 27, 28, 29, 30, 31, 32, 33, 34, 35, 36, 37, 38, 39, 40, 41, 42, 43, 44, 45, 46, 47, 48, 49, 50] rfl rfl (by decide) (by decide) (fun r W' H locs hw hP hD hS => ?_)
  obtain ⟨rfl, f1, f2, f3, f4, rfl⟩ := hw
  have hP : va_P g.1 vwCl [(h0, .inr (10, [.ref tp, .int 0, .ref rd, .ref dr, .ref to, h0_course, .ref no, .ref hi, h0_boxes, .ref bf, .ref ly, h0_outlook, .ref si, .int h0_time])), (dr_winds, .inl (gI g, 8, .inl f_dr_winds)), (dr_cloths, .inl (gI g, 5, .inl f_dr_cloths)), (dr_trues, .inl (gI g, 5, .inl f_dr_trues)), (dr_strengths, .inl (gI g, 5, .inl f_dr_strengths)), (dr_pull_op, .inl (gI g, 300, .inl f_dr_pull_op)), (dr_pull_nu, .inl (gI g, 300, .inl f_dr_pull_nu)), (dr_hold_op, .inl (gI g, 300, .inl f_dr_hold_op)), (dr_hold_nu, .inl (gI g, 300, .inl f_dr_hold_nu)), (to, .inr (9, [.int to_corners, .int to_gustyCorners, .int to_guilds, .int to_draw, .int to_drawTold, to_cornerNames, .ref to_winds, .ref to_lees, .ref to_gustChances, .ref to_gusts, to_guildNames, .ref to_cloths, .ref to_trues, .ref to_strengths, .ref to_reefs, .ref to_pull, .ref to_hold])), (to_winds, .inl (gI g, 8, .inl f_to_winds)), (to_lees, .inl (gI g, 8, .inl f_to_lees)), (to_gustChances, .inl (gI g, 8, .inl f_to_gustChances)), (to_gusts, .inl (gI g, 8, .inl f_to_gusts)), (to_cloths, .inl (gI g, 5, .inl f_to_cloths)), (to_trues, .inl (gI g, 5, .inl f_to_trues)), (to_strengths, .inl (gI g, 5, .inl f_to_strengths)), (to_reefs, .inl (gI g, 5, .inl f_to_reefs)), (to_pull, .inr (1, [.ref to_pull_op, .ref to_pull_nu, to_pull_stack, .int to_pull_length, .int to_pull_isTold, .int to_pull_units])), (to_pull_op, .inl (gI g, 300, .inl f_to_pull_op)), (to_pull_nu, .inl (gI g, 300, .inl f_to_pull_nu)), (to_hold, .inr (1, [.ref to_hold_op, .ref to_hold_nu, to_hold_stack, .int to_hold_length, .int to_hold_isTold, .int to_hold_units])), (to_hold_op, .inl (gI g, 300, .inl f_to_hold_op)), (to_hold_nu, .inl (gI g, 300, .inl f_to_hold_nu)), (no, .inr (7, [.ref no_or, .ref no_re, .ref no_ch, .ref no_ho, .ref no_gu, .int no_up, .int no_standing, .int no_day, .int no_seed, .int no_firstTrue])), (no_or, .inl (gI g, 5, .inl f_no_or)), (no_re, .inl (gI g, 5, .inl f_no_re)), (no_ch, .inl (gI g, 5, .inl f_no_ch)), (no_ho, .inl (gI g, 5, .inl f_no_ho)), (no_gu, .inl (gI g, 5, .inl f_no_gu)), (hi, .inr (2, [.ref hi_st, .int hi_oldest, .int hi_undoable, .int hi_redoable])), (hi_st, .inl (gO g, 41, .inr (.inr (.inr (.inr f_hi_st))))), (s0, .inr (7, [.ref s0_or, .ref s0_re, .ref s0_ch, .ref s0_ho, .ref s0_gu, .int s0_up, .int s0_standing, .int s0_day, .int s0_seed, .int s0_firstTrue])), (s0_or, .inl (gI g, 5, .inl f_s0_or)), (s0_re, .inl (gI g, 5, .inl f_s0_re)), (s0_ch, .inl (gI g, 5, .inl f_s0_ch)), (s0_ho, .inl (gI g, 5, .inl f_s0_ho)), (s0_gu, .inl (gI g, 5, .inl f_s0_gu)), (ly, .inr (3, [ly_numbers, .int ly_count])), (si, .inr (6, [si_course, si_trial, si_corners, si_guilds, si_wasUp, si_toldAt, si_untoldAt, si_untold, si_upBehind, si_fitting, si_groups, .int si_isWalked, .int si_count])), (bf, .inl (gZ g, 3, .inl f_bf)), (rd, .inr (5, [.ref tk, .int 0, .int rd_number, .int 0, .int (-1)])), (tk, .inr (8, [tk_spellings, .ref tp, .int 0, .int 0, .int 0, .int 0, .int tk_word, .long tk_spelling, .int tk_number, .int tk_sign])), (tp, .inl (gB g, 1600, .inl f_tp)), (dr, .inr (9, [.int 0, .int 0, .int 0, .int 0, .int 0, dr_cornerNames, .ref dr_winds, .ref dr_lees, .ref dr_gustChances, .ref dr_gusts, dr_guildNames, .ref dr_cloths, .ref dr_trues, .ref dr_strengths, .ref dr_reefs, .ref dr_pull, .ref dr_hold])), (dr_lees, .inl (gI g, 8, .inl f1)), (dr_gustChances, .inl (gI g, 8, .inl f2)), (dr_gusts, .inl (gI g, 8, .inl f3)), (dr_reefs, .inl (gI g, 5, .inl f4)), (dr_pull, .inr (1, [.ref dr_pull_op, .ref dr_pull_nu, dr_pull_stack, .int 0, .int 0, .int 0])), (dr_hold, .inr (1, [.ref dr_hold_op, .ref dr_hold_nu, dr_hold_stack, .int 0, .int 0, .int 0]))] H := hP
  have hD : va_D A [(h0, .inr (10, [.ref tp, .int 0, .ref rd, .ref dr, .ref to, h0_course, .ref no, .ref hi, h0_boxes, .ref bf, .ref ly, h0_outlook, .ref si, .int h0_time])), (dr_winds, .inl (gI g, 8, .inl f_dr_winds)), (dr_cloths, .inl (gI g, 5, .inl f_dr_cloths)), (dr_trues, .inl (gI g, 5, .inl f_dr_trues)), (dr_strengths, .inl (gI g, 5, .inl f_dr_strengths)), (dr_pull_op, .inl (gI g, 300, .inl f_dr_pull_op)), (dr_pull_nu, .inl (gI g, 300, .inl f_dr_pull_nu)), (dr_hold_op, .inl (gI g, 300, .inl f_dr_hold_op)), (dr_hold_nu, .inl (gI g, 300, .inl f_dr_hold_nu)), (to, .inr (9, [.int to_corners, .int to_gustyCorners, .int to_guilds, .int to_draw, .int to_drawTold, to_cornerNames, .ref to_winds, .ref to_lees, .ref to_gustChances, .ref to_gusts, to_guildNames, .ref to_cloths, .ref to_trues, .ref to_strengths, .ref to_reefs, .ref to_pull, .ref to_hold])), (to_winds, .inl (gI g, 8, .inl f_to_winds)), (to_lees, .inl (gI g, 8, .inl f_to_lees)), (to_gustChances, .inl (gI g, 8, .inl f_to_gustChances)), (to_gusts, .inl (gI g, 8, .inl f_to_gusts)), (to_cloths, .inl (gI g, 5, .inl f_to_cloths)), (to_trues, .inl (gI g, 5, .inl f_to_trues)), (to_strengths, .inl (gI g, 5, .inl f_to_strengths)), (to_reefs, .inl (gI g, 5, .inl f_to_reefs)), (to_pull, .inr (1, [.ref to_pull_op, .ref to_pull_nu, to_pull_stack, .int to_pull_length, .int to_pull_isTold, .int to_pull_units])), (to_pull_op, .inl (gI g, 300, .inl f_to_pull_op)), (to_pull_nu, .inl (gI g, 300, .inl f_to_pull_nu)), (to_hold, .inr (1, [.ref to_hold_op, .ref to_hold_nu, to_hold_stack, .int to_hold_length, .int to_hold_isTold, .int to_hold_units])), (to_hold_op, .inl (gI g, 300, .inl f_to_hold_op)), (to_hold_nu, .inl (gI g, 300, .inl f_to_hold_nu)), (no, .inr (7, [.ref no_or, .ref no_re, .ref no_ch, .ref no_ho, .ref no_gu, .int no_up, .int no_standing, .int no_day, .int no_seed, .int no_firstTrue])), (no_or, .inl (gI g, 5, .inl f_no_or)), (no_re, .inl (gI g, 5, .inl f_no_re)), (no_ch, .inl (gI g, 5, .inl f_no_ch)), (no_ho, .inl (gI g, 5, .inl f_no_ho)), (no_gu, .inl (gI g, 5, .inl f_no_gu)), (hi, .inr (2, [.ref hi_st, .int hi_oldest, .int hi_undoable, .int hi_redoable])), (hi_st, .inl (gO g, 41, .inr (.inr (.inr (.inr f_hi_st))))), (s0, .inr (7, [.ref s0_or, .ref s0_re, .ref s0_ch, .ref s0_ho, .ref s0_gu, .int s0_up, .int s0_standing, .int s0_day, .int s0_seed, .int s0_firstTrue])), (s0_or, .inl (gI g, 5, .inl f_s0_or)), (s0_re, .inl (gI g, 5, .inl f_s0_re)), (s0_ch, .inl (gI g, 5, .inl f_s0_ch)), (s0_ho, .inl (gI g, 5, .inl f_s0_ho)), (s0_gu, .inl (gI g, 5, .inl f_s0_gu)), (ly, .inr (3, [ly_numbers, .int ly_count])), (si, .inr (6, [si_course, si_trial, si_corners, si_guilds, si_wasUp, si_toldAt, si_untoldAt, si_untold, si_upBehind, si_fitting, si_groups, .int si_isWalked, .int si_count])), (bf, .inl (gZ g, 3, .inl f_bf)), (rd, .inr (5, [.ref tk, .int 0, .int rd_number, .int 0, .int (-1)])), (tk, .inr (8, [tk_spellings, .ref tp, .int 0, .int 0, .int 0, .int 0, .int tk_word, .long tk_spelling, .int tk_number, .int tk_sign])), (tp, .inl (gB g, 1600, .inl f_tp)), (dr, .inr (9, [.int 0, .int 0, .int 0, .int 0, .int 0, dr_cornerNames, .ref dr_winds, .ref dr_lees, .ref dr_gustChances, .ref dr_gusts, dr_guildNames, .ref dr_cloths, .ref dr_trues, .ref dr_strengths, .ref dr_reefs, .ref dr_pull, .ref dr_hold])), (dr_lees, .inl (gI g, 8, .inl f1)), (dr_gustChances, .inl (gI g, 8, .inl f2)), (dr_gusts, .inl (gI g, 8, .inl f3)), (dr_reefs, .inl (gI g, 5, .inl f4)), (dr_pull, .inr (1, [.ref dr_pull_op, .ref dr_pull_nu, dr_pull_stack, .int 0, .int 0, .int 0])), (dr_hold, .inr (1, [.ref dr_hold_op, .ref dr_hold_nu, dr_hold_stack, .int 0, .int 0, .int 0]))] := hD
  refine lv_if_ne (tgt := 24) hx hb dX10_town_19 (by decide) (fun _ => ?_) (fun c5 => absurd c5 (by decide))
  refine lv_aload_n hx hb dX10_town_24 rfl (lv_at hl 0 rfl) ?_
  refine va_get (D := g.1) (ci := 10) (v := Value.ref to) (C := RX10) (T := TX10) (N := 14) hx hb hts inlX10 hown hK hP 0 rfl rfl 4 (by decide) (hts _ q1_22) (fun _ h9 => h9) rfl dX10_town_25 ?_
  refine lv_aload_n hx hb dX10_town_28 rfl (lv_at hl 0 rfl) ?_
  refine va_get (D := g.1) (ci := 10) (v := Value.ref dr) (C := RX10) (T := TX10) (N := 14) hx hb hts inlX10 hown hK hP 0 rfl rfl 3 (by decide) (hts _ q1_21) (fun _ h9 => h9) rfl dX10_town_29 ?_
  refine kV (wc := [(to, .inr (9, [.int to_corners, .int to_gustyCorners, .int to_guilds, .int to_draw, .int to_drawTold, to_cornerNames, .ref to_winds, .ref to_lees, .ref to_gustChances, .ref to_gusts, to_guildNames, .ref to_cloths, .ref to_trues, .ref to_strengths, .ref to_reefs, .ref to_pull, .ref to_hold])), (to_winds, .inl (gI g, 8, .inl f_to_winds)), (to_lees, .inl (gI g, 8, .inl f_to_lees)), (to_gustChances, .inl (gI g, 8, .inl f_to_gustChances)), (to_gusts, .inl (gI g, 8, .inl f_to_gusts)), (to_cloths, .inl (gI g, 5, .inl f_to_cloths)), (to_trues, .inl (gI g, 5, .inl f_to_trues)), (to_strengths, .inl (gI g, 5, .inl f_to_strengths)), (to_reefs, .inl (gI g, 5, .inl f_to_reefs)), (to_pull, .inr (1, [.ref to_pull_op, .ref to_pull_nu, to_pull_stack, .int to_pull_length, .int to_pull_isTold, .int to_pull_units])), (to_pull_op, .inl (gI g, 300, .inl f_to_pull_op)), (to_pull_nu, .inl (gI g, 300, .inl f_to_pull_nu)), (to_hold, .inr (1, [.ref to_hold_op, .ref to_hold_nu, to_hold_stack, .int to_hold_length, .int to_hold_isTold, .int to_hold_units])), (to_hold_op, .inl (gI g, 300, .inl f_to_hold_op)), (to_hold_nu, .inl (gI g, 300, .inl f_to_hold_nu)), (dr, .inr (9, [.int 0, .int 0, .int 0, .int 0, .int 0, dr_cornerNames, .ref dr_winds, .ref dr_lees, .ref dr_gustChances, .ref dr_gusts, dr_guildNames, .ref dr_cloths, .ref dr_trues, .ref dr_strengths, .ref dr_reefs, .ref dr_pull, .ref dr_hold])), (dr_winds, .inl (gI g, 8, .inl f_dr_winds)), (dr_lees, .inl (gI g, 8, .inl f1)), (dr_gustChances, .inl (gI g, 8, .inl f2)), (dr_gusts, .inl (gI g, 8, .inl f3)), (dr_cloths, .inl (gI g, 5, .inl f_dr_cloths)), (dr_trues, .inl (gI g, 5, .inl f_dr_trues)), (dr_strengths, .inl (gI g, 5, .inl f_dr_strengths)), (dr_reefs, .inl (gI g, 5, .inl f4)), (dr_pull, .inr (1, [.ref dr_pull_op, .ref dr_pull_nu, dr_pull_stack, .int 0, .int 0, .int 0])), (dr_pull_op, .inl (gI g, 300, .inl f_dr_pull_op)), (dr_pull_nu, .inl (gI g, 300, .inl f_dr_pull_nu)), (dr_hold, .inr (1, [.ref dr_hold_op, .ref dr_hold_nu, dr_hold_stack, .int 0, .int 0, .int 0])), (dr_hold_op, .inl (gI g, 300, .inl f_dr_hold_op)), (dr_hold_nu, .inl (gI g, 300, .inl f_dr_hold_nu))]) (wr := [(h0, .inr (10, [.ref tp, .int 0, .ref rd, .ref dr, .ref to, h0_course, .ref no, .ref hi, h0_boxes, .ref bf, .ref ly, h0_outlook, .ref si, .int h0_time])), (no, .inr (7, [.ref no_or, .ref no_re, .ref no_ch, .ref no_ho, .ref no_gu, .int no_up, .int no_standing, .int no_day, .int no_seed, .int no_firstTrue])), (no_or, .inl (gI g, 5, .inl f_no_or)), (no_re, .inl (gI g, 5, .inl f_no_re)), (no_ch, .inl (gI g, 5, .inl f_no_ch)), (no_ho, .inl (gI g, 5, .inl f_no_ho)), (no_gu, .inl (gI g, 5, .inl f_no_gu)), (hi, .inr (2, [.ref hi_st, .int hi_oldest, .int hi_undoable, .int hi_redoable])), (hi_st, .inl (gO g, 41, .inr (.inr (.inr (.inr f_hi_st))))), (s0, .inr (7, [.ref s0_or, .ref s0_re, .ref s0_ch, .ref s0_ho, .ref s0_gu, .int s0_up, .int s0_standing, .int s0_day, .int s0_seed, .int s0_firstTrue])), (s0_or, .inl (gI g, 5, .inl f_s0_or)), (s0_re, .inl (gI g, 5, .inl f_s0_re)), (s0_ch, .inl (gI g, 5, .inl f_s0_ch)), (s0_ho, .inl (gI g, 5, .inl f_s0_ho)), (s0_gu, .inl (gI g, 5, .inl f_s0_gu)), (ly, .inr (3, [ly_numbers, .int ly_count])), (si, .inr (6, [si_course, si_trial, si_corners, si_guilds, si_wasUp, si_toldAt, si_untoldAt, si_untold, si_upBehind, si_fitting, si_groups, .int si_isWalked, .int si_count])), (bf, .inl (gZ g, 3, .inl f_bf)), (rd, .inr (5, [.ref tk, .int 0, .int rd_number, .int 0, .int (-1)])), (tk, .inr (8, [tk_spellings, .ref tp, .int 0, .int 0, .int 0, .int 0, .int tk_word, .long tk_spelling, .int tk_number, .int tk_sign])), (tp, .inl (gB g, 1600, .inl f_tp))]) (rV (As := [.ref dr]) (rest := []) (meth2 := "") hcx (c_X9_copyFrom H.size) (gdV q10_0 q10_1 q10_2 q1_20 q10_3) dvX9_copyFrom ⟨Nat.le_of_ble_eq_true rfl, Nat.le_of_ble_eq_true rfl⟩ (hP.sub [9, 10, 11, 12, 13, 14, 15, 16, 17, 18, 19, 20, 21, 22, 23, 44, 1, 45, 46, 47, 2, 3, 4, 48, 49, 5, 6, 50, 7, 8] rfl) (hD.sub [9, 10, 11, 12, 13, 14, 15, 16, 17, 18, 19, 20, 21, 22, 23, 44, 1, 45, 46, 47, 2, 3, 4, 48, 49, 5, 6, 50, 7, 8] (by decide) rfl) (va_recv hK hP (ci := 9) (q0 := 9) rfl rfl) rfl hl.1 rfl (Nat.le_of_ble_eq_true rfl) dX10_town_32 ⟨Nat.le_of_ble_eq_true rfl, Nat.le_of_ble_eq_true rfl⟩) hP hD hS hA [9, 10, 11, 12, 13, 14, 15, 16, 17, 18, 19, 20, 21, 22, 23, 44, 1, 45, 46, 47, 2, 3, 4, 48, 49, 5, 6, 50, 7, 8] [0, 24, 25, 26, 27, 28, 29, 30, 31, 32, 33, 34, 35, 36, 37, 38, 39, 40, 41, 42, 43] rfl rfl (by decide) (by decide) (fun W' H locs hw hP hD hS => ?_)
  obtain ⟨f6, f7, f8, f9, f10, f11, f12, f13, f14, f15, f16, f17, rfl⟩ := hw
  have hP : va_P g.1 vwCl [(h0, .inr (10, [.ref tp, .int 0, .ref rd, .ref dr, .ref to, h0_course, .ref no, .ref hi, h0_boxes, .ref bf, .ref ly, h0_outlook, .ref si, .int h0_time])), (no, .inr (7, [.ref no_or, .ref no_re, .ref no_ch, .ref no_ho, .ref no_gu, .int no_up, .int no_standing, .int no_day, .int no_seed, .int no_firstTrue])), (no_or, .inl (gI g, 5, .inl f_no_or)), (no_re, .inl (gI g, 5, .inl f_no_re)), (no_ch, .inl (gI g, 5, .inl f_no_ch)), (no_ho, .inl (gI g, 5, .inl f_no_ho)), (no_gu, .inl (gI g, 5, .inl f_no_gu)), (hi, .inr (2, [.ref hi_st, .int hi_oldest, .int hi_undoable, .int hi_redoable])), (hi_st, .inl (gO g, 41, .inr (.inr (.inr (.inr f_hi_st))))), (s0, .inr (7, [.ref s0_or, .ref s0_re, .ref s0_ch, .ref s0_ho, .ref s0_gu, .int s0_up, .int s0_standing, .int s0_day, .int s0_seed, .int s0_firstTrue])), (s0_or, .inl (gI g, 5, .inl f_s0_or)), (s0_re, .inl (gI g, 5, .inl f_s0_re)), (s0_ch, .inl (gI g, 5, .inl f_s0_ch)), (s0_ho, .inl (gI g, 5, .inl f_s0_ho)), (s0_gu, .inl (gI g, 5, .inl f_s0_gu)), (ly, .inr (3, [ly_numbers, .int ly_count])), (si, .inr (6, [si_course, si_trial, si_corners, si_guilds, si_wasUp, si_toldAt, si_untoldAt, si_untold, si_upBehind, si_fitting, si_groups, .int si_isWalked, .int si_count])), (bf, .inl (gZ g, 3, .inl f_bf)), (rd, .inr (5, [.ref tk, .int 0, .int rd_number, .int 0, .int (-1)])), (tk, .inr (8, [tk_spellings, .ref tp, .int 0, .int 0, .int 0, .int 0, .int tk_word, .long tk_spelling, .int tk_number, .int tk_sign])), (tp, .inl (gB g, 1600, .inl f_tp)), (to, .inr (9, [.int 0, .int 0, .int 0, .int 0, .int to_drawTold, to_cornerNames, .ref to_winds, .ref to_lees, .ref to_gustChances, .ref to_gusts, to_guildNames, .ref to_cloths, .ref to_trues, .ref to_strengths, .ref to_reefs, .ref to_pull, .ref to_hold])), (to_winds, .inl (gI g, 8, .inl f6)), (to_lees, .inl (gI g, 8, .inl f7)), (to_gustChances, .inl (gI g, 8, .inl f8)), (to_gusts, .inl (gI g, 8, .inl f9)), (to_cloths, .inl (gI g, 5, .inl f10)), (to_trues, .inl (gI g, 5, .inl f11)), (to_strengths, .inl (gI g, 5, .inl f12)), (to_reefs, .inl (gI g, 5, .inl f13)), (to_pull, .inr (1, [.ref to_pull_op, .ref to_pull_nu, to_pull_stack, .int 0, .int 0, .int 0])), (to_pull_op, .inl (gI g, 300, .inl f14)), (to_pull_nu, .inl (gI g, 300, .inl f15)), (to_hold, .inr (1, [.ref to_hold_op, .ref to_hold_nu, to_hold_stack, .int 0, .int 0, .int 0])), (to_hold_op, .inl (gI g, 300, .inl f16)), (to_hold_nu, .inl (gI g, 300, .inl f17)), (dr, .inr (9, [.int 0, .int 0, .int 0, .int 0, .int 0, dr_cornerNames, .ref dr_winds, .ref dr_lees, .ref dr_gustChances, .ref dr_gusts, dr_guildNames, .ref dr_cloths, .ref dr_trues, .ref dr_strengths, .ref dr_reefs, .ref dr_pull, .ref dr_hold])), (dr_winds, .inl (gI g, 8, .inl f_dr_winds)), (dr_lees, .inl (gI g, 8, .inl f1)), (dr_gustChances, .inl (gI g, 8, .inl f2)), (dr_gusts, .inl (gI g, 8, .inl f3)), (dr_cloths, .inl (gI g, 5, .inl f_dr_cloths)), (dr_trues, .inl (gI g, 5, .inl f_dr_trues)), (dr_strengths, .inl (gI g, 5, .inl f_dr_strengths)), (dr_reefs, .inl (gI g, 5, .inl f4)), (dr_pull, .inr (1, [.ref dr_pull_op, .ref dr_pull_nu, dr_pull_stack, .int 0, .int 0, .int 0])), (dr_pull_op, .inl (gI g, 300, .inl f_dr_pull_op)), (dr_pull_nu, .inl (gI g, 300, .inl f_dr_pull_nu)), (dr_hold, .inr (1, [.ref dr_hold_op, .ref dr_hold_nu, dr_hold_stack, .int 0, .int 0, .int 0])), (dr_hold_op, .inl (gI g, 300, .inl f_dr_hold_op)), (dr_hold_nu, .inl (gI g, 300, .inl f_dr_hold_nu))] H := hP
  have hD : va_D A [(h0, .inr (10, [.ref tp, .int 0, .ref rd, .ref dr, .ref to, h0_course, .ref no, .ref hi, h0_boxes, .ref bf, .ref ly, h0_outlook, .ref si, .int h0_time])), (no, .inr (7, [.ref no_or, .ref no_re, .ref no_ch, .ref no_ho, .ref no_gu, .int no_up, .int no_standing, .int no_day, .int no_seed, .int no_firstTrue])), (no_or, .inl (gI g, 5, .inl f_no_or)), (no_re, .inl (gI g, 5, .inl f_no_re)), (no_ch, .inl (gI g, 5, .inl f_no_ch)), (no_ho, .inl (gI g, 5, .inl f_no_ho)), (no_gu, .inl (gI g, 5, .inl f_no_gu)), (hi, .inr (2, [.ref hi_st, .int hi_oldest, .int hi_undoable, .int hi_redoable])), (hi_st, .inl (gO g, 41, .inr (.inr (.inr (.inr f_hi_st))))), (s0, .inr (7, [.ref s0_or, .ref s0_re, .ref s0_ch, .ref s0_ho, .ref s0_gu, .int s0_up, .int s0_standing, .int s0_day, .int s0_seed, .int s0_firstTrue])), (s0_or, .inl (gI g, 5, .inl f_s0_or)), (s0_re, .inl (gI g, 5, .inl f_s0_re)), (s0_ch, .inl (gI g, 5, .inl f_s0_ch)), (s0_ho, .inl (gI g, 5, .inl f_s0_ho)), (s0_gu, .inl (gI g, 5, .inl f_s0_gu)), (ly, .inr (3, [ly_numbers, .int ly_count])), (si, .inr (6, [si_course, si_trial, si_corners, si_guilds, si_wasUp, si_toldAt, si_untoldAt, si_untold, si_upBehind, si_fitting, si_groups, .int si_isWalked, .int si_count])), (bf, .inl (gZ g, 3, .inl f_bf)), (rd, .inr (5, [.ref tk, .int 0, .int rd_number, .int 0, .int (-1)])), (tk, .inr (8, [tk_spellings, .ref tp, .int 0, .int 0, .int 0, .int 0, .int tk_word, .long tk_spelling, .int tk_number, .int tk_sign])), (tp, .inl (gB g, 1600, .inl f_tp)), (to, .inr (9, [.int 0, .int 0, .int 0, .int 0, .int to_drawTold, to_cornerNames, .ref to_winds, .ref to_lees, .ref to_gustChances, .ref to_gusts, to_guildNames, .ref to_cloths, .ref to_trues, .ref to_strengths, .ref to_reefs, .ref to_pull, .ref to_hold])), (to_winds, .inl (gI g, 8, .inl f6)), (to_lees, .inl (gI g, 8, .inl f7)), (to_gustChances, .inl (gI g, 8, .inl f8)), (to_gusts, .inl (gI g, 8, .inl f9)), (to_cloths, .inl (gI g, 5, .inl f10)), (to_trues, .inl (gI g, 5, .inl f11)), (to_strengths, .inl (gI g, 5, .inl f12)), (to_reefs, .inl (gI g, 5, .inl f13)), (to_pull, .inr (1, [.ref to_pull_op, .ref to_pull_nu, to_pull_stack, .int 0, .int 0, .int 0])), (to_pull_op, .inl (gI g, 300, .inl f14)), (to_pull_nu, .inl (gI g, 300, .inl f15)), (to_hold, .inr (1, [.ref to_hold_op, .ref to_hold_nu, to_hold_stack, .int 0, .int 0, .int 0])), (to_hold_op, .inl (gI g, 300, .inl f16)), (to_hold_nu, .inl (gI g, 300, .inl f17)), (dr, .inr (9, [.int 0, .int 0, .int 0, .int 0, .int 0, dr_cornerNames, .ref dr_winds, .ref dr_lees, .ref dr_gustChances, .ref dr_gusts, dr_guildNames, .ref dr_cloths, .ref dr_trues, .ref dr_strengths, .ref dr_reefs, .ref dr_pull, .ref dr_hold])), (dr_winds, .inl (gI g, 8, .inl f_dr_winds)), (dr_lees, .inl (gI g, 8, .inl f1)), (dr_gustChances, .inl (gI g, 8, .inl f2)), (dr_gusts, .inl (gI g, 8, .inl f3)), (dr_cloths, .inl (gI g, 5, .inl f_dr_cloths)), (dr_trues, .inl (gI g, 5, .inl f_dr_trues)), (dr_strengths, .inl (gI g, 5, .inl f_dr_strengths)), (dr_reefs, .inl (gI g, 5, .inl f4)), (dr_pull, .inr (1, [.ref dr_pull_op, .ref dr_pull_nu, dr_pull_stack, .int 0, .int 0, .int 0])), (dr_pull_op, .inl (gI g, 300, .inl f_dr_pull_op)), (dr_pull_nu, .inl (gI g, 300, .inl f_dr_pull_nu)), (dr_hold, .inr (1, [.ref dr_hold_op, .ref dr_hold_nu, dr_hold_stack, .int 0, .int 0, .int 0])), (dr_hold_op, .inl (gI g, 300, .inl f_dr_hold_op)), (dr_hold_nu, .inl (gI g, 300, .inl f_dr_hold_nu))] := hD
  refine lv_aload_n hx hb dX10_town_35 rfl (lv_at hl 0 rfl) ?_
  refine lv_iconst (v := 0) hx hb dX10_town_36 (by decide) ?_
  refine va_put (D := g.1) (ci := 10) (v := Value.int 0) (ty := .int) (C := RX10) (T := TX10) (N := 14) hx hb hts inlX10 tyX10 tyX10_ok nmX10 hown hK hP hD hS 0 rfl rfl 1 (by decide) (hts _ q15_14) (fun _ h9 => h9) rfl (by decide +kernel) rfl rfl (Nat.le_of_ble_eq_true rfl) dX10_town_37 (fun H locs hP hD hS => ?_)
  have hP : va_P g.1 vwCl [(h0, .inr (10, [.ref tp, .int 0, .ref rd, .ref dr, .ref to, h0_course, .ref no, .ref hi, h0_boxes, .ref bf, .ref ly, h0_outlook, .ref si, .int h0_time])), (no, .inr (7, [.ref no_or, .ref no_re, .ref no_ch, .ref no_ho, .ref no_gu, .int no_up, .int no_standing, .int no_day, .int no_seed, .int no_firstTrue])), (no_or, .inl (gI g, 5, .inl f_no_or)), (no_re, .inl (gI g, 5, .inl f_no_re)), (no_ch, .inl (gI g, 5, .inl f_no_ch)), (no_ho, .inl (gI g, 5, .inl f_no_ho)), (no_gu, .inl (gI g, 5, .inl f_no_gu)), (hi, .inr (2, [.ref hi_st, .int hi_oldest, .int hi_undoable, .int hi_redoable])), (hi_st, .inl (gO g, 41, .inr (.inr (.inr (.inr f_hi_st))))), (s0, .inr (7, [.ref s0_or, .ref s0_re, .ref s0_ch, .ref s0_ho, .ref s0_gu, .int s0_up, .int s0_standing, .int s0_day, .int s0_seed, .int s0_firstTrue])), (s0_or, .inl (gI g, 5, .inl f_s0_or)), (s0_re, .inl (gI g, 5, .inl f_s0_re)), (s0_ch, .inl (gI g, 5, .inl f_s0_ch)), (s0_ho, .inl (gI g, 5, .inl f_s0_ho)), (s0_gu, .inl (gI g, 5, .inl f_s0_gu)), (ly, .inr (3, [ly_numbers, .int ly_count])), (si, .inr (6, [si_course, si_trial, si_corners, si_guilds, si_wasUp, si_toldAt, si_untoldAt, si_untold, si_upBehind, si_fitting, si_groups, .int si_isWalked, .int si_count])), (bf, .inl (gZ g, 3, .inl f_bf)), (rd, .inr (5, [.ref tk, .int 0, .int rd_number, .int 0, .int (-1)])), (tk, .inr (8, [tk_spellings, .ref tp, .int 0, .int 0, .int 0, .int 0, .int tk_word, .long tk_spelling, .int tk_number, .int tk_sign])), (tp, .inl (gB g, 1600, .inl f_tp)), (to, .inr (9, [.int 0, .int 0, .int 0, .int 0, .int to_drawTold, to_cornerNames, .ref to_winds, .ref to_lees, .ref to_gustChances, .ref to_gusts, to_guildNames, .ref to_cloths, .ref to_trues, .ref to_strengths, .ref to_reefs, .ref to_pull, .ref to_hold])), (to_winds, .inl (gI g, 8, .inl f6)), (to_lees, .inl (gI g, 8, .inl f7)), (to_gustChances, .inl (gI g, 8, .inl f8)), (to_gusts, .inl (gI g, 8, .inl f9)), (to_cloths, .inl (gI g, 5, .inl f10)), (to_trues, .inl (gI g, 5, .inl f11)), (to_strengths, .inl (gI g, 5, .inl f12)), (to_reefs, .inl (gI g, 5, .inl f13)), (to_pull, .inr (1, [.ref to_pull_op, .ref to_pull_nu, to_pull_stack, .int 0, .int 0, .int 0])), (to_pull_op, .inl (gI g, 300, .inl f14)), (to_pull_nu, .inl (gI g, 300, .inl f15)), (to_hold, .inr (1, [.ref to_hold_op, .ref to_hold_nu, to_hold_stack, .int 0, .int 0, .int 0])), (to_hold_op, .inl (gI g, 300, .inl f16)), (to_hold_nu, .inl (gI g, 300, .inl f17)), (dr, .inr (9, [.int 0, .int 0, .int 0, .int 0, .int 0, dr_cornerNames, .ref dr_winds, .ref dr_lees, .ref dr_gustChances, .ref dr_gusts, dr_guildNames, .ref dr_cloths, .ref dr_trues, .ref dr_strengths, .ref dr_reefs, .ref dr_pull, .ref dr_hold])), (dr_winds, .inl (gI g, 8, .inl f_dr_winds)), (dr_lees, .inl (gI g, 8, .inl f1)), (dr_gustChances, .inl (gI g, 8, .inl f2)), (dr_gusts, .inl (gI g, 8, .inl f3)), (dr_cloths, .inl (gI g, 5, .inl f_dr_cloths)), (dr_trues, .inl (gI g, 5, .inl f_dr_trues)), (dr_strengths, .inl (gI g, 5, .inl f_dr_strengths)), (dr_reefs, .inl (gI g, 5, .inl f4)), (dr_pull, .inr (1, [.ref dr_pull_op, .ref dr_pull_nu, dr_pull_stack, .int 0, .int 0, .int 0])), (dr_pull_op, .inl (gI g, 300, .inl f_dr_pull_op)), (dr_pull_nu, .inl (gI g, 300, .inl f_dr_pull_nu)), (dr_hold, .inr (1, [.ref dr_hold_op, .ref dr_hold_nu, dr_hold_stack, .int 0, .int 0, .int 0])), (dr_hold_op, .inl (gI g, 300, .inl f_dr_hold_op)), (dr_hold_nu, .inl (gI g, 300, .inl f_dr_hold_nu))] H := hP
  have hD : va_D A [(h0, .inr (10, [.ref tp, .int 0, .ref rd, .ref dr, .ref to, h0_course, .ref no, .ref hi, h0_boxes, .ref bf, .ref ly, h0_outlook, .ref si, .int h0_time])), (no, .inr (7, [.ref no_or, .ref no_re, .ref no_ch, .ref no_ho, .ref no_gu, .int no_up, .int no_standing, .int no_day, .int no_seed, .int no_firstTrue])), (no_or, .inl (gI g, 5, .inl f_no_or)), (no_re, .inl (gI g, 5, .inl f_no_re)), (no_ch, .inl (gI g, 5, .inl f_no_ch)), (no_ho, .inl (gI g, 5, .inl f_no_ho)), (no_gu, .inl (gI g, 5, .inl f_no_gu)), (hi, .inr (2, [.ref hi_st, .int hi_oldest, .int hi_undoable, .int hi_redoable])), (hi_st, .inl (gO g, 41, .inr (.inr (.inr (.inr f_hi_st))))), (s0, .inr (7, [.ref s0_or, .ref s0_re, .ref s0_ch, .ref s0_ho, .ref s0_gu, .int s0_up, .int s0_standing, .int s0_day, .int s0_seed, .int s0_firstTrue])), (s0_or, .inl (gI g, 5, .inl f_s0_or)), (s0_re, .inl (gI g, 5, .inl f_s0_re)), (s0_ch, .inl (gI g, 5, .inl f_s0_ch)), (s0_ho, .inl (gI g, 5, .inl f_s0_ho)), (s0_gu, .inl (gI g, 5, .inl f_s0_gu)), (ly, .inr (3, [ly_numbers, .int ly_count])), (si, .inr (6, [si_course, si_trial, si_corners, si_guilds, si_wasUp, si_toldAt, si_untoldAt, si_untold, si_upBehind, si_fitting, si_groups, .int si_isWalked, .int si_count])), (bf, .inl (gZ g, 3, .inl f_bf)), (rd, .inr (5, [.ref tk, .int 0, .int rd_number, .int 0, .int (-1)])), (tk, .inr (8, [tk_spellings, .ref tp, .int 0, .int 0, .int 0, .int 0, .int tk_word, .long tk_spelling, .int tk_number, .int tk_sign])), (tp, .inl (gB g, 1600, .inl f_tp)), (to, .inr (9, [.int 0, .int 0, .int 0, .int 0, .int to_drawTold, to_cornerNames, .ref to_winds, .ref to_lees, .ref to_gustChances, .ref to_gusts, to_guildNames, .ref to_cloths, .ref to_trues, .ref to_strengths, .ref to_reefs, .ref to_pull, .ref to_hold])), (to_winds, .inl (gI g, 8, .inl f6)), (to_lees, .inl (gI g, 8, .inl f7)), (to_gustChances, .inl (gI g, 8, .inl f8)), (to_gusts, .inl (gI g, 8, .inl f9)), (to_cloths, .inl (gI g, 5, .inl f10)), (to_trues, .inl (gI g, 5, .inl f11)), (to_strengths, .inl (gI g, 5, .inl f12)), (to_reefs, .inl (gI g, 5, .inl f13)), (to_pull, .inr (1, [.ref to_pull_op, .ref to_pull_nu, to_pull_stack, .int 0, .int 0, .int 0])), (to_pull_op, .inl (gI g, 300, .inl f14)), (to_pull_nu, .inl (gI g, 300, .inl f15)), (to_hold, .inr (1, [.ref to_hold_op, .ref to_hold_nu, to_hold_stack, .int 0, .int 0, .int 0])), (to_hold_op, .inl (gI g, 300, .inl f16)), (to_hold_nu, .inl (gI g, 300, .inl f17)), (dr, .inr (9, [.int 0, .int 0, .int 0, .int 0, .int 0, dr_cornerNames, .ref dr_winds, .ref dr_lees, .ref dr_gustChances, .ref dr_gusts, dr_guildNames, .ref dr_cloths, .ref dr_trues, .ref dr_strengths, .ref dr_reefs, .ref dr_pull, .ref dr_hold])), (dr_winds, .inl (gI g, 8, .inl f_dr_winds)), (dr_lees, .inl (gI g, 8, .inl f1)), (dr_gustChances, .inl (gI g, 8, .inl f2)), (dr_gusts, .inl (gI g, 8, .inl f3)), (dr_cloths, .inl (gI g, 5, .inl f_dr_cloths)), (dr_trues, .inl (gI g, 5, .inl f_dr_trues)), (dr_strengths, .inl (gI g, 5, .inl f_dr_strengths)), (dr_reefs, .inl (gI g, 5, .inl f4)), (dr_pull, .inr (1, [.ref dr_pull_op, .ref dr_pull_nu, dr_pull_stack, .int 0, .int 0, .int 0])), (dr_pull_op, .inl (gI g, 300, .inl f_dr_pull_op)), (dr_pull_nu, .inl (gI g, 300, .inl f_dr_pull_nu)), (dr_hold, .inr (1, [.ref dr_hold_op, .ref dr_hold_nu, dr_hold_stack, .int 0, .int 0, .int 0])), (dr_hold_op, .inl (gI g, 300, .inl f_dr_hold_op)), (dr_hold_nu, .inl (gI g, 300, .inl f_dr_hold_nu))] := hD
  refine lv_aload_n hx hb dX10_town_40 rfl (lv_at hl 0 rfl) ?_
  refine kV (wc := [(h0, .inr (10, [.ref tp, .int 0, .ref rd, .ref dr, .ref to, h0_course, .ref no, .ref hi, h0_boxes, .ref bf, .ref ly, h0_outlook, .ref si, .int h0_time])), (no, .inr (7, [.ref no_or, .ref no_re, .ref no_ch, .ref no_ho, .ref no_gu, .int no_up, .int no_standing, .int no_day, .int no_seed, .int no_firstTrue])), (no_or, .inl (gI g, 5, .inl f_no_or)), (no_re, .inl (gI g, 5, .inl f_no_re)), (no_ch, .inl (gI g, 5, .inl f_no_ch)), (no_ho, .inl (gI g, 5, .inl f_no_ho)), (no_gu, .inl (gI g, 5, .inl f_no_gu)), (to, .inr (9, [.int 0, .int 0, .int 0, .int 0, .int to_drawTold, to_cornerNames, .ref to_winds, .ref to_lees, .ref to_gustChances, .ref to_gusts, to_guildNames, .ref to_cloths, .ref to_trues, .ref to_strengths, .ref to_reefs, .ref to_pull, .ref to_hold])), (to_reefs, .inl (gI g, 5, .inl f13)), (to_trues, .inl (gI g, 5, .inl f11)), (hi, .inr (2, [.ref hi_st, .int hi_oldest, .int hi_undoable, .int hi_redoable])), (hi_st, .inl (gO g, 41, .inr (.inr (.inr (.inr f_hi_st))))), (s0, .inr (7, [.ref s0_or, .ref s0_re, .ref s0_ch, .ref s0_ho, .ref s0_gu, .int s0_up, .int s0_standing, .int s0_day, .int s0_seed, .int s0_firstTrue])), (s0_or, .inl (gI g, 5, .inl f_s0_or)), (s0_re, .inl (gI g, 5, .inl f_s0_re)), (s0_ch, .inl (gI g, 5, .inl f_s0_ch)), (s0_ho, .inl (gI g, 5, .inl f_s0_ho)), (s0_gu, .inl (gI g, 5, .inl f_s0_gu)), (ly, .inr (3, [ly_numbers, .int ly_count])), (si, .inr (6, [si_course, si_trial, si_corners, si_guilds, si_wasUp, si_toldAt, si_untoldAt, si_untold, si_upBehind, si_fitting, si_groups, .int si_isWalked, .int si_count])), (bf, .inl (gZ g, 3, .inl f_bf))]) (wr := [(rd, .inr (5, [.ref tk, .int 0, .int rd_number, .int 0, .int (-1)])), (tk, .inr (8, [tk_spellings, .ref tp, .int 0, .int 0, .int 0, .int 0, .int tk_word, .long tk_spelling, .int tk_number, .int tk_sign])), (tp, .inl (gB g, 1600, .inl f_tp)), (to_winds, .inl (gI g, 8, .inl f6)), (to_lees, .inl (gI g, 8, .inl f7)), (to_gustChances, .inl (gI g, 8, .inl f8)), (to_gusts, .inl (gI g, 8, .inl f9)), (to_cloths, .inl (gI g, 5, .inl f10)), (to_strengths, .inl (gI g, 5, .inl f12)), (to_pull, .inr (1, [.ref to_pull_op, .ref to_pull_nu, to_pull_stack, .int 0, .int 0, .int 0])), (to_pull_op, .inl (gI g, 300, .inl f14)), (to_pull_nu, .inl (gI g, 300, .inl f15)), (to_hold, .inr (1, [.ref to_hold_op, .ref to_hold_nu, to_hold_stack, .int 0, .int 0, .int 0])), (to_hold_op, .inl (gI g, 300, .inl f16)), (to_hold_nu, .inl (gI g, 300, .inl f17)), (dr, .inr (9, [.int 0, .int 0, .int 0, .int 0, .int 0, dr_cornerNames, .ref dr_winds, .ref dr_lees, .ref dr_gustChances, .ref dr_gusts, dr_guildNames, .ref dr_cloths, .ref dr_trues, .ref dr_strengths, .ref dr_reefs, .ref dr_pull, .ref dr_hold])), (dr_winds, .inl (gI g, 8, .inl f_dr_winds)), (dr_lees, .inl (gI g, 8, .inl f1)), (dr_gustChances, .inl (gI g, 8, .inl f2)), (dr_gusts, .inl (gI g, 8, .inl f3)), (dr_cloths, .inl (gI g, 5, .inl f_dr_cloths)), (dr_trues, .inl (gI g, 5, .inl f_dr_trues)), (dr_strengths, .inl (gI g, 5, .inl f_dr_strengths)), (dr_reefs, .inl (gI g, 5, .inl f4)), (dr_pull, .inr (1, [.ref dr_pull_op, .ref dr_pull_nu, dr_pull_stack, .int 0, .int 0, .int 0])), (dr_pull_op, .inl (gI g, 300, .inl f_dr_pull_op)), (dr_pull_nu, .inl (gI g, 300, .inl f_dr_pull_nu)), (dr_hold, .inr (1, [.ref dr_hold_op, .ref dr_hold_nu, dr_hold_stack, .int 0, .int 0, .int 0])), (dr_hold_op, .inl (gI g, 300, .inl f_dr_hold_op)), (dr_hold_nu, .inl (gI g, 300, .inl f_dr_hold_nu))]) (rV (As := []) (rest := []) (meth2 := "") hcx (c_X10_beginAnew (h_f_hi_st_0) H.size) (gdV q10_13 q10_14 q10_15 q1_2 q10_16) dvX10_beginAnew ⟨Nat.le_of_ble_eq_true rfl, Nat.le_of_ble_eq_true rfl⟩ (hP.sub [0, 1, 2, 3, 4, 5, 6, 21, 29, 27, 7, 8, 9, 10, 11, 12, 13, 14, 15, 16, 17] rfl) (hD.sub [0, 1, 2, 3, 4, 5, 6, 21, 29, 27, 7, 8, 9, 10, 11, 12, 13, 14, 15, 16, 17] (by decide) rfl) (va_recv hK hP (ci := 10) (q0 := 0) rfl rfl) rfl hl.1 rfl (Nat.le_of_ble_eq_true rfl) dX10_town_41 ⟨Nat.le_of_ble_eq_true rfl, Nat.le_of_ble_eq_true rfl⟩) hP hD hS hA [0, 1, 2, 3, 4, 5, 6, 21, 29, 27, 7, 8, 9, 10, 11, 12, 13, 14, 15, 16, 17] [18, 19, 20, 22, 23, 24, 25, 26, 28, 30, 31, 32, 33, 34, 35, 36, 37, 38, 39, 40, 41, 42, 43, 44, 45, 46, 47, 48, 49, 50] rfl rfl (by decide) (by decide) (fun W' H locs hw hP hD hS => ?_)
  obtain ⟨x18, f19, f20, f21, f22, f23, x24, f25, f26, f27, f28, f29, f30, rfl, hf31, hf32, hf33⟩ := hw
  have hP : va_P g.1 vwCl [(rd, .inr (5, [.ref tk, .int 0, .int rd_number, .int 0, .int (-1)])), (tk, .inr (8, [tk_spellings, .ref tp, .int 0, .int 0, .int 0, .int 0, .int tk_word, .long tk_spelling, .int tk_number, .int tk_sign])), (tp, .inl (gB g, 1600, .inl f_tp)), (to_winds, .inl (gI g, 8, .inl f6)), (to_lees, .inl (gI g, 8, .inl f7)), (to_gustChances, .inl (gI g, 8, .inl f8)), (to_gusts, .inl (gI g, 8, .inl f9)), (to_cloths, .inl (gI g, 5, .inl f10)), (to_strengths, .inl (gI g, 5, .inl f12)), (to_pull, .inr (1, [.ref to_pull_op, .ref to_pull_nu, to_pull_stack, .int 0, .int 0, .int 0])), (to_pull_op, .inl (gI g, 300, .inl f14)), (to_pull_nu, .inl (gI g, 300, .inl f15)), (to_hold, .inr (1, [.ref to_hold_op, .ref to_hold_nu, to_hold_stack, .int 0, .int 0, .int 0])), (to_hold_op, .inl (gI g, 300, .inl f16)), (to_hold_nu, .inl (gI g, 300, .inl f17)), (dr, .inr (9, [.int 0, .int 0, .int 0, .int 0, .int 0, dr_cornerNames, .ref dr_winds, .ref dr_lees, .ref dr_gustChances, .ref dr_gusts, dr_guildNames, .ref dr_cloths, .ref dr_trues, .ref dr_strengths, .ref dr_reefs, .ref dr_pull, .ref dr_hold])), (dr_winds, .inl (gI g, 8, .inl f_dr_winds)), (dr_lees, .inl (gI g, 8, .inl f1)), (dr_gustChances, .inl (gI g, 8, .inl f2)), (dr_gusts, .inl (gI g, 8, .inl f3)), (dr_cloths, .inl (gI g, 5, .inl f_dr_cloths)), (dr_trues, .inl (gI g, 5, .inl f_dr_trues)), (dr_strengths, .inl (gI g, 5, .inl f_dr_strengths)), (dr_reefs, .inl (gI g, 5, .inl f4)), (dr_pull, .inr (1, [.ref dr_pull_op, .ref dr_pull_nu, dr_pull_stack, .int 0, .int 0, .int 0])), (dr_pull_op, .inl (gI g, 300, .inl f_dr_pull_op)), (dr_pull_nu, .inl (gI g, 300, .inl f_dr_pull_nu)), (dr_hold, .inr (1, [.ref dr_hold_op, .ref dr_hold_nu, dr_hold_stack, .int 0, .int 0, .int 0])), (dr_hold_op, .inl (gI g, 300, .inl f_dr_hold_op)), (dr_hold_nu, .inl (gI g, 300, .inl f_dr_hold_nu)), (h0, .inr (10, [.ref tp, .int 0, .ref rd, .ref dr, .ref to, h0_course, .ref no, .ref hi, h0_boxes, .ref bf, .ref ly, h0_outlook, .ref si, .int h0_time])), (no, .inr (7, [.ref no_or, .ref no_re, .ref no_ch, .ref no_ho, .ref no_gu, .int 0, .int 0, .int 0, .int 0, .int x18])), (no_or, .inl (gI g, 5, .inl f19)), (no_re, .inl (gI g, 5, .inl f20)), (no_ch, .inl (gI g, 5, .inl f21)), (no_ho, .inl (gI g, 5, .inl f22)), (no_gu, .inl (gI g, 5, .inl f23)), (to, .inr (9, [.int 0, .int 0, .int 0, .int 0, .int to_drawTold, to_cornerNames, .ref to_winds, .ref to_lees, .ref to_gustChances, .ref to_gusts, to_guildNames, .ref to_cloths, .ref to_trues, .ref to_strengths, .ref to_reefs, .ref to_pull, .ref to_hold])), (to_reefs, .inl (gI g, 5, .inl f13)), (to_trues, .inl (gI g, 5, .inl f11)), (hi, .inr (2, [.ref hi_st, .int 0, .int 0, .int 0])), (hi_st, .inl (gO g, 41, .inr (.inr (.inr (.inr f_hi_st))))), (s0, .inr (7, [.ref s0_or, .ref s0_re, .ref s0_ch, .ref s0_ho, .ref s0_gu, .int 0, .int 0, .int 0, .int 0, .int x24])), (s0_or, .inl (gI g, 5, .inl f25)), (s0_re, .inl (gI g, 5, .inl f26)), (s0_ch, .inl (gI g, 5, .inl f27)), (s0_ho, .inl (gI g, 5, .inl f28)), (s0_gu, .inl (gI g, 5, .inl f29)), (ly, .inr (3, [ly_numbers, .int 0])), (si, .inr (6, [si_course, si_trial, si_corners, si_guilds, si_wasUp, si_toldAt, si_untoldAt, si_untold, si_upBehind, si_fitting, si_groups, .int 0, .int 0])), (bf, .inl (gZ g, 3, .inl f30))] H := hP
  have hD : va_D A [(rd, .inr (5, [.ref tk, .int 0, .int rd_number, .int 0, .int (-1)])), (tk, .inr (8, [tk_spellings, .ref tp, .int 0, .int 0, .int 0, .int 0, .int tk_word, .long tk_spelling, .int tk_number, .int tk_sign])), (tp, .inl (gB g, 1600, .inl f_tp)), (to_winds, .inl (gI g, 8, .inl f6)), (to_lees, .inl (gI g, 8, .inl f7)), (to_gustChances, .inl (gI g, 8, .inl f8)), (to_gusts, .inl (gI g, 8, .inl f9)), (to_cloths, .inl (gI g, 5, .inl f10)), (to_strengths, .inl (gI g, 5, .inl f12)), (to_pull, .inr (1, [.ref to_pull_op, .ref to_pull_nu, to_pull_stack, .int 0, .int 0, .int 0])), (to_pull_op, .inl (gI g, 300, .inl f14)), (to_pull_nu, .inl (gI g, 300, .inl f15)), (to_hold, .inr (1, [.ref to_hold_op, .ref to_hold_nu, to_hold_stack, .int 0, .int 0, .int 0])), (to_hold_op, .inl (gI g, 300, .inl f16)), (to_hold_nu, .inl (gI g, 300, .inl f17)), (dr, .inr (9, [.int 0, .int 0, .int 0, .int 0, .int 0, dr_cornerNames, .ref dr_winds, .ref dr_lees, .ref dr_gustChances, .ref dr_gusts, dr_guildNames, .ref dr_cloths, .ref dr_trues, .ref dr_strengths, .ref dr_reefs, .ref dr_pull, .ref dr_hold])), (dr_winds, .inl (gI g, 8, .inl f_dr_winds)), (dr_lees, .inl (gI g, 8, .inl f1)), (dr_gustChances, .inl (gI g, 8, .inl f2)), (dr_gusts, .inl (gI g, 8, .inl f3)), (dr_cloths, .inl (gI g, 5, .inl f_dr_cloths)), (dr_trues, .inl (gI g, 5, .inl f_dr_trues)), (dr_strengths, .inl (gI g, 5, .inl f_dr_strengths)), (dr_reefs, .inl (gI g, 5, .inl f4)), (dr_pull, .inr (1, [.ref dr_pull_op, .ref dr_pull_nu, dr_pull_stack, .int 0, .int 0, .int 0])), (dr_pull_op, .inl (gI g, 300, .inl f_dr_pull_op)), (dr_pull_nu, .inl (gI g, 300, .inl f_dr_pull_nu)), (dr_hold, .inr (1, [.ref dr_hold_op, .ref dr_hold_nu, dr_hold_stack, .int 0, .int 0, .int 0])), (dr_hold_op, .inl (gI g, 300, .inl f_dr_hold_op)), (dr_hold_nu, .inl (gI g, 300, .inl f_dr_hold_nu)), (h0, .inr (10, [.ref tp, .int 0, .ref rd, .ref dr, .ref to, h0_course, .ref no, .ref hi, h0_boxes, .ref bf, .ref ly, h0_outlook, .ref si, .int h0_time])), (no, .inr (7, [.ref no_or, .ref no_re, .ref no_ch, .ref no_ho, .ref no_gu, .int 0, .int 0, .int 0, .int 0, .int x18])), (no_or, .inl (gI g, 5, .inl f19)), (no_re, .inl (gI g, 5, .inl f20)), (no_ch, .inl (gI g, 5, .inl f21)), (no_ho, .inl (gI g, 5, .inl f22)), (no_gu, .inl (gI g, 5, .inl f23)), (to, .inr (9, [.int 0, .int 0, .int 0, .int 0, .int to_drawTold, to_cornerNames, .ref to_winds, .ref to_lees, .ref to_gustChances, .ref to_gusts, to_guildNames, .ref to_cloths, .ref to_trues, .ref to_strengths, .ref to_reefs, .ref to_pull, .ref to_hold])), (to_reefs, .inl (gI g, 5, .inl f13)), (to_trues, .inl (gI g, 5, .inl f11)), (hi, .inr (2, [.ref hi_st, .int 0, .int 0, .int 0])), (hi_st, .inl (gO g, 41, .inr (.inr (.inr (.inr f_hi_st))))), (s0, .inr (7, [.ref s0_or, .ref s0_re, .ref s0_ch, .ref s0_ho, .ref s0_gu, .int 0, .int 0, .int 0, .int 0, .int x24])), (s0_or, .inl (gI g, 5, .inl f25)), (s0_re, .inl (gI g, 5, .inl f26)), (s0_ch, .inl (gI g, 5, .inl f27)), (s0_ho, .inl (gI g, 5, .inl f28)), (s0_gu, .inl (gI g, 5, .inl f29)), (ly, .inr (3, [ly_numbers, .int 0])), (si, .inr (6, [si_course, si_trial, si_corners, si_guilds, si_wasUp, si_toldAt, si_untoldAt, si_untold, si_upBehind, si_fitting, si_groups, .int 0, .int 0])), (bf, .inl (gZ g, 3, .inl f30))] := hD
  refine lv_aload_n hx hb dX10_town_44 rfl (lv_at hl 0 rfl) ?_
  refine va_get (D := g.1) (ci := 10) (v := Value.ref to) (C := RX10) (T := TX10) (N := 14) hx hb hts inlX10 hown hK hP 30 rfl rfl 4 (by decide) (hts _ q1_22) (fun _ h9 => h9) rfl dX10_town_45 ?_
  refine va_get (D := g.1) (ci := 9) (v := Value.int 0) (C := RX9) (T := TX9) (N := 17) hx hb hts inlX9 hown hK hP 37 rfl rfl 2 (by decide) (hts _ q16_12) (fun _ h9 => h9) rfl dX10_town_48 ?_
  have hP9 : va_P g.1 vwCl [] H := hP.sub [] rfl
  have hD9 : va_D A [] := hD.sub [] (by decide) rfl
  exact xi hx hb hr hlocks rfl hP9 hD9 hS ⟨rfl, rfl⟩ (Nat.le_of_ble_eq_true rfl) (Nat.le_of_ble_eq_true rfl) dX10_town_51
