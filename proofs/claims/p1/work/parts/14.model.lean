theorem up_inv {f : Nat → Int32} {k : Nat} (h : ∀ j, j < k → f j = 0) : ∀ j, j < k + 1 → upd f k 0 j = 0 := by
  intro j hj
  by_cases e : j = k
  · subst e; exact pk_us
  · rw [pk_un e]; exact h j (by omega)
set_option maxHeartbeats 4000000 in
set_option maxRecDepth 100000 in
theorem c_X11_many_1 {l : Launch} {g : Gx} {h0 gu : Nat} {fs : List Value} {f_gu : Nat → Int32} (hl_fs : fs.length = 69) (h_fs_guilds : fs[12]? = some (Value.ref gu)) (h_fs_bank : fs[34]? = some (Value.int 1)) (h_f_gu_1 : f_gu 1 = 0) : MI l g yX11_many cX11_many 1 (some .int) 2 0 0 [.ref h0] [(h0, .inr (11, fs)), (gu, .inl (gI g, 2, .inl f_gu))] (fun r W' => 0 = r ∧ W' = [(h0, .inr (11, fs)), (gu, .inl (gI g, 2, .inl f_gu))]) := by
  refine MIof (by decide) (Nat.le_of_ble_eq_true rfl) ?_
  intro p e s m below meth c A ls H locs hcx hA hP hD hS hl
  obtain ⟨hx, hb, hml, hr, hlocks, hown, hts, hE, hnm⟩ := id hcx
  have hown : s.vm.findClass RX11 = some m.cls := hown
  have hK := hE.1
  have hl : lv_has ls 1 [(0, .ref h0)] := hl
  refine lv_aload_n hx hb dX11_many_0 rfl (lv_at hl 0 rfl) ?_
  refine va_get (D := g.1) (ci := 11) (v := Value.ref gu) (C := RX11) (T := TX11) (N := 69) hx hb hts inlX11 hown hK hP 0 rfl rfl 12 (by decide) (hts _ q12_19) (fun _ h9 => h9) h_fs_guilds dX11_many_1 ?_
  refine lv_aload_n hx hb dX11_many_4 rfl (lv_at hl 0 rfl) ?_
  refine va_get (D := g.1) (ci := 11) (v := Value.int 1) (C := RX11) (T := TX11) (N := 69) hx hb hts inlX11 hown hK hP 0 rfl rfl 34 (by decide) (hts _ q14_21) (fun _ h9 => h9) h_fs_bank dX11_many_5 ?_
  refine ia_ld hx hb hK hP 1 1 rfl rfl (1) rfl (by decide) (by decide) dX11_many_8 ?_
  refine lv_tope (y := 0) h_f_gu_1 ?_
  exact xi hx hb hr hlocks rfl hP hD hS ⟨rfl, rfl⟩ (Nat.le_of_ble_eq_true rfl) (Nat.le_of_ble_eq_true rfl) dX11_many_9

set_option maxHeartbeats 4000000 in
set_option maxRecDepth 100000 in
theorem c_X11_full_1 {l : Launch} {g : Gx} {h0 gu : Nat} {fs : List Value} {f_gu : Nat → Int32} (hl_fs : fs.length = 69) (h_fs_guilds : fs[12]? = some (Value.ref gu)) (h_fs_bank : fs[34]? = some (Value.int 1)) (h_f_gu_1 : f_gu 1 = 0) : MI l g yX11_full cX11_full 1 (some .int) 3 0 0 [.ref h0] [(h0, .inr (11, fs)), (gu, .inl (gI g, 2, .inl f_gu))] (fun r W' => 0 = r ∧ W' = [(h0, .inr (11, fs)), (gu, .inl (gI g, 2, .inl f_gu))]) := by
  refine MIof (by decide) (Nat.le_of_ble_eq_true rfl) ?_
  intro p e s m below meth c A ls H locs hcx hA hP hD hS hl
  obtain ⟨hx, hb, hml, hr, hlocks, hown, hts, hE, hnm⟩ := id hcx
  have hown : s.vm.findClass RX11 = some m.cls := hown
  have hK := hE.1
  have hl : lv_has ls 1 [(0, .ref h0)] := hl
  refine lv_iconst (v := 1) hx hb dX11_full_0 (by decide) ?_
  refine lv_aload_n hx hb dX11_full_1 rfl (lv_at hl 0 rfl) ?_
  refine kI (wc := [(h0, .inr (11, fs)), (gu, .inl (gI g, 2, .inl f_gu))]) (wr := []) (rV (As := []) (rest := [.int 1]) (meth2 := "") hcx (c_X11_many_1 (hl_fs) (h_fs_guilds) (h_fs_bank) (h_f_gu_1) H.size) (gdV q15_2 q15_3 q15_4 q1_5 q15_5) dvX11_many ⟨Nat.le_of_ble_eq_true rfl, Nat.le_of_ble_eq_true rfl⟩ (hP.sub [0, 1] rfl) (hD.sub [0, 1] (by decide) rfl) (va_recv hK hP (ci := 11) (q0 := 0) rfl rfl) rfl hl.1 rfl (Nat.le_of_ble_eq_true rfl) dX11_full_2 ⟨Nat.le_of_ble_eq_true rfl, Nat.le_of_ble_eq_true rfl⟩) hP hD hS hA [0, 1] [] rfl rfl (by decide) (by decide) (fun r W' H locs hw hP hD hS => ?_)
  obtain ⟨rfl, rfl⟩ := hw
  have hP : va_P g.1 vwCl [(h0, .inr (11, fs)), (gu, .inl (gI g, 2, .inl f_gu))] H := hP
  have hD : va_D A [(h0, .inr (11, fs)), (gu, .inl (gI g, 2, .inl f_gu))] := hD
  refine lv_ishl hx hb dX11_full_5 ?_
  refine lv_tope (y := 1) (by decide) ?_
  refine lv_iconst (v := 1) hx hb dX11_full_6 (by decide) ?_
  refine lv_isub hx hb dX11_full_7 ?_
  refine lv_tope (y := 0) (by decide) ?_
  exact xi hx hb hr hlocks rfl hP hD hS ⟨rfl, rfl⟩ (Nat.le_of_ble_eq_true rfl) (Nat.le_of_ble_eq_true rfl) dX11_full_8

set_option maxHeartbeats 4000000 in
set_option maxRecDepth 100000 in
theorem c_X11_isIn_c0 {l : Launch} {g : Gx}  : MI l g yX11_isIn cX11_isIn 3 (some .boolean) 2 0 0 [.int 0, .int 0, .int 2] [] (fun r W' => 1 = r ∧ W' = []) := by
  refine MIof (by decide) (Nat.le_of_ble_eq_true rfl) ?_
  intro p e s m below meth c A ls H locs hcx hA hP hD hS hl
  obtain ⟨hx, hb, hml, hr, hlocks, hown, hts, hE, hnm⟩ := id hcx
  have hown : s.vm.findClass RX11 = some m.cls := hown
  have hK := hE.1
  have hl : lv_has ls 3 [(0, .int 0), (1, .int 0), (2, .int 2)] := hl
  refine lv_iload_n hx hb dX11_isIn_0 rfl (lv_at hl 0 rfl) ?_
  refine lv_iload_n hx hb dX11_isIn_1 rfl (lv_at hl 1 rfl) ?_
  refine lv_icmp_lt (tgt := 14) hx hb dX11_isIn_2 (by decide) (fun c1 => absurd c1 (by decide)) (fun _ => ?_)
  refine lv_iload_n hx hb dX11_isIn_5 rfl (lv_at hl 0 rfl) ?_
  refine lv_iload_n hx hb dX11_isIn_6 rfl (lv_at hl 2 rfl) ?_
  refine lv_icmp_gt (tgt := 14) hx hb dX11_isIn_7 (by decide) (fun c2 => absurd c2 (by decide)) (fun _ => ?_)
  refine lv_iconst (v := 1) hx hb dX11_isIn_10 (by decide) ?_
  refine lv_goto (tgt := 15) hx hb dX11_isIn_11 (by decide) ?_
  exact xi hx hb hr hlocks rfl hP hD hS ⟨rfl, rfl⟩ (Nat.le_of_ble_eq_true rfl) (Nat.le_of_ble_eq_true rfl) dX11_isIn_15

set_option maxHeartbeats 4000000 in
set_option maxRecDepth 100000 in
theorem c_X11_isIn_c1 {l : Launch} {g : Gx}  : MI l g yX11_isIn cX11_isIn 3 (some .boolean) 2 0 0 [.int 1, .int 0, .int 2] [] (fun r W' => 1 = r ∧ W' = []) := by
  refine MIof (by decide) (Nat.le_of_ble_eq_true rfl) ?_
  intro p e s m below meth c A ls H locs hcx hA hP hD hS hl
  obtain ⟨hx, hb, hml, hr, hlocks, hown, hts, hE, hnm⟩ := id hcx
  have hown : s.vm.findClass RX11 = some m.cls := hown
  have hK := hE.1
  have hl : lv_has ls 3 [(0, .int 1), (1, .int 0), (2, .int 2)] := hl
  refine lv_iload_n hx hb dX11_isIn_0 rfl (lv_at hl 0 rfl) ?_
  refine lv_iload_n hx hb dX11_isIn_1 rfl (lv_at hl 1 rfl) ?_
  refine lv_icmp_lt (tgt := 14) hx hb dX11_isIn_2 (by decide) (fun c1 => absurd c1 (by decide)) (fun _ => ?_)
  refine lv_iload_n hx hb dX11_isIn_5 rfl (lv_at hl 0 rfl) ?_
  refine lv_iload_n hx hb dX11_isIn_6 rfl (lv_at hl 2 rfl) ?_
  refine lv_icmp_gt (tgt := 14) hx hb dX11_isIn_7 (by decide) (fun c2 => absurd c2 (by decide)) (fun _ => ?_)
  refine lv_iconst (v := 1) hx hb dX11_isIn_10 (by decide) ?_
  refine lv_goto (tgt := 15) hx hb dX11_isIn_11 (by decide) ?_
  exact xi hx hb hr hlocks rfl hP hD hS ⟨rfl, rfl⟩ (Nat.le_of_ble_eq_true rfl) (Nat.le_of_ble_eq_true rfl) dX11_isIn_15

set_option maxHeartbeats 4000000 in
set_option maxRecDepth 100000 in
theorem c_X11_isIn_c2 {l : Launch} {g : Gx}  : MI l g yX11_isIn cX11_isIn 3 (some .boolean) 2 0 0 [.int 2, .int 0, .int 2] [] (fun r W' => 1 = r ∧ W' = []) := by
  refine MIof (by decide) (Nat.le_of_ble_eq_true rfl) ?_
  intro p e s m below meth c A ls H locs hcx hA hP hD hS hl
  obtain ⟨hx, hb, hml, hr, hlocks, hown, hts, hE, hnm⟩ := id hcx
  have hown : s.vm.findClass RX11 = some m.cls := hown
  have hK := hE.1
  have hl : lv_has ls 3 [(0, .int 2), (1, .int 0), (2, .int 2)] := hl
  refine lv_iload_n hx hb dX11_isIn_0 rfl (lv_at hl 0 rfl) ?_
  refine lv_iload_n hx hb dX11_isIn_1 rfl (lv_at hl 1 rfl) ?_
  refine lv_icmp_lt (tgt := 14) hx hb dX11_isIn_2 (by decide) (fun c1 => absurd c1 (by decide)) (fun _ => ?_)
  refine lv_iload_n hx hb dX11_isIn_5 rfl (lv_at hl 0 rfl) ?_
  refine lv_iload_n hx hb dX11_isIn_6 rfl (lv_at hl 2 rfl) ?_
  refine lv_icmp_gt (tgt := 14) hx hb dX11_isIn_7 (by decide) (fun c2 => absurd c2 (by decide)) (fun _ => ?_)
  refine lv_iconst (v := 1) hx hb dX11_isIn_10 (by decide) ?_
  refine lv_goto (tgt := 15) hx hb dX11_isIn_11 (by decide) ?_
  exact xi hx hb hr hlocks rfl hP hD hS ⟨rfl, rfl⟩ (Nat.le_of_ble_eq_true rfl) (Nat.le_of_ble_eq_true rfl) dX11_isIn_15

set_option maxHeartbeats 4000000 in
set_option maxRecDepth 100000 in
theorem c_X11_clearBank_0 {l : Launch} {g : Gx} {h0 kcorners kguilds kgusts kunits kdraw ktold : Nat} {fs : List Value} {f_kcorners : Nat → Int32} {f_kguilds : Nat → Int32} {f_kgusts : Nat → Int32} {f_kunits : Nat → Int32} {f_kdraw : Nat → Int32} {f_ktold : Nat → Int32} (hl_fs : fs.length = 69) (h_fs_rb : fs[35]? = some (Value.int 0)) (h_fs_corners : fs[11]? = some (Value.ref kcorners)) (h_fs_guilds : fs[12]? = some (Value.ref kguilds)) (h_fs_gusts : fs[13]? = some (Value.ref kgusts)) (h_fs_units : fs[14]? = some (Value.ref kunits)) (h_fs_draw : fs[15]? = some (Value.ref kdraw)) (h_fs_told : fs[16]? = some (Value.ref ktold)) : MV l g yX11_clearBank cX11_clearBank 1 2 0 0 [.ref h0] [(h0, .inr (11, fs)), (kcorners, .inl (gI g, 2, .inl f_kcorners)), (kguilds, .inl (gI g, 2, .inl f_kguilds)), (kgusts, .inl (gI g, 2, .inl f_kgusts)), (kunits, .inl (gI g, 2, .inl f_kunits)), (kdraw, .inl (gI g, 2, .inl f_kdraw)), (ktold, .inl (gI g, 2, .inl f_ktold))] (fun W' => ∃ (z0 : Nat → Int32) (z1 : Nat → Int32) (z2 : Nat → Int32) (z3 : Nat → Int32) (z4 : Nat → Int32) (z5 : Nat → Int32), W' = [(h0, .inr (11, (fs.set 36 (.int 0)))), (kcorners, .inl (gI g, 2, .inl z0)), (kguilds, .inl (gI g, 2, .inl z1)), (kgusts, .inl (gI g, 2, .inl z2)), (kunits, .inl (gI g, 2, .inl z3)), (kdraw, .inl (gI g, 2, .inl z4)), (ktold, .inl (gI g, 2, .inl z5))] ∧ z0 0 = 0 ∧ z1 0 = 0 ∧ z2 0 = 0 ∧ z3 0 = 0 ∧ z4 0 = 0 ∧ z5 0 = 0) := by
  refine MVof (by decide) (Nat.le_of_ble_eq_true rfl) ?_
  intro p e s m below meth c A ls H locs hcx hA hP hD hS hl
  obtain ⟨hx, hb, hml, hr, hlocks, hown, hts, hE, hnm⟩ := id hcx
  have hown : s.vm.findClass RX11 = some m.cls := hown
  have hK := hE.1
  have hl : lv_has ls 1 [(0, .ref h0)] := hl
  refine lv_aload_n hx hb dX11_clearBank_0 rfl (lv_at hl 0 rfl) ?_
  refine va_get (D := g.1) (ci := 11) (v := Value.ref kcorners) (C := RX11) (T := TX11) (N := 69) hx hb hts inlX11 hown hK hP 0 rfl rfl 11 (by decide) (hts _ q12_18) (fun _ h9 => h9) h_fs_corners dX11_clearBank_1 ?_
  refine lv_aload_n hx hb dX11_clearBank_4 rfl (lv_at hl 0 rfl) ?_
  refine va_get (D := g.1) (ci := 11) (v := Value.int 0) (C := RX11) (T := TX11) (N := 69) hx hb hts inlX11 hown hK hP 0 rfl rfl 35 (by decide) (hts _ q14_15) (fun _ h9 => h9) h_fs_rb dX11_clearBank_5 ?_
  refine lv_iconst (v := 0) hx hb dX11_clearBank_8 (by decide) ?_
  refine ia_st hx hb hK hP hD hS 1 1 rfl rfl (0) rfl (by decide) (by decide) dX11_clearBank_9 (fun f1 H locs ef1 hP hD hS => ?_)
  have hf1_0 : f1 0 = 0 := by rw [ef1]; exact pk_us
  have hP : va_P g.1 vwCl [(h0, .inr (11, fs)), (kcorners, .inl (gI g, 2, .inl f1)), (kguilds, .inl (gI g, 2, .inl f_kguilds)), (kgusts, .inl (gI g, 2, .inl f_kgusts)), (kunits, .inl (gI g, 2, .inl f_kunits)), (kdraw, .inl (gI g, 2, .inl f_kdraw)), (ktold, .inl (gI g, 2, .inl f_ktold))] H := hP
  have hD : va_D A [(h0, .inr (11, fs)), (kcorners, .inl (gI g, 2, .inl f1)), (kguilds, .inl (gI g, 2, .inl f_kguilds)), (kgusts, .inl (gI g, 2, .inl f_kgusts)), (kunits, .inl (gI g, 2, .inl f_kunits)), (kdraw, .inl (gI g, 2, .inl f_kdraw)), (ktold, .inl (gI g, 2, .inl f_ktold))] := hD
  refine lv_aload_n hx hb dX11_clearBank_10 rfl (lv_at hl 0 rfl) ?_
  refine va_get (D := g.1) (ci := 11) (v := Value.ref kguilds) (C := RX11) (T := TX11) (N := 69) hx hb hts inlX11 hown hK hP 0 rfl rfl 12 (by decide) (hts _ q12_19) (fun _ h9 => h9) h_fs_guilds dX11_clearBank_11 ?_
  refine lv_aload_n hx hb dX11_clearBank_14 rfl (lv_at hl 0 rfl) ?_
  refine va_get (D := g.1) (ci := 11) (v := Value.int 0) (C := RX11) (T := TX11) (N := 69) hx hb hts inlX11 hown hK hP 0 rfl rfl 35 (by decide) (hts _ q14_15) (fun _ h9 => h9) h_fs_rb dX11_clearBank_15 ?_
  refine lv_iconst (v := 0) hx hb dX11_clearBank_18 (by decide) ?_
  refine ia_st hx hb hK hP hD hS 2 1 rfl rfl (0) rfl (by decide) (by decide) dX11_clearBank_19 (fun f2 H locs ef2 hP hD hS => ?_)
  have hf2_0 : f2 0 = 0 := by rw [ef2]; exact pk_us
  have hP : va_P g.1 vwCl [(h0, .inr (11, fs)), (kcorners, .inl (gI g, 2, .inl f1)), (kguilds, .inl (gI g, 2, .inl f2)), (kgusts, .inl (gI g, 2, .inl f_kgusts)), (kunits, .inl (gI g, 2, .inl f_kunits)), (kdraw, .inl (gI g, 2, .inl f_kdraw)), (ktold, .inl (gI g, 2, .inl f_ktold))] H := hP
  have hD : va_D A [(h0, .inr (11, fs)), (kcorners, .inl (gI g, 2, .inl f1)), (kguilds, .inl (gI g, 2, .inl f2)), (kgusts, .inl (gI g, 2, .inl f_kgusts)), (kunits, .inl (gI g, 2, .inl f_kunits)), (kdraw, .inl (gI g, 2, .inl f_kdraw)), (ktold, .inl (gI g, 2, .inl f_ktold))] := hD
  refine lv_aload_n hx hb dX11_clearBank_20 rfl (lv_at hl 0 rfl) ?_
  refine va_get (D := g.1) (ci := 11) (v := Value.ref kgusts) (C := RX11) (T := TX11) (N := 69) hx hb hts inlX11 hown hK hP 0 rfl rfl 13 (by decide) (hts _ q12_20) (fun _ h9 => h9) h_fs_gusts dX11_clearBank_21 ?_
  refine lv_aload_n hx hb dX11_clearBank_24 rfl (lv_at hl 0 rfl) ?_
  refine va_get (D := g.1) (ci := 11) (v := Value.int 0) (C := RX11) (T := TX11) (N := 69) hx hb hts inlX11 hown hK hP 0 rfl rfl 35 (by decide) (hts _ q14_15) (fun _ h9 => h9) h_fs_rb dX11_clearBank_25 ?_
  refine lv_iconst (v := 0) hx hb dX11_clearBank_28 (by decide) ?_
  refine ia_st hx hb hK hP hD hS 3 1 rfl rfl (0) rfl (by decide) (by decide) dX11_clearBank_29 (fun f3 H locs ef3 hP hD hS => ?_)
  have hf3_0 : f3 0 = 0 := by rw [ef3]; exact pk_us
  have hP : va_P g.1 vwCl [(h0, .inr (11, fs)), (kcorners, .inl (gI g, 2, .inl f1)), (kguilds, .inl (gI g, 2, .inl f2)), (kgusts, .inl (gI g, 2, .inl f3)), (kunits, .inl (gI g, 2, .inl f_kunits)), (kdraw, .inl (gI g, 2, .inl f_kdraw)), (ktold, .inl (gI g, 2, .inl f_ktold))] H := hP
  have hD : va_D A [(h0, .inr (11, fs)), (kcorners, .inl (gI g, 2, .inl f1)), (kguilds, .inl (gI g, 2, .inl f2)), (kgusts, .inl (gI g, 2, .inl f3)), (kunits, .inl (gI g, 2, .inl f_kunits)), (kdraw, .inl (gI g, 2, .inl f_kdraw)), (ktold, .inl (gI g, 2, .inl f_ktold))] := hD
  refine lv_aload_n hx hb dX11_clearBank_30 rfl (lv_at hl 0 rfl) ?_
  refine va_get (D := g.1) (ci := 11) (v := Value.ref kunits) (C := RX11) (T := TX11) (N := 69) hx hb hts inlX11 hown hK hP 0 rfl rfl 14 (by decide) (hts _ q12_21) (fun _ h9 => h9) h_fs_units dX11_clearBank_31 ?_
  refine lv_aload_n hx hb dX11_clearBank_34 rfl (lv_at hl 0 rfl) ?_
  refine va_get (D := g.1) (ci := 11) (v := Value.int 0) (C := RX11) (T := TX11) (N := 69) hx hb hts inlX11 hown hK hP 0 rfl rfl 35 (by decide) (hts _ q14_15) (fun _ h9 => h9) h_fs_rb dX11_clearBank_35 ?_
  refine lv_iconst (v := 0) hx hb dX11_clearBank_38 (by decide) ?_
  refine ia_st hx hb hK hP hD hS 4 1 rfl rfl (0) rfl (by decide) (by decide) dX11_clearBank_39 (fun f4 H locs ef4 hP hD hS => ?_)
  have hf4_0 : f4 0 = 0 := by rw [ef4]; exact pk_us
  have hP : va_P g.1 vwCl [(h0, .inr (11, fs)), (kcorners, .inl (gI g, 2, .inl f1)), (kguilds, .inl (gI g, 2, .inl f2)), (kgusts, .inl (gI g, 2, .inl f3)), (kunits, .inl (gI g, 2, .inl f4)), (kdraw, .inl (gI g, 2, .inl f_kdraw)), (ktold, .inl (gI g, 2, .inl f_ktold))] H := hP
  have hD : va_D A [(h0, .inr (11, fs)), (kcorners, .inl (gI g, 2, .inl f1)), (kguilds, .inl (gI g, 2, .inl f2)), (kgusts, .inl (gI g, 2, .inl f3)), (kunits, .inl (gI g, 2, .inl f4)), (kdraw, .inl (gI g, 2, .inl f_kdraw)), (ktold, .inl (gI g, 2, .inl f_ktold))] := hD
  refine lv_aload_n hx hb dX11_clearBank_40 rfl (lv_at hl 0 rfl) ?_
  refine va_get (D := g.1) (ci := 11) (v := Value.ref kdraw) (C := RX11) (T := TX11) (N := 69) hx hb hts inlX11 hown hK hP 0 rfl rfl 15 (by decide) (hts _ q12_22) (fun _ h9 => h9) h_fs_draw dX11_clearBank_41 ?_
  refine lv_aload_n hx hb dX11_clearBank_44 rfl (lv_at hl 0 rfl) ?_
  refine va_get (D := g.1) (ci := 11) (v := Value.int 0) (C := RX11) (T := TX11) (N := 69) hx hb hts inlX11 hown hK hP 0 rfl rfl 35 (by decide) (hts _ q14_15) (fun _ h9 => h9) h_fs_rb dX11_clearBank_45 ?_
  refine lv_iconst (v := 0) hx hb dX11_clearBank_48 (by decide) ?_
  refine ia_st hx hb hK hP hD hS 5 1 rfl rfl (0) rfl (by decide) (by decide) dX11_clearBank_49 (fun f5 H locs ef5 hP hD hS => ?_)
  have hf5_0 : f5 0 = 0 := by rw [ef5]; exact pk_us
  have hP : va_P g.1 vwCl [(h0, .inr (11, fs)), (kcorners, .inl (gI g, 2, .inl f1)), (kguilds, .inl (gI g, 2, .inl f2)), (kgusts, .inl (gI g, 2, .inl f3)), (kunits, .inl (gI g, 2, .inl f4)), (kdraw, .inl (gI g, 2, .inl f5)), (ktold, .inl (gI g, 2, .inl f_ktold))] H := hP
  have hD : va_D A [(h0, .inr (11, fs)), (kcorners, .inl (gI g, 2, .inl f1)), (kguilds, .inl (gI g, 2, .inl f2)), (kgusts, .inl (gI g, 2, .inl f3)), (kunits, .inl (gI g, 2, .inl f4)), (kdraw, .inl (gI g, 2, .inl f5)), (ktold, .inl (gI g, 2, .inl f_ktold))] := hD
  refine lv_aload_n hx hb dX11_clearBank_50 rfl (lv_at hl 0 rfl) ?_
  refine va_get (D := g.1) (ci := 11) (v := Value.ref ktold) (C := RX11) (T := TX11) (N := 69) hx hb hts inlX11 hown hK hP 0 rfl rfl 16 (by decide) (hts _ q12_23) (fun _ h9 => h9) h_fs_told dX11_clearBank_51 ?_
  refine lv_aload_n hx hb dX11_clearBank_54 rfl (lv_at hl 0 rfl) ?_
  refine va_get (D := g.1) (ci := 11) (v := Value.int 0) (C := RX11) (T := TX11) (N := 69) hx hb hts inlX11 hown hK hP 0 rfl rfl 35 (by decide) (hts _ q14_15) (fun _ h9 => h9) h_fs_rb dX11_clearBank_55 ?_
  refine lv_iconst (v := 0) hx hb dX11_clearBank_58 (by decide) ?_
  refine ia_st hx hb hK hP hD hS 6 1 rfl rfl (0) rfl (by decide) (by decide) dX11_clearBank_59 (fun f6 H locs ef6 hP hD hS => ?_)
  have hf6_0 : f6 0 = 0 := by rw [ef6]; exact pk_us
  have hP : va_P g.1 vwCl [(h0, .inr (11, fs)), (kcorners, .inl (gI g, 2, .inl f1)), (kguilds, .inl (gI g, 2, .inl f2)), (kgusts, .inl (gI g, 2, .inl f3)), (kunits, .inl (gI g, 2, .inl f4)), (kdraw, .inl (gI g, 2, .inl f5)), (ktold, .inl (gI g, 2, .inl f6))] H := hP
  have hD : va_D A [(h0, .inr (11, fs)), (kcorners, .inl (gI g, 2, .inl f1)), (kguilds, .inl (gI g, 2, .inl f2)), (kgusts, .inl (gI g, 2, .inl f3)), (kunits, .inl (gI g, 2, .inl f4)), (kdraw, .inl (gI g, 2, .inl f5)), (ktold, .inl (gI g, 2, .inl f6))] := hD
  refine lv_aload_n hx hb dX11_clearBank_60 rfl (lv_at hl 0 rfl) ?_
  refine lv_sipush (v := 560) hx hb dX11_clearBank_61 (by decide) ?_
  refine lv_aload_n hx hb dX11_clearBank_64 rfl (lv_at hl 0 rfl) ?_
  refine va_get (D := g.1) (ci := 11) (v := Value.int 0) (C := RX11) (T := TX11) (N := 69) hx hb hts inlX11 hown hK hP 0 rfl rfl 35 (by decide) (hts _ q14_15) (fun _ h9 => h9) h_fs_rb dX11_clearBank_65 ?_
  refine lv_imul hx hb dX11_clearBank_68 ?_
  refine lv_tope (y := 0) (by decide) ?_
  refine va_put (D := g.1) (ci := 11) (v := Value.int 0) (ty := .int) (C := RX11) (T := TX11) (N := 69) hx hb hts inlX11 tyX11 tyX11_ok nmX11 hown hK hP hD hS 0 rfl rfl 36 (by decide) (hts _ q14_16) (fun _ h9 => h9) rfl (by decide +kernel) rfl rfl (by simp [hl_fs]) dX11_clearBank_69 (fun H locs hP hD hS => ?_)
  have hP : va_P g.1 vwCl [(h0, .inr (11, (fs.set 36 (.int 0)))), (kcorners, .inl (gI g, 2, .inl f1)), (kguilds, .inl (gI g, 2, .inl f2)), (kgusts, .inl (gI g, 2, .inl f3)), (kunits, .inl (gI g, 2, .inl f4)), (kdraw, .inl (gI g, 2, .inl f5)), (ktold, .inl (gI g, 2, .inl f6))] H := hP
  have hD : va_D A [(h0, .inr (11, (fs.set 36 (.int 0)))), (kcorners, .inl (gI g, 2, .inl f1)), (kguilds, .inl (gI g, 2, .inl f2)), (kgusts, .inl (gI g, 2, .inl f3)), (kunits, .inl (gI g, 2, .inl f4)), (kdraw, .inl (gI g, 2, .inl f5)), (ktold, .inl (gI g, 2, .inl f6))] := hD
  exact xv hx hb hr hlocks hP hD hS ⟨f1, f2, f3, f4, f5, f6, rfl, hf1_0, hf2_0, hf3_0, hf4_0, hf5_0, hf6_0⟩ (Nat.le_of_ble_eq_true rfl) (Nat.le_of_ble_eq_true rfl) dX11_clearBank_72

set_option maxHeartbeats 4000000 in
set_option maxRecDepth 100000 in
theorem c_X11_clearBank_1 {l : Launch} {g : Gx} {h0 kcorners kguilds kgusts kunits kdraw ktold : Nat} {fs : List Value} {f_kcorners : Nat → Int32} {f_kguilds : Nat → Int32} {f_kgusts : Nat → Int32} {f_kunits : Nat → Int32} {f_kdraw : Nat → Int32} {f_ktold : Nat → Int32} (hl_fs : fs.length = 69) (h_fs_rb : fs[35]? = some (Value.int 1)) (h_fs_corners : fs[11]? = some (Value.ref kcorners)) (h_fs_guilds : fs[12]? = some (Value.ref kguilds)) (h_fs_gusts : fs[13]? = some (Value.ref kgusts)) (h_fs_units : fs[14]? = some (Value.ref kunits)) (h_fs_draw : fs[15]? = some (Value.ref kdraw)) (h_fs_told : fs[16]? = some (Value.ref ktold)) : MV l g yX11_clearBank cX11_clearBank 1 2 0 0 [.ref h0] [(h0, .inr (11, fs)), (kcorners, .inl (gI g, 2, .inl f_kcorners)), (kguilds, .inl (gI g, 2, .inl f_kguilds)), (kgusts, .inl (gI g, 2, .inl f_kgusts)), (kunits, .inl (gI g, 2, .inl f_kunits)), (kdraw, .inl (gI g, 2, .inl f_kdraw)), (ktold, .inl (gI g, 2, .inl f_ktold))] (fun W' => ∃ (z0 : Nat → Int32) (z1 : Nat → Int32) (z2 : Nat → Int32) (z3 : Nat → Int32) (z4 : Nat → Int32) (z5 : Nat → Int32), W' = [(h0, .inr (11, (fs.set 36 (.int 560)))), (kcorners, .inl (gI g, 2, .inl z0)), (kguilds, .inl (gI g, 2, .inl z1)), (kgusts, .inl (gI g, 2, .inl z2)), (kunits, .inl (gI g, 2, .inl z3)), (kdraw, .inl (gI g, 2, .inl z4)), (ktold, .inl (gI g, 2, .inl z5))] ∧ z0 1 = 0 ∧ z1 1 = 0 ∧ z2 1 = 0 ∧ z3 1 = 0 ∧ z4 1 = 0 ∧ z5 1 = 0) := by
  refine MVof (by decide) (Nat.le_of_ble_eq_true rfl) ?_
  intro p e s m below meth c A ls H locs hcx hA hP hD hS hl
  obtain ⟨hx, hb, hml, hr, hlocks, hown, hts, hE, hnm⟩ := id hcx
  have hown : s.vm.findClass RX11 = some m.cls := hown
  have hK := hE.1
  have hl : lv_has ls 1 [(0, .ref h0)] := hl
  refine lv_aload_n hx hb dX11_clearBank_0 rfl (lv_at hl 0 rfl) ?_
  refine va_get (D := g.1) (ci := 11) (v := Value.ref kcorners) (C := RX11) (T := TX11) (N := 69) hx hb hts inlX11 hown hK hP 0 rfl rfl 11 (by decide) (hts _ q12_18) (fun _ h9 => h9) h_fs_corners dX11_clearBank_1 ?_
  refine lv_aload_n hx hb dX11_clearBank_4 rfl (lv_at hl 0 rfl) ?_
  refine va_get (D := g.1) (ci := 11) (v := Value.int 1) (C := RX11) (T := TX11) (N := 69) hx hb hts inlX11 hown hK hP 0 rfl rfl 35 (by decide) (hts _ q14_15) (fun _ h9 => h9) h_fs_rb dX11_clearBank_5 ?_
  refine lv_iconst (v := 0) hx hb dX11_clearBank_8 (by decide) ?_
  refine ia_st hx hb hK hP hD hS 1 1 rfl rfl (1) rfl (by decide) (by decide) dX11_clearBank_9 (fun f1 H locs ef1 hP hD hS => ?_)
  have hf1_1 : f1 1 = 0 := by rw [ef1]; exact pk_us
  have hP : va_P g.1 vwCl [(h0, .inr (11, fs)), (kcorners, .inl (gI g, 2, .inl f1)), (kguilds, .inl (gI g, 2, .inl f_kguilds)), (kgusts, .inl (gI g, 2, .inl f_kgusts)), (kunits, .inl (gI g, 2, .inl f_kunits)), (kdraw, .inl (gI g, 2, .inl f_kdraw)), (ktold, .inl (gI g, 2, .inl f_ktold))] H := hP
  have hD : va_D A [(h0, .inr (11, fs)), (kcorners, .inl (gI g, 2, .inl f1)), (kguilds, .inl (gI g, 2, .inl f_kguilds)), (kgusts, .inl (gI g, 2, .inl f_kgusts)), (kunits, .inl (gI g, 2, .inl f_kunits)), (kdraw, .inl (gI g, 2, .inl f_kdraw)), (ktold, .inl (gI g, 2, .inl f_ktold))] := hD
  refine lv_aload_n hx hb dX11_clearBank_10 rfl (lv_at hl 0 rfl) ?_
  refine va_get (D := g.1) (ci := 11) (v := Value.ref kguilds) (C := RX11) (T := TX11) (N := 69) hx hb hts inlX11 hown hK hP 0 rfl rfl 12 (by decide) (hts _ q12_19) (fun _ h9 => h9) h_fs_guilds dX11_clearBank_11 ?_
  refine lv_aload_n hx hb dX11_clearBank_14 rfl (lv_at hl 0 rfl) ?_
  refine va_get (D := g.1) (ci := 11) (v := Value.int 1) (C := RX11) (T := TX11) (N := 69) hx hb hts inlX11 hown hK hP 0 rfl rfl 35 (by decide) (hts _ q14_15) (fun _ h9 => h9) h_fs_rb dX11_clearBank_15 ?_
  refine lv_iconst (v := 0) hx hb dX11_clearBank_18 (by decide) ?_
  refine ia_st hx hb hK hP hD hS 2 1 rfl rfl (1) rfl (by decide) (by decide) dX11_clearBank_19 (fun f2 H locs ef2 hP hD hS => ?_)
  have hf2_1 : f2 1 = 0 := by rw [ef2]; exact pk_us
  have hP : va_P g.1 vwCl [(h0, .inr (11, fs)), (kcorners, .inl (gI g, 2, .inl f1)), (kguilds, .inl (gI g, 2, .inl f2)), (kgusts, .inl (gI g, 2, .inl f_kgusts)), (kunits, .inl (gI g, 2, .inl f_kunits)), (kdraw, .inl (gI g, 2, .inl f_kdraw)), (ktold, .inl (gI g, 2, .inl f_ktold))] H := hP
  have hD : va_D A [(h0, .inr (11, fs)), (kcorners, .inl (gI g, 2, .inl f1)), (kguilds, .inl (gI g, 2, .inl f2)), (kgusts, .inl (gI g, 2, .inl f_kgusts)), (kunits, .inl (gI g, 2, .inl f_kunits)), (kdraw, .inl (gI g, 2, .inl f_kdraw)), (ktold, .inl (gI g, 2, .inl f_ktold))] := hD
  refine lv_aload_n hx hb dX11_clearBank_20 rfl (lv_at hl 0 rfl) ?_
  refine va_get (D := g.1) (ci := 11) (v := Value.ref kgusts) (C := RX11) (T := TX11) (N := 69) hx hb hts inlX11 hown hK hP 0 rfl rfl 13 (by decide) (hts _ q12_20) (fun _ h9 => h9) h_fs_gusts dX11_clearBank_21 ?_
  refine lv_aload_n hx hb dX11_clearBank_24 rfl (lv_at hl 0 rfl) ?_
  refine va_get (D := g.1) (ci := 11) (v := Value.int 1) (C := RX11) (T := TX11) (N := 69) hx hb hts inlX11 hown hK hP 0 rfl rfl 35 (by decide) (hts _ q14_15) (fun _ h9 => h9) h_fs_rb dX11_clearBank_25 ?_
  refine lv_iconst (v := 0) hx hb dX11_clearBank_28 (by decide) ?_
  refine ia_st hx hb hK hP hD hS 3 1 rfl rfl (1) rfl (by decide) (by decide) dX11_clearBank_29 (fun f3 H locs ef3 hP hD hS => ?_)
  have hf3_1 : f3 1 = 0 := by rw [ef3]; exact pk_us
  have hP : va_P g.1 vwCl [(h0, .inr (11, fs)), (kcorners, .inl (gI g, 2, .inl f1)), (kguilds, .inl (gI g, 2, .inl f2)), (kgusts, .inl (gI g, 2, .inl f3)), (kunits, .inl (gI g, 2, .inl f_kunits)), (kdraw, .inl (gI g, 2, .inl f_kdraw)), (ktold, .inl (gI g, 2, .inl f_ktold))] H := hP
  have hD : va_D A [(h0, .inr (11, fs)), (kcorners, .inl (gI g, 2, .inl f1)), (kguilds, .inl (gI g, 2, .inl f2)), (kgusts, .inl (gI g, 2, .inl f3)), (kunits, .inl (gI g, 2, .inl f_kunits)), (kdraw, .inl (gI g, 2, .inl f_kdraw)), (ktold, .inl (gI g, 2, .inl f_ktold))] := hD
  refine lv_aload_n hx hb dX11_clearBank_30 rfl (lv_at hl 0 rfl) ?_
  refine va_get (D := g.1) (ci := 11) (v := Value.ref kunits) (C := RX11) (T := TX11) (N := 69) hx hb hts inlX11 hown hK hP 0 rfl rfl 14 (by decide) (hts _ q12_21) (fun _ h9 => h9) h_fs_units dX11_clearBank_31 ?_
  refine lv_aload_n hx hb dX11_clearBank_34 rfl (lv_at hl 0 rfl) ?_
  refine va_get (D := g.1) (ci := 11) (v := Value.int 1) (C := RX11) (T := TX11) (N := 69) hx hb hts inlX11 hown hK hP 0 rfl rfl 35 (by decide) (hts _ q14_15) (fun _ h9 => h9) h_fs_rb dX11_clearBank_35 ?_
  refine lv_iconst (v := 0) hx hb dX11_clearBank_38 (by decide) ?_
  refine ia_st hx hb hK hP hD hS 4 1 rfl rfl (1) rfl (by decide) (by decide) dX11_clearBank_39 (fun f4 H locs ef4 hP hD hS => ?_)
  have hf4_1 : f4 1 = 0 := by rw [ef4]; exact pk_us
  have hP : va_P g.1 vwCl [(h0, .inr (11, fs)), (kcorners, .inl (gI g, 2, .inl f1)), (kguilds, .inl (gI g, 2, .inl f2)), (kgusts, .inl (gI g, 2, .inl f3)), (kunits, .inl (gI g, 2, .inl f4)), (kdraw, .inl (gI g, 2, .inl f_kdraw)), (ktold, .inl (gI g, 2, .inl f_ktold))] H := hP
  have hD : va_D A [(h0, .inr (11, fs)), (kcorners, .inl (gI g, 2, .inl f1)), (kguilds, .inl (gI g, 2, .inl f2)), (kgusts, .inl (gI g, 2, .inl f3)), (kunits, .inl (gI g, 2, .inl f4)), (kdraw, .inl (gI g, 2, .inl f_kdraw)), (ktold, .inl (gI g, 2, .inl f_ktold))] := hD
  refine lv_aload_n hx hb dX11_clearBank_40 rfl (lv_at hl 0 rfl) ?_
  refine va_get (D := g.1) (ci := 11) (v := Value.ref kdraw) (C := RX11) (T := TX11) (N := 69) hx hb hts inlX11 hown hK hP 0 rfl rfl 15 (by decide) (hts _ q12_22) (fun _ h9 => h9) h_fs_draw dX11_clearBank_41 ?_
  refine lv_aload_n hx hb dX11_clearBank_44 rfl (lv_at hl 0 rfl) ?_
  refine va_get (D := g.1) (ci := 11) (v := Value.int 1) (C := RX11) (T := TX11) (N := 69) hx hb hts inlX11 hown hK hP 0 rfl rfl 35 (by decide) (hts _ q14_15) (fun _ h9 => h9) h_fs_rb dX11_clearBank_45 ?_
  refine lv_iconst (v := 0) hx hb dX11_clearBank_48 (by decide) ?_
  refine ia_st hx hb hK hP hD hS 5 1 rfl rfl (1) rfl (by decide) (by decide) dX11_clearBank_49 (fun f5 H locs ef5 hP hD hS => ?_)
  have hf5_1 : f5 1 = 0 := by rw [ef5]; exact pk_us
  have hP : va_P g.1 vwCl [(h0, .inr (11, fs)), (kcorners, .inl (gI g, 2, .inl f1)), (kguilds, .inl (gI g, 2, .inl f2)), (kgusts, .inl (gI g, 2, .inl f3)), (kunits, .inl (gI g, 2, .inl f4)), (kdraw, .inl (gI g, 2, .inl f5)), (ktold, .inl (gI g, 2, .inl f_ktold))] H := hP
  have hD : va_D A [(h0, .inr (11, fs)), (kcorners, .inl (gI g, 2, .inl f1)), (kguilds, .inl (gI g, 2, .inl f2)), (kgusts, .inl (gI g, 2, .inl f3)), (kunits, .inl (gI g, 2, .inl f4)), (kdraw, .inl (gI g, 2, .inl f5)), (ktold, .inl (gI g, 2, .inl f_ktold))] := hD
  refine lv_aload_n hx hb dX11_clearBank_50 rfl (lv_at hl 0 rfl) ?_
  refine va_get (D := g.1) (ci := 11) (v := Value.ref ktold) (C := RX11) (T := TX11) (N := 69) hx hb hts inlX11 hown hK hP 0 rfl rfl 16 (by decide) (hts _ q12_23) (fun _ h9 => h9) h_fs_told dX11_clearBank_51 ?_
  refine lv_aload_n hx hb dX11_clearBank_54 rfl (lv_at hl 0 rfl) ?_
  refine va_get (D := g.1) (ci := 11) (v := Value.int 1) (C := RX11) (T := TX11) (N := 69) hx hb hts inlX11 hown hK hP 0 rfl rfl 35 (by decide) (hts _ q14_15) (fun _ h9 => h9) h_fs_rb dX11_clearBank_55 ?_
  refine lv_iconst (v := 0) hx hb dX11_clearBank_58 (by decide) ?_
  refine ia_st hx hb hK hP hD hS 6 1 rfl rfl (1) rfl (by decide) (by decide) dX11_clearBank_59 (fun f6 H locs ef6 hP hD hS => ?_)
  have hf6_1 : f6 1 = 0 := by rw [ef6]; exact pk_us
  have hP : va_P g.1 vwCl [(h0, .inr (11, fs)), (kcorners, .inl (gI g, 2, .inl f1)), (kguilds, .inl (gI g, 2, .inl f2)), (kgusts, .inl (gI g, 2, .inl f3)), (kunits, .inl (gI g, 2, .inl f4)), (kdraw, .inl (gI g, 2, .inl f5)), (ktold, .inl (gI g, 2, .inl f6))] H := hP
  have hD : va_D A [(h0, .inr (11, fs)), (kcorners, .inl (gI g, 2, .inl f1)), (kguilds, .inl (gI g, 2, .inl f2)), (kgusts, .inl (gI g, 2, .inl f3)), (kunits, .inl (gI g, 2, .inl f4)), (kdraw, .inl (gI g, 2, .inl f5)), (ktold, .inl (gI g, 2, .inl f6))] := hD
  refine lv_aload_n hx hb dX11_clearBank_60 rfl (lv_at hl 0 rfl) ?_
  refine lv_sipush (v := 560) hx hb dX11_clearBank_61 (by decide) ?_
  refine lv_aload_n hx hb dX11_clearBank_64 rfl (lv_at hl 0 rfl) ?_
  refine va_get (D := g.1) (ci := 11) (v := Value.int 1) (C := RX11) (T := TX11) (N := 69) hx hb hts inlX11 hown hK hP 0 rfl rfl 35 (by decide) (hts _ q14_15) (fun _ h9 => h9) h_fs_rb dX11_clearBank_65 ?_
  refine lv_imul hx hb dX11_clearBank_68 ?_
  refine lv_tope (y := 560) (by decide) ?_
  refine va_put (D := g.1) (ci := 11) (v := Value.int 560) (ty := .int) (C := RX11) (T := TX11) (N := 69) hx hb hts inlX11 tyX11 tyX11_ok nmX11 hown hK hP hD hS 0 rfl rfl 36 (by decide) (hts _ q14_16) (fun _ h9 => h9) rfl (by decide +kernel) rfl rfl (by simp [hl_fs]) dX11_clearBank_69 (fun H locs hP hD hS => ?_)
  have hP : va_P g.1 vwCl [(h0, .inr (11, (fs.set 36 (.int 560)))), (kcorners, .inl (gI g, 2, .inl f1)), (kguilds, .inl (gI g, 2, .inl f2)), (kgusts, .inl (gI g, 2, .inl f3)), (kunits, .inl (gI g, 2, .inl f4)), (kdraw, .inl (gI g, 2, .inl f5)), (ktold, .inl (gI g, 2, .inl f6))] H := hP
  have hD : va_D A [(h0, .inr (11, (fs.set 36 (.int 560)))), (kcorners, .inl (gI g, 2, .inl f1)), (kguilds, .inl (gI g, 2, .inl f2)), (kgusts, .inl (gI g, 2, .inl f3)), (kunits, .inl (gI g, 2, .inl f4)), (kdraw, .inl (gI g, 2, .inl f5)), (ktold, .inl (gI g, 2, .inl f6))] := hD
  exact xv hx hb hr hlocks hP hD hS ⟨f1, f2, f3, f4, f5, f6, rfl, hf1_1, hf2_1, hf3_1, hf4_1, hf5_1, hf6_1⟩ (Nat.le_of_ble_eq_true rfl) (Nat.le_of_ble_eq_true rfl) dX11_clearBank_72

set_option maxHeartbeats 4000000 in
set_option maxRecDepth 100000 in
theorem c_X11_startAnew_0 {l : Launch} {g : Gx} {h0 al gu dw ib : Nat} {fs : List Value} {f_al : Nat → Int32} {f_gu : Nat → Int32} {f_dw : Nat → Int32} {f_ib : Nat → Int32} (hl_fs : fs.length = 69) (h_fs_all : fs[46]? = some (Value.ref al)) (h_fs_bank : fs[34]? = some (Value.int 0)) (h_fs_guilds : fs[12]? = some (Value.ref gu)) (h_fs_draw : fs[15]? = some (Value.ref dw)) (h_fs_isBoxed : fs[68]? = some (Value.ref ib)) (h_f_gu_0 : f_gu 0 = 0) (h_f_dw_0 : f_dw 0 = 0) : MV l g yX11_startAnew cX11_startAnew 2 4 0 0 [.ref h0] [(h0, .inr (11, fs)), (al, .inl (gI g, 24, .inl f_al)), (gu, .inl (gI g, 2, .inl f_gu)), (dw, .inl (gI g, 2, .inl f_dw)), (ib, .inl (gZ g, 3, .inl f_ib))] (fun W' => ∃ (z0 : Nat → Int32) (z1 : Nat → Int32), W' = [(h0, .inr (11, ((((fs.set 49 (.int 0)).set 50 (.int 0)).set 65 (.int 0)).set 54 (.int 0)))), (al, .inl (gI g, 24, .inl z0)), (gu, .inl (gI g, 2, .inl f_gu)), (dw, .inl (gI g, 2, .inl f_dw)), (ib, .inl (gZ g, 3, .inl z1))] ∧ z0 20 = 0 ∧ z0 21 = 0 ∧ z0 22 = 0 ∧ z0 23 = 0 ∧ z1 0 = 0 ∧ z1 1 = 0 ∧ z1 2 = 0) := by
  refine MVof (by decide) (Nat.le_of_ble_eq_true rfl) ?_
  intro p e s m below meth c A ls H locs hcx hA hP hD hS hl
  obtain ⟨hx, hb, hml, hr, hlocks, hown, hts, hE, hnm⟩ := id hcx
  have hown : s.vm.findClass RX11 = some m.cls := hown
  have hK := hE.1
  have hl : lv_has ls 2 [(0, .ref h0)] := hl
  refine lv_iconst (v := 0) hx hb dX11_startAnew_0 (by decide) ?_
  refine lv_istore_n (lv' := [(1, .int 0), (0, .ref h0)]) hx hb dX11_startAnew_1 rfl hl (by decide) rfl (fun ls hl => ?_)
  have loop2 : ∀ (n k : Nat), k + n = 24 → ∀ (H : Heap) (locs : List Loc) (ls : Array Slot) (f1 : Nat → Int32), (∀ j, j < k → f1 j = 0) → va_P g.1 vwCl [(h0, .inr (11, fs)), (al, .inl (gI g, 24, .inl f1)), (gu, .inl (gI g, 2, .inl f_gu)), (dw, .inl (gI g, 2, .inl f_dw)), (ib, .inl (gZ g, 3, .inl f_ib))] H → va_D A [(h0, .inr (11, fs)), (al, .inl (gI g, 24, .inl f1)), (gu, .inl (gI g, 2, .inl f_gu)), (dw, .inl (gI g, 2, .inl f_dw)), (ib, .inl (gZ g, 3, .inl f_ib))] → va_S A s.heap H locs → lv_has ls 2 [(1, .int (nI k)), (0, .ref h0)] → W p l e (rmD 4 0 0) s m ([Value.ref h0] : List Value).toArray below meth c H locs 0 0 (MQ below (QV g A (fun W' => ∃ (z0 : Nat → Int32) (z1 : Nat → Int32), W' = [(h0, .inr (11, ((((fs.set 49 (.int 0)).set 50 (.int 0)).set 65 (.int 0)).set 54 (.int 0)))), (al, .inl (gI g, 24, .inl z0)), (gu, .inl (gI g, 2, .inl f_gu)), (dw, .inl (gI g, 2, .inl f_dw)), (ib, .inl (gZ g, 3, .inl z1))] ∧ z0 20 = 0 ∧ z0 21 = 0 ∧ z0 22 = 0 ∧ z0 23 = 0 ∧ z1 0 = 0 ∧ z1 1 = 0 ∧ z1 2 = 0)) ([Value.ref h0] : List Value).toArray s 0 0 A) (F0 m 2 ls []) := by
    intro n
    induction n with
    | zero =>
      intro k hk H locs ls f1 hinv hP hD hS hl
      obtain rfl : k = 24 := by omega
      have hf1_21 : f1 21 = 0 := hinv 21 (by decide)
      have hf1_22 : f1 22 = 0 := hinv 22 (by decide)
      refine lv_iload_n hx hb dX11_startAnew_2 rfl (lv_at hl 0 rfl) ?_
      refine lv_bipush (v := 24) hx hb dX11_startAnew_3 (by decide) ?_
      refine lv_icmp_ge (tgt := 21) hx hb dX11_startAnew_5 (by decide) (fun _ => ?_) (fun c3 => absurd (by decide) c3)
      refine lv_iconst (v := 0) hx hb dX11_startAnew_21 (by decide) ?_
      refine lv_istore_n (lv' := [(1, .int 0), (0, .ref h0)]) hx hb dX11_startAnew_22 rfl hl (by decide) rfl (fun ls hl => ?_)
      have loop5 : ∀ (n k : Nat), k + n = 5 → ∀ (H : Heap) (locs : List Loc) (ls : Array Slot) (f4 : Nat → Int32), (f4 21 = 0) → (f4 22 = 0) → va_P g.1 vwCl [(h0, .inr (11, fs)), (al, .inl (gI g, 24, .inl f4)), (gu, .inl (gI g, 2, .inl f_gu)), (dw, .inl (gI g, 2, .inl f_dw)), (ib, .inl (gZ g, 3, .inl f_ib))] H → va_D A [(h0, .inr (11, fs)), (al, .inl (gI g, 24, .inl f4)), (gu, .inl (gI g, 2, .inl f_gu)), (dw, .inl (gI g, 2, .inl f_dw)), (ib, .inl (gZ g, 3, .inl f_ib))] → va_S A s.heap H locs → lv_has ls 2 [(1, .int (nI k)), (0, .ref h0)] → W p l e (rmD 4 0 0) s m ([Value.ref h0] : List Value).toArray below meth c H locs 0 0 (MQ below (QV g A (fun W' => ∃ (z0 : Nat → Int32) (z1 : Nat → Int32), W' = [(h0, .inr (11, ((((fs.set 49 (.int 0)).set 50 (.int 0)).set 65 (.int 0)).set 54 (.int 0)))), (al, .inl (gI g, 24, .inl z0)), (gu, .inl (gI g, 2, .inl f_gu)), (dw, .inl (gI g, 2, .inl f_dw)), (ib, .inl (gZ g, 3, .inl z1))] ∧ z0 20 = 0 ∧ z0 21 = 0 ∧ z0 22 = 0 ∧ z0 23 = 0 ∧ z1 0 = 0 ∧ z1 1 = 0 ∧ z1 2 = 0)) ([Value.ref h0] : List Value).toArray s 0 0 A) (F0 m 23 ls []) := by
        intro n
        induction n with
        | zero =>
          intro k hk H locs ls f4 hf4_21 hf4_22 hP hD hS hl
          obtain rfl : k = 5 := by omega
          refine lv_iload_n hx hb dX11_startAnew_23 rfl (lv_at hl 0 rfl) ?_
          refine lv_iconst (v := 5) hx hb dX11_startAnew_24 (by decide) ?_
          refine lv_icmp_ge (tgt := 86) hx hb dX11_startAnew_25 (by decide) (fun _ => ?_) (fun c6 => absurd (by decide) c6)
          refine lv_aload_n hx hb dX11_startAnew_86 rfl (lv_at hl 1 rfl) ?_
          refine va_get (D := g.1) (ci := 11) (v := Value.ref al) (C := RX11) (T := TX11) (N := 69) hx hb hts inlX11 hown hK hP 0 rfl rfl 46 (by decide) (hts _ q13_17) (fun _ h9 => h9) h_fs_all dX11_startAnew_87 ?_
          refine lv_bipush (v := 20) hx hb dX11_startAnew_90 (by decide) ?_
          refine lv_aload_n hx hb dX11_startAnew_92 rfl (lv_at hl 1 rfl) ?_
          refine kI (wc := [(h0, .inr (11, fs)), (gu, .inl (gI g, 2, .inl f_gu))]) (wr := [(al, .inl (gI g, 24, .inl f4)), (dw, .inl (gI g, 2, .inl f_dw)), (ib, .inl (gZ g, 3, .inl f_ib))]) (rV (As := []) (rest := [.int 20, .ref al]) (meth2 := "") hcx (c_X11_full (hl_fs) (h_fs_guilds) (h_fs_bank) (h_f_gu_0) H.size) (gdV q15_6 q15_7 q15_8 q1_5 q15_9) dvX11_full ⟨Nat.le_of_ble_eq_true rfl, Nat.le_of_ble_eq_true rfl⟩ (hP.sub [0, 2] rfl) (hD.sub [0, 2] (by decide) rfl) (va_recv hK hP (ci := 11) (q0 := 0) rfl rfl) rfl hl.1 rfl (Nat.le_of_ble_eq_true rfl) dX11_startAnew_93 ⟨Nat.le_of_ble_eq_true rfl, Nat.le_of_ble_eq_true rfl⟩) hP hD hS hA [0, 2] [1, 3, 4] rfl rfl (by decide) (by decide) (fun r W' H locs hw hP hD hS => ?_)
          obtain ⟨rfl, rfl⟩ := hw
          have hP : va_P g.1 vwCl [(al, .inl (gI g, 24, .inl f4)), (dw, .inl (gI g, 2, .inl f_dw)), (ib, .inl (gZ g, 3, .inl f_ib)), (h0, .inr (11, fs)), (gu, .inl (gI g, 2, .inl f_gu))] H := hP
          have hD : va_D A [(al, .inl (gI g, 24, .inl f4)), (dw, .inl (gI g, 2, .inl f_dw)), (ib, .inl (gZ g, 3, .inl f_ib)), (h0, .inr (11, fs)), (gu, .inl (gI g, 2, .inl f_gu))] := hD
          refine ia_st hx hb hK hP hD hS 0 1 rfl rfl (20) rfl (by decide) (by decide) dX11_startAnew_96 (fun f7 H locs ef7 hP hD hS => ?_)
          have hf7_20 : f7 20 = 0 := by rw [ef7]; exact pk_us
          have hf7_21 : f7 21 = 0 := by rw [ef7]; exact (pk_un (by decide)).trans hf4_21
          have hf7_22 : f7 22 = 0 := by rw [ef7]; exact (pk_un (by decide)).trans hf4_22
          have hP : va_P g.1 vwCl [(al, .inl (gI g, 24, .inl f7)), (dw, .inl (gI g, 2, .inl f_dw)), (ib, .inl (gZ g, 3, .inl f_ib)), (h0, .inr (11, fs)), (gu, .inl (gI g, 2, .inl f_gu))] H := hP
          have hD : va_D A [(al, .inl (gI g, 24, .inl f7)), (dw, .inl (gI g, 2, .inl f_dw)), (ib, .inl (gZ g, 3, .inl f_ib)), (h0, .inr (11, fs)), (gu, .inl (gI g, 2, .inl f_gu))] := hD
          refine lv_aload_n hx hb dX11_startAnew_97 rfl (lv_at hl 1 rfl) ?_
          refine va_get (D := g.1) (ci := 11) (v := Value.ref al) (C := RX11) (T := TX11) (N := 69) hx hb hts inlX11 hown hK hP 3 rfl rfl 46 (by decide) (hts _ q13_17) (fun _ h9 => h9) h_fs_all dX11_startAnew_98 ?_
          refine lv_bipush (v := 23) hx hb dX11_startAnew_101 (by decide) ?_
          refine lv_aload_n hx hb dX11_startAnew_103 rfl (lv_at hl 1 rfl) ?_
          refine va_get (D := g.1) (ci := 11) (v := Value.ref dw) (C := RX11) (T := TX11) (N := 69) hx hb hts inlX11 hown hK hP 3 rfl rfl 15 (by decide) (hts _ q12_22) (fun _ h9 => h9) h_fs_draw dX11_startAnew_104 ?_
          refine lv_aload_n hx hb dX11_startAnew_107 rfl (lv_at hl 1 rfl) ?_
          refine va_get (D := g.1) (ci := 11) (v := Value.int 0) (C := RX11) (T := TX11) (N := 69) hx hb hts inlX11 hown hK hP 3 rfl rfl 34 (by decide) (hts _ q14_21) (fun _ h9 => h9) h_fs_bank dX11_startAnew_108 ?_
          refine ia_ld hx hb hK hP 1 1 rfl rfl (0) rfl (by decide) (by decide) dX11_startAnew_111 ?_
          refine lv_tope (y := 0) h_f_dw_0 ?_
          refine ia_st hx hb hK hP hD hS 0 1 rfl rfl (23) rfl (by decide) (by decide) dX11_startAnew_112 (fun f8 H locs ef8 hP hD hS => ?_)
          have hf8_20 : f8 20 = 0 := by rw [ef8]; exact (pk_un (by decide)).trans hf7_20
          have hf8_21 : f8 21 = 0 := by rw [ef8]; exact (pk_un (by decide)).trans hf7_21
          have hf8_22 : f8 22 = 0 := by rw [ef8]; exact (pk_un (by decide)).trans hf7_22
          have hf8_23 : f8 23 = 0 := by rw [ef8]; exact pk_us
          have hP : va_P g.1 vwCl [(al, .inl (gI g, 24, .inl f8)), (dw, .inl (gI g, 2, .inl f_dw)), (ib, .inl (gZ g, 3, .inl f_ib)), (h0, .inr (11, fs)), (gu, .inl (gI g, 2, .inl f_gu))] H := hP
          have hD : va_D A [(al, .inl (gI g, 24, .inl f8)), (dw, .inl (gI g, 2, .inl f_dw)), (ib, .inl (gZ g, 3, .inl f_ib)), (h0, .inr (11, fs)), (gu, .inl (gI g, 2, .inl f_gu))] := hD
          refine lv_aload_n hx hb dX11_startAnew_113 rfl (lv_at hl 1 rfl) ?_
          refine lv_iconst (v := 0) hx hb dX11_startAnew_114 (by decide) ?_
          refine va_put (D := g.1) (ci := 11) (v := Value.int 0) (ty := .int) (C := RX11) (T := TX11) (N := 69) hx hb hts inlX11 tyX11 tyX11_ok nmX11 hown hK hP hD hS 3 rfl rfl 49 (by decide) (hts _ q14_22) (fun _ h9 => h9) rfl (by decide +kernel) rfl rfl (by simp [hl_fs]) dX11_startAnew_115 (fun H locs hP hD hS => ?_)
          have hP : va_P g.1 vwCl [(al, .inl (gI g, 24, .inl f8)), (dw, .inl (gI g, 2, .inl f_dw)), (ib, .inl (gZ g, 3, .inl f_ib)), (h0, .inr (11, (fs.set 49 (.int 0)))), (gu, .inl (gI g, 2, .inl f_gu))] H := hP
          have hD : va_D A [(al, .inl (gI g, 24, .inl f8)), (dw, .inl (gI g, 2, .inl f_dw)), (ib, .inl (gZ g, 3, .inl f_ib)), (h0, .inr (11, (fs.set 49 (.int 0)))), (gu, .inl (gI g, 2, .inl f_gu))] := hD
          refine lv_aload_n hx hb dX11_startAnew_118 rfl (lv_at hl 1 rfl) ?_
          refine lv_iconst (v := 0) hx hb dX11_startAnew_119 (by decide) ?_
          refine va_put (D := g.1) (ci := 11) (v := Value.int 0) (ty := .int) (C := RX11) (T := TX11) (N := 69) hx hb hts inlX11 tyX11 tyX11_ok nmX11 hown hK hP hD hS 3 rfl rfl 50 (by decide) (hts _ q14_23) (fun _ h9 => h9) rfl (by decide +kernel) rfl rfl (by simp [hl_fs]) dX11_startAnew_120 (fun H locs hP hD hS => ?_)
          have hP : va_P g.1 vwCl [(al, .inl (gI g, 24, .inl f8)), (dw, .inl (gI g, 2, .inl f_dw)), (ib, .inl (gZ g, 3, .inl f_ib)), (h0, .inr (11, ((fs.set 49 (.int 0)).set 50 (.int 0)))), (gu, .inl (gI g, 2, .inl f_gu))] H := hP
          have hD : va_D A [(al, .inl (gI g, 24, .inl f8)), (dw, .inl (gI g, 2, .inl f_dw)), (ib, .inl (gZ g, 3, .inl f_ib)), (h0, .inr (11, ((fs.set 49 (.int 0)).set 50 (.int 0)))), (gu, .inl (gI g, 2, .inl f_gu))] := hD
          refine lv_aload_n hx hb dX11_startAnew_123 rfl (lv_at hl 1 rfl) ?_
          refine lv_iconst (v := 0) hx hb dX11_startAnew_124 (by decide) ?_
          refine va_put (D := g.1) (ci := 11) (v := Value.int 0) (ty := .int) (C := RX11) (T := TX11) (N := 69) hx hb hts inlX11 tyX11 tyX11_ok nmX11 hown hK hP hD hS 3 rfl rfl 65 (by decide) (hts _ q15_0) (fun _ h9 => h9) rfl (by decide +kernel) rfl rfl (by simp [hl_fs]) dX11_startAnew_125 (fun H locs hP hD hS => ?_)
          have hP : va_P g.1 vwCl [(al, .inl (gI g, 24, .inl f8)), (dw, .inl (gI g, 2, .inl f_dw)), (ib, .inl (gZ g, 3, .inl f_ib)), (h0, .inr (11, (((fs.set 49 (.int 0)).set 50 (.int 0)).set 65 (.int 0)))), (gu, .inl (gI g, 2, .inl f_gu))] H := hP
          have hD : va_D A [(al, .inl (gI g, 24, .inl f8)), (dw, .inl (gI g, 2, .inl f_dw)), (ib, .inl (gZ g, 3, .inl f_ib)), (h0, .inr (11, (((fs.set 49 (.int 0)).set 50 (.int 0)).set 65 (.int 0)))), (gu, .inl (gI g, 2, .inl f_gu))] := hD
          refine lv_aload_n hx hb dX11_startAnew_128 rfl (lv_at hl 1 rfl) ?_
          refine lv_iconst (v := 0) hx hb dX11_startAnew_129 (by decide) ?_
          refine va_put (D := g.1) (ci := 11) (v := Value.int 0) (ty := .int) (C := RX11) (T := TX11) (N := 69) hx hb hts inlX11 tyX11 tyX11_ok nmX11 hown hK hP hD hS 3 rfl rfl 54 (by decide) (hts _ q15_1) (fun _ h9 => h9) rfl (by decide +kernel) rfl rfl (by simp [hl_fs]) dX11_startAnew_130 (fun H locs hP hD hS => ?_)
          have hP : va_P g.1 vwCl [(al, .inl (gI g, 24, .inl f8)), (dw, .inl (gI g, 2, .inl f_dw)), (ib, .inl (gZ g, 3, .inl f_ib)), (h0, .inr (11, ((((fs.set 49 (.int 0)).set 50 (.int 0)).set 65 (.int 0)).set 54 (.int 0)))), (gu, .inl (gI g, 2, .inl f_gu))] H := hP
          have hD : va_D A [(al, .inl (gI g, 24, .inl f8)), (dw, .inl (gI g, 2, .inl f_dw)), (ib, .inl (gZ g, 3, .inl f_ib)), (h0, .inr (11, ((((fs.set 49 (.int 0)).set 50 (.int 0)).set 65 (.int 0)).set 54 (.int 0)))), (gu, .inl (gI g, 2, .inl f_gu))] := hD
          refine lv_iconst (v := 0) hx hb dX11_startAnew_133 (by decide) ?_
          refine lv_istore_n (lv' := [(1, .int 0), (0, .ref h0)]) hx hb dX11_startAnew_134 rfl hl (by decide) rfl (fun ls hl => ?_)
          refine lv_iload_n hx hb dX11_startAnew_135 rfl (lv_at hl 0 rfl) ?_
          refine lv_iconst (v := 3) hx hb dX11_startAnew_136 (by decide) ?_
          refine lv_icmp_ge (tgt := 153) hx hb dX11_startAnew_137 (by decide) (fun c9 => absurd c9 (by decide)) (fun _ => ?_)
          refine lv_aload_n hx hb dX11_startAnew_140 rfl (lv_at hl 1 rfl) ?_
          refine va_get (D := g.1) (ci := 11) (v := Value.ref ib) (C := RX11) (T := TX11) (N := 69) hx hb hts inlX11 hown hK hP 3 rfl rfl 68 (by decide) (hts _ q14_10) (fun _ h9 => h9) (fs_ne (fs_ne (fs_ne (fs_ne h_fs_isBoxed (by decide)) (by decide)) (by decide)) (by decide)) dX11_startAnew_141 ?_
          refine lv_iload_n hx hb dX11_startAnew_144 rfl (lv_at hl 0 rfl) ?_
          refine lv_iconst (v := 0) hx hb dX11_startAnew_145 (by decide) ?_
          refine za_st hx hb hK hP hD hS 2 3 rfl rfl (0) rfl (by decide) (by decide) rfl dX11_startAnew_146 (fun f10 H locs ef10 hP hD hS => ?_)
          have hf10_0 : f10 0 = 0 := by rw [ef10]; exact pk_us
          have hP : va_P g.1 vwCl [(al, .inl (gI g, 24, .inl f8)), (dw, .inl (gI g, 2, .inl f_dw)), (ib, .inl (gZ g, 3, .inl f10)), (h0, .inr (11, ((((fs.set 49 (.int 0)).set 50 (.int 0)).set 65 (.int 0)).set 54 (.int 0)))), (gu, .inl (gI g, 2, .inl f_gu))] H := hP
          have hD : va_D A [(al, .inl (gI g, 24, .inl f8)), (dw, .inl (gI g, 2, .inl f_dw)), (ib, .inl (gZ g, 3, .inl f10)), (h0, .inr (11, ((((fs.set 49 (.int 0)).set 50 (.int 0)).set 65 (.int 0)).set 54 (.int 0)))), (gu, .inl (gI g, 2, .inl f_gu))] := hD
          refine lv_iinc (v := 1) (lv' := [(1, .int 1), (0, .ref h0)]) hx hb dX11_startAnew_147 hl (k := 0) rfl (by decide) (by decide) rfl (fun ls hl => ?_)
          refine lv_goto (tgt := 135) hx hb dX11_startAnew_150 (by decide) ?_
          refine lv_iload_n hx hb dX11_startAnew_135 rfl (lv_at hl 0 rfl) ?_
          refine lv_iconst (v := 3) hx hb dX11_startAnew_136 (by decide) ?_
          refine lv_icmp_ge (tgt := 153) hx hb dX11_startAnew_137 (by decide) (fun c11 => absurd c11 (by decide)) (fun _ => ?_)
          refine lv_aload_n hx hb dX11_startAnew_140 rfl (lv_at hl 1 rfl) ?_
          refine va_get (D := g.1) (ci := 11) (v := Value.ref ib) (C := RX11) (T := TX11) (N := 69) hx hb hts inlX11 hown hK hP 3 rfl rfl 68 (by decide) (hts _ q14_10) (fun _ h9 => h9) (fs_ne (fs_ne (fs_ne (fs_ne h_fs_isBoxed (by decide)) (by decide)) (by decide)) (by decide)) dX11_startAnew_141 ?_
          refine lv_iload_n hx hb dX11_startAnew_144 rfl (lv_at hl 0 rfl) ?_
          refine lv_iconst (v := 0) hx hb dX11_startAnew_145 (by decide) ?_
          refine za_st hx hb hK hP hD hS 2 3 rfl rfl (1) rfl (by decide) (by decide) rfl dX11_startAnew_146 (fun f12 H locs ef12 hP hD hS => ?_)
          have hf12_0 : f12 0 = 0 := by rw [ef12]; exact (pk_un (by decide)).trans hf10_0
          have hf12_1 : f12 1 = 0 := by rw [ef12]; exact pk_us
          have hP : va_P g.1 vwCl [(al, .inl (gI g, 24, .inl f8)), (dw, .inl (gI g, 2, .inl f_dw)), (ib, .inl (gZ g, 3, .inl f12)), (h0, .inr (11, ((((fs.set 49 (.int 0)).set 50 (.int 0)).set 65 (.int 0)).set 54 (.int 0)))), (gu, .inl (gI g, 2, .inl f_gu))] H := hP
          have hD : va_D A [(al, .inl (gI g, 24, .inl f8)), (dw, .inl (gI g, 2, .inl f_dw)), (ib, .inl (gZ g, 3, .inl f12)), (h0, .inr (11, ((((fs.set 49 (.int 0)).set 50 (.int 0)).set 65 (.int 0)).set 54 (.int 0)))), (gu, .inl (gI g, 2, .inl f_gu))] := hD
          refine lv_iinc (v := 2) (lv' := [(1, .int 2), (0, .ref h0)]) hx hb dX11_startAnew_147 hl (k := 0) rfl (by decide) (by decide) rfl (fun ls hl => ?_)
          refine lv_goto (tgt := 135) hx hb dX11_startAnew_150 (by decide) ?_
          refine lv_iload_n hx hb dX11_startAnew_135 rfl (lv_at hl 0 rfl) ?_
          refine lv_iconst (v := 3) hx hb dX11_startAnew_136 (by decide) ?_
          refine lv_icmp_ge (tgt := 153) hx hb dX11_startAnew_137 (by decide) (fun c13 => absurd c13 (by decide)) (fun _ => ?_)
          refine lv_aload_n hx hb dX11_startAnew_140 rfl (lv_at hl 1 rfl) ?_
          refine va_get (D := g.1) (ci := 11) (v := Value.ref ib) (C := RX11) (T := TX11) (N := 69) hx hb hts inlX11 hown hK hP 3 rfl rfl 68 (by decide) (hts _ q14_10) (fun _ h9 => h9) (fs_ne (fs_ne (fs_ne (fs_ne h_fs_isBoxed (by decide)) (by decide)) (by decide)) (by decide)) dX11_startAnew_141 ?_
          refine lv_iload_n hx hb dX11_startAnew_144 rfl (lv_at hl 0 rfl) ?_
          refine lv_iconst (v := 0) hx hb dX11_startAnew_145 (by decide) ?_
          refine za_st hx hb hK hP hD hS 2 3 rfl rfl (2) rfl (by decide) (by decide) rfl dX11_startAnew_146 (fun f14 H locs ef14 hP hD hS => ?_)
          have hf14_0 : f14 0 = 0 := by rw [ef14]; exact (pk_un (by decide)).trans hf12_0
          have hf14_1 : f14 1 = 0 := by rw [ef14]; exact (pk_un (by decide)).trans hf12_1
          have hf14_2 : f14 2 = 0 := by rw [ef14]; exact pk_us
          have hP : va_P g.1 vwCl [(al, .inl (gI g, 24, .inl f8)), (dw, .inl (gI g, 2, .inl f_dw)), (ib, .inl (gZ g, 3, .inl f14)), (h0, .inr (11, ((((fs.set 49 (.int 0)).set 50 (.int 0)).set 65 (.int 0)).set 54 (.int 0)))), (gu, .inl (gI g, 2, .inl f_gu))] H := hP
          have hD : va_D A [(al, .inl (gI g, 24, .inl f8)), (dw, .inl (gI g, 2, .inl f_dw)), (ib, .inl (gZ g, 3, .inl f14)), (h0, .inr (11, ((((fs.set 49 (.int 0)).set 50 (.int 0)).set 65 (.int 0)).set 54 (.int 0)))), (gu, .inl (gI g, 2, .inl f_gu))] := hD
          refine lv_iinc (v := 3) (lv' := [(1, .int 3), (0, .ref h0)]) hx hb dX11_startAnew_147 hl (k := 0) rfl (by decide) (by decide) rfl (fun ls hl => ?_)
          refine lv_goto (tgt := 135) hx hb dX11_startAnew_150 (by decide) ?_
          refine lv_iload_n hx hb dX11_startAnew_135 rfl (lv_at hl 0 rfl) ?_
          refine lv_iconst (v := 3) hx hb dX11_startAnew_136 (by decide) ?_
          refine lv_icmp_ge (tgt := 153) hx hb dX11_startAnew_137 (by decide) (fun _ => ?_) (fun c15 => absurd (by decide) c15)
          have hP9 : va_P g.1 vwCl [(h0, .inr (11, ((((fs.set 49 (.int 0)).set 50 (.int 0)).set 65 (.int 0)).set 54 (.int 0)))), (al, .inl (gI g, 24, .inl f8)), (gu, .inl (gI g, 2, .inl f_gu)), (dw, .inl (gI g, 2, .inl f_dw)), (ib, .inl (gZ g, 3, .inl f14))] H := hP.sub [3, 0, 4, 1, 2] rfl
          have hD9 : va_D A [(h0, .inr (11, ((((fs.set 49 (.int 0)).set 50 (.int 0)).set 65 (.int 0)).set 54 (.int 0)))), (al, .inl (gI g, 24, .inl f8)), (gu, .inl (gI g, 2, .inl f_gu)), (dw, .inl (gI g, 2, .inl f_dw)), (ib, .inl (gZ g, 3, .inl f14))] := hD.sub [3, 0, 4, 1, 2] (by decide) rfl
          exact xv hx hb hr hlocks hP9 hD9 hS ⟨f8, f14, rfl, hf8_20, hf8_21, hf8_22, hf8_23, hf14_0, hf14_1, hf14_2⟩ (Nat.le_of_ble_eq_true rfl) (Nat.le_of_ble_eq_true rfl) dX11_startAnew_153
        | succ n ih =>
          intro k hk H locs ls f4 hf4_21 hf4_22 hP hD hS hl
          have hkN : k < 5 := by omega
          refine lv_iload_n hx hb dX11_startAnew_23 rfl (lv_at hl 0 rfl) ?_
          refine lv_iconst (v := 5) hx hb dX11_startAnew_24 (by decide) ?_
          refine lv_icmp_ge (tgt := 86) hx hb dX11_startAnew_25 (by decide) (fun c16 => absurd c16 (nI_ge (b := 5) hkN (by decide))) (fun _ => ?_)
          refine lv_aload_n hx hb dX11_startAnew_28 rfl (lv_at hl 1 rfl) ?_
          refine va_get (D := g.1) (ci := 11) (v := Value.ref al) (C := RX11) (T := TX11) (N := 69) hx hb hts inlX11 hown hK hP 0 rfl rfl 46 (by decide) (hts _ q13_17) (fun _ h9 => h9) h_fs_all dX11_startAnew_29 ?_
          refine lv_iconst (v := 0) hx hb dX11_startAnew_32 (by decide) ?_
          refine lv_iload_n hx hb dX11_startAnew_33 rfl (lv_at hl 0 rfl) ?_
          refine lv_iadd hx hb dX11_startAnew_34 ?_
          refine lv_tope (y := (nI (0 + k))) (nI_add (0) (k)) ?_
          refine lv_iload_n hx hb dX11_startAnew_35 rfl (lv_at hl 0 rfl) ?_
          refine ia_st hx hb hK hP hD hS 1 1 rfl rfl (0 + k) rfl (by omega) (by decide) dX11_startAnew_36 (fun f17 H locs ef17 hP hD hS => ?_)
          have hf17_21 : f17 21 = 0 := by rw [ef17]; exact (pk_un (by omega)).trans hf4_21
          have hf17_22 : f17 22 = 0 := by rw [ef17]; exact (pk_un (by omega)).trans hf4_22
          have hP : va_P g.1 vwCl [(h0, .inr (11, fs)), (al, .inl (gI g, 24, .inl f17)), (gu, .inl (gI g, 2, .inl f_gu)), (dw, .inl (gI g, 2, .inl f_dw)), (ib, .inl (gZ g, 3, .inl f_ib))] H := hP
          have hD : va_D A [(h0, .inr (11, fs)), (al, .inl (gI g, 24, .inl f17)), (gu, .inl (gI g, 2, .inl f_gu)), (dw, .inl (gI g, 2, .inl f_dw)), (ib, .inl (gZ g, 3, .inl f_ib))] := hD
          refine lv_aload_n hx hb dX11_startAnew_37 rfl (lv_at hl 1 rfl) ?_
          refine va_get (D := g.1) (ci := 11) (v := Value.ref al) (C := RX11) (T := TX11) (N := 69) hx hb hts inlX11 hown hK hP 0 rfl rfl 46 (by decide) (hts _ q13_17) (fun _ h9 => h9) h_fs_all dX11_startAnew_38 ?_
          refine lv_iconst (v := 5) hx hb dX11_startAnew_41 (by decide) ?_
          refine lv_iload_n hx hb dX11_startAnew_42 rfl (lv_at hl 0 rfl) ?_
          refine lv_iadd hx hb dX11_startAnew_43 ?_
          refine lv_tope (y := (nI (5 + k))) (nI_add (5) (k)) ?_
          refine lv_iload_n hx hb dX11_startAnew_44 rfl (lv_at hl 0 rfl) ?_
          refine lv_aload_n hx hb dX11_startAnew_45 rfl (lv_at hl 1 rfl) ?_
          refine kI (wc := [(h0, .inr (11, fs)), (gu, .inl (gI g, 2, .inl f_gu))]) (wr := [(al, .inl (gI g, 24, .inl f17)), (dw, .inl (gI g, 2, .inl f_dw)), (ib, .inl (gZ g, 3, .inl f_ib))]) (rV (As := []) (rest := [.int (nI k), .int (nI (5 + k)), .ref al]) (meth2 := "") hcx (c_X11_many (hl_fs) (h_fs_guilds) (h_fs_bank) (h_f_gu_0) H.size) (gdV q15_2 q15_3 q15_4 q1_5 q15_5) dvX11_many ⟨Nat.le_of_ble_eq_true rfl, Nat.le_of_ble_eq_true rfl⟩ (hP.sub [0, 2] rfl) (hD.sub [0, 2] (by decide) rfl) (va_recv hK hP (ci := 11) (q0 := 0) rfl rfl) rfl hl.1 rfl (Nat.le_of_ble_eq_true rfl) dX11_startAnew_46 ⟨Nat.le_of_ble_eq_true rfl, Nat.le_of_ble_eq_true rfl⟩) hP hD hS hA [0, 2] [1, 3, 4] rfl rfl (by decide) (by decide) (fun r W' H locs hw hP hD hS => ?_)
          obtain ⟨rfl, rfl⟩ := hw
          have hP : va_P g.1 vwCl [(al, .inl (gI g, 24, .inl f17)), (dw, .inl (gI g, 2, .inl f_dw)), (ib, .inl (gZ g, 3, .inl f_ib)), (h0, .inr (11, fs)), (gu, .inl (gI g, 2, .inl f_gu))] H := hP
          have hD : va_D A [(al, .inl (gI g, 24, .inl f17)), (dw, .inl (gI g, 2, .inl f_dw)), (ib, .inl (gZ g, 3, .inl f_ib)), (h0, .inr (11, fs)), (gu, .inl (gI g, 2, .inl f_gu))] := hD
          refine lv_icmp_ge (tgt := 68) hx hb dX11_startAnew_49 (by decide) (fun _ => ?_) (fun c18 => absurd (nI_pos' (by omega)) c18)
          refine lv_iconst (v := 0) hx hb dX11_startAnew_68 (by decide) ?_
          refine ia_st hx hb hK hP hD hS 0 1 rfl rfl (5 + k) rfl (by omega) (by decide) dX11_startAnew_69 (fun f19 H locs ef19 hP hD hS => ?_)
          have hf19_21 : f19 21 = 0 := by rw [ef19]; exact (pk_un (by omega)).trans hf17_21
          have hf19_22 : f19 22 = 0 := by rw [ef19]; exact (pk_un (by omega)).trans hf17_22
          have hP : va_P g.1 vwCl [(al, .inl (gI g, 24, .inl f19)), (dw, .inl (gI g, 2, .inl f_dw)), (ib, .inl (gZ g, 3, .inl f_ib)), (h0, .inr (11, fs)), (gu, .inl (gI g, 2, .inl f_gu))] H := hP
          have hD : va_D A [(al, .inl (gI g, 24, .inl f19)), (dw, .inl (gI g, 2, .inl f_dw)), (ib, .inl (gZ g, 3, .inl f_ib)), (h0, .inr (11, fs)), (gu, .inl (gI g, 2, .inl f_gu))] := hD
          refine lv_aload_n hx hb dX11_startAnew_70 rfl (lv_at hl 1 rfl) ?_
          refine va_get (D := g.1) (ci := 11) (v := Value.ref al) (C := RX11) (T := TX11) (N := 69) hx hb hts inlX11 hown hK hP 3 rfl rfl 46 (by decide) (hts _ q13_17) (fun _ h9 => h9) h_fs_all dX11_startAnew_71 ?_
          refine lv_bipush (v := 15) hx hb dX11_startAnew_74 (by decide) ?_
          refine lv_iload_n hx hb dX11_startAnew_76 rfl (lv_at hl 0 rfl) ?_
          refine lv_iadd hx hb dX11_startAnew_77 ?_
          refine lv_tope (y := (nI (15 + k))) (nI_add (15) (k)) ?_
          refine lv_iconst (v := (-1)) hx hb dX11_startAnew_78 (by decide) ?_
          refine ia_st hx hb hK hP hD hS 0 1 rfl rfl (15 + k) rfl (by omega) (by decide) dX11_startAnew_79 (fun f20 H locs ef20 hP hD hS => ?_)
          have hf20_21 : f20 21 = 0 := by rw [ef20]; exact (pk_un (by omega)).trans hf19_21
          have hf20_22 : f20 22 = 0 := by rw [ef20]; exact (pk_un (by omega)).trans hf19_22
          have hP : va_P g.1 vwCl [(al, .inl (gI g, 24, .inl f20)), (dw, .inl (gI g, 2, .inl f_dw)), (ib, .inl (gZ g, 3, .inl f_ib)), (h0, .inr (11, fs)), (gu, .inl (gI g, 2, .inl f_gu))] H := hP
          have hD : va_D A [(al, .inl (gI g, 24, .inl f20)), (dw, .inl (gI g, 2, .inl f_dw)), (ib, .inl (gZ g, 3, .inl f_ib)), (h0, .inr (11, fs)), (gu, .inl (gI g, 2, .inl f_gu))] := hD
          refine lv_iinc (v := (nI (k + 1))) (lv' := [(1, .int (nI (k + 1))), (0, .ref h0)]) hx hb dX11_startAnew_80 hl (k := 0) rfl (nI_1 _) (by decide) rfl (fun ls hl => ?_)
          refine lv_goto (tgt := 23) hx hb dX11_startAnew_83 (by decide) ?_
          exact ih (k + 1) (by omega) H locs ls _ (hf20_21) (hf20_22) (hP.sub [3, 0, 4, 1, 2] rfl) (hD.sub [3, 0, 4, 1, 2] (by decide) rfl) hS (lv_sub hl [0, 1] rfl)
      exact loop5 5 0 rfl H locs ls _ (hf1_21) (hf1_22) hP hD hS hl
    | succ n ih =>
      intro k hk H locs ls f1 hinv hP hD hS hl
      have hkN : k < 24 := by omega
      refine lv_iload_n hx hb dX11_startAnew_2 rfl (lv_at hl 0 rfl) ?_
      refine lv_bipush (v := 24) hx hb dX11_startAnew_3 (by decide) ?_
      refine lv_icmp_ge (tgt := 21) hx hb dX11_startAnew_5 (by decide) (fun c21 => absurd c21 (nI_ge (b := 24) hkN (by decide))) (fun _ => ?_)
      refine lv_aload_n hx hb dX11_startAnew_8 rfl (lv_at hl 1 rfl) ?_
      refine va_get (D := g.1) (ci := 11) (v := Value.ref al) (C := RX11) (T := TX11) (N := 69) hx hb hts inlX11 hown hK hP 0 rfl rfl 46 (by decide) (hts _ q13_17) (fun _ h9 => h9) h_fs_all dX11_startAnew_9 ?_
      refine lv_iload_n hx hb dX11_startAnew_12 rfl (lv_at hl 0 rfl) ?_
      refine lv_iconst (v := 0) hx hb dX11_startAnew_13 (by decide) ?_
      refine ia_st hx hb hK hP hD hS 1 1 rfl rfl (k) rfl (by omega) (by decide) dX11_startAnew_14 (fun f22 H locs ef22 hP hD hS => ?_)
      have hP : va_P g.1 vwCl [(h0, .inr (11, fs)), (al, .inl (gI g, 24, .inl f22)), (gu, .inl (gI g, 2, .inl f_gu)), (dw, .inl (gI g, 2, .inl f_dw)), (ib, .inl (gZ g, 3, .inl f_ib))] H := hP
      have hD : va_D A [(h0, .inr (11, fs)), (al, .inl (gI g, 24, .inl f22)), (gu, .inl (gI g, 2, .inl f_gu)), (dw, .inl (gI g, 2, .inl f_dw)), (ib, .inl (gZ g, 3, .inl f_ib))] := hD
      refine lv_iinc (v := (nI (k + 1))) (lv' := [(1, .int (nI (k + 1))), (0, .ref h0)]) hx hb dX11_startAnew_15 hl (k := 0) rfl (nI_1 _) (by decide) rfl (fun ls hl => ?_)
      refine lv_goto (tgt := 2) hx hb dX11_startAnew_18 (by decide) ?_
      exact ih (k + 1) (by omega) H locs ls _ (by rw [ef22]; exact up_inv hinv) hP hD hS (lv_sub hl [0, 1] rfl)
  exact loop2 24 0 rfl H locs ls _ (fun j h => absurd h (Nat.not_lt_zero j)) hP hD hS hl

set_option maxHeartbeats 4000000 in
set_option maxRecDepth 100000 in
theorem c_X11_startAnew_1 {l : Launch} {g : Gx} {h0 al gu dw ib : Nat} {fs : List Value} {f_al : Nat → Int32} {f_gu : Nat → Int32} {f_dw : Nat → Int32} {f_ib : Nat → Int32} (hl_fs : fs.length = 69) (h_fs_all : fs[46]? = some (Value.ref al)) (h_fs_bank : fs[34]? = some (Value.int 1)) (h_fs_guilds : fs[12]? = some (Value.ref gu)) (h_fs_draw : fs[15]? = some (Value.ref dw)) (h_fs_isBoxed : fs[68]? = some (Value.ref ib)) (h_f_gu_1 : f_gu 1 = 0) (h_f_dw_1 : f_dw 1 = 0) : MV l g yX11_startAnew cX11_startAnew 2 4 0 0 [.ref h0] [(h0, .inr (11, fs)), (al, .inl (gI g, 24, .inl f_al)), (gu, .inl (gI g, 2, .inl f_gu)), (dw, .inl (gI g, 2, .inl f_dw)), (ib, .inl (gZ g, 3, .inl f_ib))] (fun W' => ∃ (z0 : Nat → Int32) (z1 : Nat → Int32), W' = [(h0, .inr (11, ((((fs.set 49 (.int 0)).set 50 (.int 0)).set 65 (.int 0)).set 54 (.int 0)))), (al, .inl (gI g, 24, .inl z0)), (gu, .inl (gI g, 2, .inl f_gu)), (dw, .inl (gI g, 2, .inl f_dw)), (ib, .inl (gZ g, 3, .inl z1))] ∧ z0 20 = 0 ∧ z0 21 = 0 ∧ z0 22 = 0 ∧ z0 23 = 0 ∧ z1 0 = 0 ∧ z1 1 = 0 ∧ z1 2 = 0) := by
  refine MVof (by decide) (Nat.le_of_ble_eq_true rfl) ?_
  intro p e s m below meth c A ls H locs hcx hA hP hD hS hl
  obtain ⟨hx, hb, hml, hr, hlocks, hown, hts, hE, hnm⟩ := id hcx
  have hown : s.vm.findClass RX11 = some m.cls := hown
  have hK := hE.1
  have hl : lv_has ls 2 [(0, .ref h0)] := hl
  refine lv_iconst (v := 0) hx hb dX11_startAnew_0 (by decide) ?_
  refine lv_istore_n (lv' := [(1, .int 0), (0, .ref h0)]) hx hb dX11_startAnew_1 rfl hl (by decide) rfl (fun ls hl => ?_)
  have loop2 : ∀ (n k : Nat), k + n = 24 → ∀ (H : Heap) (locs : List Loc) (ls : Array Slot) (f1 : Nat → Int32), (∀ j, j < k → f1 j = 0) → va_P g.1 vwCl [(h0, .inr (11, fs)), (al, .inl (gI g, 24, .inl f1)), (gu, .inl (gI g, 2, .inl f_gu)), (dw, .inl (gI g, 2, .inl f_dw)), (ib, .inl (gZ g, 3, .inl f_ib))] H → va_D A [(h0, .inr (11, fs)), (al, .inl (gI g, 24, .inl f1)), (gu, .inl (gI g, 2, .inl f_gu)), (dw, .inl (gI g, 2, .inl f_dw)), (ib, .inl (gZ g, 3, .inl f_ib))] → va_S A s.heap H locs → lv_has ls 2 [(1, .int (nI k)), (0, .ref h0)] → W p l e (rmD 4 0 0) s m ([Value.ref h0] : List Value).toArray below meth c H locs 0 0 (MQ below (QV g A (fun W' => ∃ (z0 : Nat → Int32) (z1 : Nat → Int32), W' = [(h0, .inr (11, ((((fs.set 49 (.int 0)).set 50 (.int 0)).set 65 (.int 0)).set 54 (.int 0)))), (al, .inl (gI g, 24, .inl z0)), (gu, .inl (gI g, 2, .inl f_gu)), (dw, .inl (gI g, 2, .inl f_dw)), (ib, .inl (gZ g, 3, .inl z1))] ∧ z0 20 = 0 ∧ z0 21 = 0 ∧ z0 22 = 0 ∧ z0 23 = 0 ∧ z1 0 = 0 ∧ z1 1 = 0 ∧ z1 2 = 0)) ([Value.ref h0] : List Value).toArray s 0 0 A) (F0 m 2 ls []) := by
    intro n
    induction n with
    | zero =>
      intro k hk H locs ls f1 hinv hP hD hS hl
      obtain rfl : k = 24 := by omega
      have hf1_21 : f1 21 = 0 := hinv 21 (by decide)
      have hf1_22 : f1 22 = 0 := hinv 22 (by decide)
      refine lv_iload_n hx hb dX11_startAnew_2 rfl (lv_at hl 0 rfl) ?_
      refine lv_bipush (v := 24) hx hb dX11_startAnew_3 (by decide) ?_
      refine lv_icmp_ge (tgt := 21) hx hb dX11_startAnew_5 (by decide) (fun _ => ?_) (fun c3 => absurd (by decide) c3)
      refine lv_iconst (v := 0) hx hb dX11_startAnew_21 (by decide) ?_
      refine lv_istore_n (lv' := [(1, .int 0), (0, .ref h0)]) hx hb dX11_startAnew_22 rfl hl (by decide) rfl (fun ls hl => ?_)
      have loop5 : ∀ (n k : Nat), k + n = 5 → ∀ (H : Heap) (locs : List Loc) (ls : Array Slot) (f4 : Nat → Int32), (f4 21 = 0) → (f4 22 = 0) → va_P g.1 vwCl [(h0, .inr (11, fs)), (al, .inl (gI g, 24, .inl f4)), (gu, .inl (gI g, 2, .inl f_gu)), (dw, .inl (gI g, 2, .inl f_dw)), (ib, .inl (gZ g, 3, .inl f_ib))] H → va_D A [(h0, .inr (11, fs)), (al, .inl (gI g, 24, .inl f4)), (gu, .inl (gI g, 2, .inl f_gu)), (dw, .inl (gI g, 2, .inl f_dw)), (ib, .inl (gZ g, 3, .inl f_ib))] → va_S A s.heap H locs → lv_has ls 2 [(1, .int (nI k)), (0, .ref h0)] → W p l e (rmD 4 0 0) s m ([Value.ref h0] : List Value).toArray below meth c H locs 0 0 (MQ below (QV g A (fun W' => ∃ (z0 : Nat → Int32) (z1 : Nat → Int32), W' = [(h0, .inr (11, ((((fs.set 49 (.int 0)).set 50 (.int 0)).set 65 (.int 0)).set 54 (.int 0)))), (al, .inl (gI g, 24, .inl z0)), (gu, .inl (gI g, 2, .inl f_gu)), (dw, .inl (gI g, 2, .inl f_dw)), (ib, .inl (gZ g, 3, .inl z1))] ∧ z0 20 = 0 ∧ z0 21 = 0 ∧ z0 22 = 0 ∧ z0 23 = 0 ∧ z1 0 = 0 ∧ z1 1 = 0 ∧ z1 2 = 0)) ([Value.ref h0] : List Value).toArray s 0 0 A) (F0 m 23 ls []) := by
        intro n
        induction n with
        | zero =>
          intro k hk H locs ls f4 hf4_21 hf4_22 hP hD hS hl
          obtain rfl : k = 5 := by omega
          refine lv_iload_n hx hb dX11_startAnew_23 rfl (lv_at hl 0 rfl) ?_
          refine lv_iconst (v := 5) hx hb dX11_startAnew_24 (by decide) ?_
          refine lv_icmp_ge (tgt := 86) hx hb dX11_startAnew_25 (by decide) (fun _ => ?_) (fun c6 => absurd (by decide) c6)
          refine lv_aload_n hx hb dX11_startAnew_86 rfl (lv_at hl 1 rfl) ?_
          refine va_get (D := g.1) (ci := 11) (v := Value.ref al) (C := RX11) (T := TX11) (N := 69) hx hb hts inlX11 hown hK hP 0 rfl rfl 46 (by decide) (hts _ q13_17) (fun _ h9 => h9) h_fs_all dX11_startAnew_87 ?_
          refine lv_bipush (v := 20) hx hb dX11_startAnew_90 (by decide) ?_
          refine lv_aload_n hx hb dX11_startAnew_92 rfl (lv_at hl 1 rfl) ?_
          refine kI (wc := [(h0, .inr (11, fs)), (gu, .inl (gI g, 2, .inl f_gu))]) (wr := [(al, .inl (gI g, 24, .inl f4)), (dw, .inl (gI g, 2, .inl f_dw)), (ib, .inl (gZ g, 3, .inl f_ib))]) (rV (As := []) (rest := [.int 20, .ref al]) (meth2 := "") hcx (c_X11_full_1 (hl_fs) (h_fs_guilds) (h_fs_bank) (h_f_gu_1) H.size) (gdV q15_6 q15_7 q15_8 q1_5 q15_9) dvX11_full ⟨Nat.le_of_ble_eq_true rfl, Nat.le_of_ble_eq_true rfl⟩ (hP.sub [0, 2] rfl) (hD.sub [0, 2] (by decide) rfl) (va_recv hK hP (ci := 11) (q0 := 0) rfl rfl) rfl hl.1 rfl (Nat.le_of_ble_eq_true rfl) dX11_startAnew_93 ⟨Nat.le_of_ble_eq_true rfl, Nat.le_of_ble_eq_true rfl⟩) hP hD hS hA [0, 2] [1, 3, 4] rfl rfl (by decide) (by decide) (fun r W' H locs hw hP hD hS => ?_)
          obtain ⟨rfl, rfl⟩ := hw
          have hP : va_P g.1 vwCl [(al, .inl (gI g, 24, .inl f4)), (dw, .inl (gI g, 2, .inl f_dw)), (ib, .inl (gZ g, 3, .inl f_ib)), (h0, .inr (11, fs)), (gu, .inl (gI g, 2, .inl f_gu))] H := hP
          have hD : va_D A [(al, .inl (gI g, 24, .inl f4)), (dw, .inl (gI g, 2, .inl f_dw)), (ib, .inl (gZ g, 3, .inl f_ib)), (h0, .inr (11, fs)), (gu, .inl (gI g, 2, .inl f_gu))] := hD
          refine ia_st hx hb hK hP hD hS 0 1 rfl rfl (20) rfl (by decide) (by decide) dX11_startAnew_96 (fun f7 H locs ef7 hP hD hS => ?_)
          have hf7_20 : f7 20 = 0 := by rw [ef7]; exact pk_us
          have hf7_21 : f7 21 = 0 := by rw [ef7]; exact (pk_un (by decide)).trans hf4_21
          have hf7_22 : f7 22 = 0 := by rw [ef7]; exact (pk_un (by decide)).trans hf4_22
          have hP : va_P g.1 vwCl [(al, .inl (gI g, 24, .inl f7)), (dw, .inl (gI g, 2, .inl f_dw)), (ib, .inl (gZ g, 3, .inl f_ib)), (h0, .inr (11, fs)), (gu, .inl (gI g, 2, .inl f_gu))] H := hP
          have hD : va_D A [(al, .inl (gI g, 24, .inl f7)), (dw, .inl (gI g, 2, .inl f_dw)), (ib, .inl (gZ g, 3, .inl f_ib)), (h0, .inr (11, fs)), (gu, .inl (gI g, 2, .inl f_gu))] := hD
          refine lv_aload_n hx hb dX11_startAnew_97 rfl (lv_at hl 1 rfl) ?_
          refine va_get (D := g.1) (ci := 11) (v := Value.ref al) (C := RX11) (T := TX11) (N := 69) hx hb hts inlX11 hown hK hP 3 rfl rfl 46 (by decide) (hts _ q13_17) (fun _ h9 => h9) h_fs_all dX11_startAnew_98 ?_
          refine lv_bipush (v := 23) hx hb dX11_startAnew_101 (by decide) ?_
          refine lv_aload_n hx hb dX11_startAnew_103 rfl (lv_at hl 1 rfl) ?_
          refine va_get (D := g.1) (ci := 11) (v := Value.ref dw) (C := RX11) (T := TX11) (N := 69) hx hb hts inlX11 hown hK hP 3 rfl rfl 15 (by decide) (hts _ q12_22) (fun _ h9 => h9) h_fs_draw dX11_startAnew_104 ?_
          refine lv_aload_n hx hb dX11_startAnew_107 rfl (lv_at hl 1 rfl) ?_
          refine va_get (D := g.1) (ci := 11) (v := Value.int 1) (C := RX11) (T := TX11) (N := 69) hx hb hts inlX11 hown hK hP 3 rfl rfl 34 (by decide) (hts _ q14_21) (fun _ h9 => h9) h_fs_bank dX11_startAnew_108 ?_
          refine ia_ld hx hb hK hP 1 1 rfl rfl (1) rfl (by decide) (by decide) dX11_startAnew_111 ?_
          refine lv_tope (y := 0) h_f_dw_1 ?_
          refine ia_st hx hb hK hP hD hS 0 1 rfl rfl (23) rfl (by decide) (by decide) dX11_startAnew_112 (fun f8 H locs ef8 hP hD hS => ?_)
          have hf8_20 : f8 20 = 0 := by rw [ef8]; exact (pk_un (by decide)).trans hf7_20
          have hf8_21 : f8 21 = 0 := by rw [ef8]; exact (pk_un (by decide)).trans hf7_21
          have hf8_22 : f8 22 = 0 := by rw [ef8]; exact (pk_un (by decide)).trans hf7_22
          have hf8_23 : f8 23 = 0 := by rw [ef8]; exact pk_us
          have hP : va_P g.1 vwCl [(al, .inl (gI g, 24, .inl f8)), (dw, .inl (gI g, 2, .inl f_dw)), (ib, .inl (gZ g, 3, .inl f_ib)), (h0, .inr (11, fs)), (gu, .inl (gI g, 2, .inl f_gu))] H := hP
          have hD : va_D A [(al, .inl (gI g, 24, .inl f8)), (dw, .inl (gI g, 2, .inl f_dw)), (ib, .inl (gZ g, 3, .inl f_ib)), (h0, .inr (11, fs)), (gu, .inl (gI g, 2, .inl f_gu))] := hD
          refine lv_aload_n hx hb dX11_startAnew_113 rfl (lv_at hl 1 rfl) ?_
          refine lv_iconst (v := 0) hx hb dX11_startAnew_114 (by decide) ?_
          refine va_put (D := g.1) (ci := 11) (v := Value.int 0) (ty := .int) (C := RX11) (T := TX11) (N := 69) hx hb hts inlX11 tyX11 tyX11_ok nmX11 hown hK hP hD hS 3 rfl rfl 49 (by decide) (hts _ q14_22) (fun _ h9 => h9) rfl (by decide +kernel) rfl rfl (by simp [hl_fs]) dX11_startAnew_115 (fun H locs hP hD hS => ?_)
          have hP : va_P g.1 vwCl [(al, .inl (gI g, 24, .inl f8)), (dw, .inl (gI g, 2, .inl f_dw)), (ib, .inl (gZ g, 3, .inl f_ib)), (h0, .inr (11, (fs.set 49 (.int 0)))), (gu, .inl (gI g, 2, .inl f_gu))] H := hP
          have hD : va_D A [(al, .inl (gI g, 24, .inl f8)), (dw, .inl (gI g, 2, .inl f_dw)), (ib, .inl (gZ g, 3, .inl f_ib)), (h0, .inr (11, (fs.set 49 (.int 0)))), (gu, .inl (gI g, 2, .inl f_gu))] := hD
          refine lv_aload_n hx hb dX11_startAnew_118 rfl (lv_at hl 1 rfl) ?_
          refine lv_iconst (v := 0) hx hb dX11_startAnew_119 (by decide) ?_
          refine va_put (D := g.1) (ci := 11) (v := Value.int 0) (ty := .int) (C := RX11) (T := TX11) (N := 69) hx hb hts inlX11 tyX11 tyX11_ok nmX11 hown hK hP hD hS 3 rfl rfl 50 (by decide) (hts _ q14_23) (fun _ h9 => h9) rfl (by decide +kernel) rfl rfl (by simp [hl_fs]) dX11_startAnew_120 (fun H locs hP hD hS => ?_)
          have hP : va_P g.1 vwCl [(al, .inl (gI g, 24, .inl f8)), (dw, .inl (gI g, 2, .inl f_dw)), (ib, .inl (gZ g, 3, .inl f_ib)), (h0, .inr (11, ((fs.set 49 (.int 0)).set 50 (.int 0)))), (gu, .inl (gI g, 2, .inl f_gu))] H := hP
          have hD : va_D A [(al, .inl (gI g, 24, .inl f8)), (dw, .inl (gI g, 2, .inl f_dw)), (ib, .inl (gZ g, 3, .inl f_ib)), (h0, .inr (11, ((fs.set 49 (.int 0)).set 50 (.int 0)))), (gu, .inl (gI g, 2, .inl f_gu))] := hD
          refine lv_aload_n hx hb dX11_startAnew_123 rfl (lv_at hl 1 rfl) ?_
          refine lv_iconst (v := 0) hx hb dX11_startAnew_124 (by decide) ?_
          refine va_put (D := g.1) (ci := 11) (v := Value.int 0) (ty := .int) (C := RX11) (T := TX11) (N := 69) hx hb hts inlX11 tyX11 tyX11_ok nmX11 hown hK hP hD hS 3 rfl rfl 65 (by decide) (hts _ q15_0) (fun _ h9 => h9) rfl (by decide +kernel) rfl rfl (by simp [hl_fs]) dX11_startAnew_125 (fun H locs hP hD hS => ?_)
          have hP : va_P g.1 vwCl [(al, .inl (gI g, 24, .inl f8)), (dw, .inl (gI g, 2, .inl f_dw)), (ib, .inl (gZ g, 3, .inl f_ib)), (h0, .inr (11, (((fs.set 49 (.int 0)).set 50 (.int 0)).set 65 (.int 0)))), (gu, .inl (gI g, 2, .inl f_gu))] H := hP
          have hD : va_D A [(al, .inl (gI g, 24, .inl f8)), (dw, .inl (gI g, 2, .inl f_dw)), (ib, .inl (gZ g, 3, .inl f_ib)), (h0, .inr (11, (((fs.set 49 (.int 0)).set 50 (.int 0)).set 65 (.int 0)))), (gu, .inl (gI g, 2, .inl f_gu))] := hD
          refine lv_aload_n hx hb dX11_startAnew_128 rfl (lv_at hl 1 rfl) ?_
          refine lv_iconst (v := 0) hx hb dX11_startAnew_129 (by decide) ?_
          refine va_put (D := g.1) (ci := 11) (v := Value.int 0) (ty := .int) (C := RX11) (T := TX11) (N := 69) hx hb hts inlX11 tyX11 tyX11_ok nmX11 hown hK hP hD hS 3 rfl rfl 54 (by decide) (hts _ q15_1) (fun _ h9 => h9) rfl (by decide +kernel) rfl rfl (by simp [hl_fs]) dX11_startAnew_130 (fun H locs hP hD hS => ?_)
          have hP : va_P g.1 vwCl [(al, .inl (gI g, 24, .inl f8)), (dw, .inl (gI g, 2, .inl f_dw)), (ib, .inl (gZ g, 3, .inl f_ib)), (h0, .inr (11, ((((fs.set 49 (.int 0)).set 50 (.int 0)).set 65 (.int 0)).set 54 (.int 0)))), (gu, .inl (gI g, 2, .inl f_gu))] H := hP
          have hD : va_D A [(al, .inl (gI g, 24, .inl f8)), (dw, .inl (gI g, 2, .inl f_dw)), (ib, .inl (gZ g, 3, .inl f_ib)), (h0, .inr (11, ((((fs.set 49 (.int 0)).set 50 (.int 0)).set 65 (.int 0)).set 54 (.int 0)))), (gu, .inl (gI g, 2, .inl f_gu))] := hD
          refine lv_iconst (v := 0) hx hb dX11_startAnew_133 (by decide) ?_
          refine lv_istore_n (lv' := [(1, .int 0), (0, .ref h0)]) hx hb dX11_startAnew_134 rfl hl (by decide) rfl (fun ls hl => ?_)
          refine lv_iload_n hx hb dX11_startAnew_135 rfl (lv_at hl 0 rfl) ?_
          refine lv_iconst (v := 3) hx hb dX11_startAnew_136 (by decide) ?_
          refine lv_icmp_ge (tgt := 153) hx hb dX11_startAnew_137 (by decide) (fun c9 => absurd c9 (by decide)) (fun _ => ?_)
          refine lv_aload_n hx hb dX11_startAnew_140 rfl (lv_at hl 1 rfl) ?_
          refine va_get (D := g.1) (ci := 11) (v := Value.ref ib) (C := RX11) (T := TX11) (N := 69) hx hb hts inlX11 hown hK hP 3 rfl rfl 68 (by decide) (hts _ q14_10) (fun _ h9 => h9) (fs_ne (fs_ne (fs_ne (fs_ne h_fs_isBoxed (by decide)) (by decide)) (by decide)) (by decide)) dX11_startAnew_141 ?_
          refine lv_iload_n hx hb dX11_startAnew_144 rfl (lv_at hl 0 rfl) ?_
          refine lv_iconst (v := 0) hx hb dX11_startAnew_145 (by decide) ?_
          refine za_st hx hb hK hP hD hS 2 3 rfl rfl (0) rfl (by decide) (by decide) rfl dX11_startAnew_146 (fun f10 H locs ef10 hP hD hS => ?_)
          have hf10_0 : f10 0 = 0 := by rw [ef10]; exact pk_us
          have hP : va_P g.1 vwCl [(al, .inl (gI g, 24, .inl f8)), (dw, .inl (gI g, 2, .inl f_dw)), (ib, .inl (gZ g, 3, .inl f10)), (h0, .inr (11, ((((fs.set 49 (.int 0)).set 50 (.int 0)).set 65 (.int 0)).set 54 (.int 0)))), (gu, .inl (gI g, 2, .inl f_gu))] H := hP
          have hD : va_D A [(al, .inl (gI g, 24, .inl f8)), (dw, .inl (gI g, 2, .inl f_dw)), (ib, .inl (gZ g, 3, .inl f10)), (h0, .inr (11, ((((fs.set 49 (.int 0)).set 50 (.int 0)).set 65 (.int 0)).set 54 (.int 0)))), (gu, .inl (gI g, 2, .inl f_gu))] := hD
          refine lv_iinc (v := 1) (lv' := [(1, .int 1), (0, .ref h0)]) hx hb dX11_startAnew_147 hl (k := 0) rfl (by decide) (by decide) rfl (fun ls hl => ?_)
          refine lv_goto (tgt := 135) hx hb dX11_startAnew_150 (by decide) ?_
          refine lv_iload_n hx hb dX11_startAnew_135 rfl (lv_at hl 0 rfl) ?_
          refine lv_iconst (v := 3) hx hb dX11_startAnew_136 (by decide) ?_
          refine lv_icmp_ge (tgt := 153) hx hb dX11_startAnew_137 (by decide) (fun c11 => absurd c11 (by decide)) (fun _ => ?_)
          refine lv_aload_n hx hb dX11_startAnew_140 rfl (lv_at hl 1 rfl) ?_
          refine va_get (D := g.1) (ci := 11) (v := Value.ref ib) (C := RX11) (T := TX11) (N := 69) hx hb hts inlX11 hown hK hP 3 rfl rfl 68 (by decide) (hts _ q14_10) (fun _ h9 => h9) (fs_ne (fs_ne (fs_ne (fs_ne h_fs_isBoxed (by decide)) (by decide)) (by decide)) (by decide)) dX11_startAnew_141 ?_
          refine lv_iload_n hx hb dX11_startAnew_144 rfl (lv_at hl 0 rfl) ?_
          refine lv_iconst (v := 0) hx hb dX11_startAnew_145 (by decide) ?_
          refine za_st hx hb hK hP hD hS 2 3 rfl rfl (1) rfl (by decide) (by decide) rfl dX11_startAnew_146 (fun f12 H locs ef12 hP hD hS => ?_)
          have hf12_0 : f12 0 = 0 := by rw [ef12]; exact (pk_un (by decide)).trans hf10_0
          have hf12_1 : f12 1 = 0 := by rw [ef12]; exact pk_us
          have hP : va_P g.1 vwCl [(al, .inl (gI g, 24, .inl f8)), (dw, .inl (gI g, 2, .inl f_dw)), (ib, .inl (gZ g, 3, .inl f12)), (h0, .inr (11, ((((fs.set 49 (.int 0)).set 50 (.int 0)).set 65 (.int 0)).set 54 (.int 0)))), (gu, .inl (gI g, 2, .inl f_gu))] H := hP
          have hD : va_D A [(al, .inl (gI g, 24, .inl f8)), (dw, .inl (gI g, 2, .inl f_dw)), (ib, .inl (gZ g, 3, .inl f12)), (h0, .inr (11, ((((fs.set 49 (.int 0)).set 50 (.int 0)).set 65 (.int 0)).set 54 (.int 0)))), (gu, .inl (gI g, 2, .inl f_gu))] := hD
          refine lv_iinc (v := 2) (lv' := [(1, .int 2), (0, .ref h0)]) hx hb dX11_startAnew_147 hl (k := 0) rfl (by decide) (by decide) rfl (fun ls hl => ?_)
          refine lv_goto (tgt := 135) hx hb dX11_startAnew_150 (by decide) ?_
          refine lv_iload_n hx hb dX11_startAnew_135 rfl (lv_at hl 0 rfl) ?_
          refine lv_iconst (v := 3) hx hb dX11_startAnew_136 (by decide) ?_
          refine lv_icmp_ge (tgt := 153) hx hb dX11_startAnew_137 (by decide) (fun c13 => absurd c13 (by decide)) (fun _ => ?_)
          refine lv_aload_n hx hb dX11_startAnew_140 rfl (lv_at hl 1 rfl) ?_
          refine va_get (D := g.1) (ci := 11) (v := Value.ref ib) (C := RX11) (T := TX11) (N := 69) hx hb hts inlX11 hown hK hP 3 rfl rfl 68 (by decide) (hts _ q14_10) (fun _ h9 => h9) (fs_ne (fs_ne (fs_ne (fs_ne h_fs_isBoxed (by decide)) (by decide)) (by decide)) (by decide)) dX11_startAnew_141 ?_
          refine lv_iload_n hx hb dX11_startAnew_144 rfl (lv_at hl 0 rfl) ?_
          refine lv_iconst (v := 0) hx hb dX11_startAnew_145 (by decide) ?_
          refine za_st hx hb hK hP hD hS 2 3 rfl rfl (2) rfl (by decide) (by decide) rfl dX11_startAnew_146 (fun f14 H locs ef14 hP hD hS => ?_)
          have hf14_0 : f14 0 = 0 := by rw [ef14]; exact (pk_un (by decide)).trans hf12_0
          have hf14_1 : f14 1 = 0 := by rw [ef14]; exact (pk_un (by decide)).trans hf12_1
          have hf14_2 : f14 2 = 0 := by rw [ef14]; exact pk_us
          have hP : va_P g.1 vwCl [(al, .inl (gI g, 24, .inl f8)), (dw, .inl (gI g, 2, .inl f_dw)), (ib, .inl (gZ g, 3, .inl f14)), (h0, .inr (11, ((((fs.set 49 (.int 0)).set 50 (.int 0)).set 65 (.int 0)).set 54 (.int 0)))), (gu, .inl (gI g, 2, .inl f_gu))] H := hP
          have hD : va_D A [(al, .inl (gI g, 24, .inl f8)), (dw, .inl (gI g, 2, .inl f_dw)), (ib, .inl (gZ g, 3, .inl f14)), (h0, .inr (11, ((((fs.set 49 (.int 0)).set 50 (.int 0)).set 65 (.int 0)).set 54 (.int 0)))), (gu, .inl (gI g, 2, .inl f_gu))] := hD
          refine lv_iinc (v := 3) (lv' := [(1, .int 3), (0, .ref h0)]) hx hb dX11_startAnew_147 hl (k := 0) rfl (by decide) (by decide) rfl (fun ls hl => ?_)
          refine lv_goto (tgt := 135) hx hb dX11_startAnew_150 (by decide) ?_
          refine lv_iload_n hx hb dX11_startAnew_135 rfl (lv_at hl 0 rfl) ?_
          refine lv_iconst (v := 3) hx hb dX11_startAnew_136 (by decide) ?_
          refine lv_icmp_ge (tgt := 153) hx hb dX11_startAnew_137 (by decide) (fun _ => ?_) (fun c15 => absurd (by decide) c15)
          have hP9 : va_P g.1 vwCl [(h0, .inr (11, ((((fs.set 49 (.int 0)).set 50 (.int 0)).set 65 (.int 0)).set 54 (.int 0)))), (al, .inl (gI g, 24, .inl f8)), (gu, .inl (gI g, 2, .inl f_gu)), (dw, .inl (gI g, 2, .inl f_dw)), (ib, .inl (gZ g, 3, .inl f14))] H := hP.sub [3, 0, 4, 1, 2] rfl
          have hD9 : va_D A [(h0, .inr (11, ((((fs.set 49 (.int 0)).set 50 (.int 0)).set 65 (.int 0)).set 54 (.int 0)))), (al, .inl (gI g, 24, .inl f8)), (gu, .inl (gI g, 2, .inl f_gu)), (dw, .inl (gI g, 2, .inl f_dw)), (ib, .inl (gZ g, 3, .inl f14))] := hD.sub [3, 0, 4, 1, 2] (by decide) rfl
          exact xv hx hb hr hlocks hP9 hD9 hS ⟨f8, f14, rfl, hf8_20, hf8_21, hf8_22, hf8_23, hf14_0, hf14_1, hf14_2⟩ (Nat.le_of_ble_eq_true rfl) (Nat.le_of_ble_eq_true rfl) dX11_startAnew_153
        | succ n ih =>
          intro k hk H locs ls f4 hf4_21 hf4_22 hP hD hS hl
          have hkN : k < 5 := by omega
          refine lv_iload_n hx hb dX11_startAnew_23 rfl (lv_at hl 0 rfl) ?_
          refine lv_iconst (v := 5) hx hb dX11_startAnew_24 (by decide) ?_
          refine lv_icmp_ge (tgt := 86) hx hb dX11_startAnew_25 (by decide) (fun c16 => absurd c16 (nI_ge (b := 5) hkN (by decide))) (fun _ => ?_)
          refine lv_aload_n hx hb dX11_startAnew_28 rfl (lv_at hl 1 rfl) ?_
          refine va_get (D := g.1) (ci := 11) (v := Value.ref al) (C := RX11) (T := TX11) (N := 69) hx hb hts inlX11 hown hK hP 0 rfl rfl 46 (by decide) (hts _ q13_17) (fun _ h9 => h9) h_fs_all dX11_startAnew_29 ?_
          refine lv_iconst (v := 0) hx hb dX11_startAnew_32 (by decide) ?_
          refine lv_iload_n hx hb dX11_startAnew_33 rfl (lv_at hl 0 rfl) ?_
          refine lv_iadd hx hb dX11_startAnew_34 ?_
          refine lv_tope (y := (nI (0 + k))) (nI_add (0) (k)) ?_
          refine lv_iload_n hx hb dX11_startAnew_35 rfl (lv_at hl 0 rfl) ?_
          refine ia_st hx hb hK hP hD hS 1 1 rfl rfl (0 + k) rfl (by omega) (by decide) dX11_startAnew_36 (fun f17 H locs ef17 hP hD hS => ?_)
          have hf17_21 : f17 21 = 0 := by rw [ef17]; exact (pk_un (by omega)).trans hf4_21
          have hf17_22 : f17 22 = 0 := by rw [ef17]; exact (pk_un (by omega)).trans hf4_22
          have hP : va_P g.1 vwCl [(h0, .inr (11, fs)), (al, .inl (gI g, 24, .inl f17)), (gu, .inl (gI g, 2, .inl f_gu)), (dw, .inl (gI g, 2, .inl f_dw)), (ib, .inl (gZ g, 3, .inl f_ib))] H := hP
          have hD : va_D A [(h0, .inr (11, fs)), (al, .inl (gI g, 24, .inl f17)), (gu, .inl (gI g, 2, .inl f_gu)), (dw, .inl (gI g, 2, .inl f_dw)), (ib, .inl (gZ g, 3, .inl f_ib))] := hD
          refine lv_aload_n hx hb dX11_startAnew_37 rfl (lv_at hl 1 rfl) ?_
          refine va_get (D := g.1) (ci := 11) (v := Value.ref al) (C := RX11) (T := TX11) (N := 69) hx hb hts inlX11 hown hK hP 0 rfl rfl 46 (by decide) (hts _ q13_17) (fun _ h9 => h9) h_fs_all dX11_startAnew_38 ?_
          refine lv_iconst (v := 5) hx hb dX11_startAnew_41 (by decide) ?_
          refine lv_iload_n hx hb dX11_startAnew_42 rfl (lv_at hl 0 rfl) ?_
          refine lv_iadd hx hb dX11_startAnew_43 ?_
          refine lv_tope (y := (nI (5 + k))) (nI_add (5) (k)) ?_
          refine lv_iload_n hx hb dX11_startAnew_44 rfl (lv_at hl 0 rfl) ?_
          refine lv_aload_n hx hb dX11_startAnew_45 rfl (lv_at hl 1 rfl) ?_
          refine kI (wc := [(h0, .inr (11, fs)), (gu, .inl (gI g, 2, .inl f_gu))]) (wr := [(al, .inl (gI g, 24, .inl f17)), (dw, .inl (gI g, 2, .inl f_dw)), (ib, .inl (gZ g, 3, .inl f_ib))]) (rV (As := []) (rest := [.int (nI k), .int (nI (5 + k)), .ref al]) (meth2 := "") hcx (c_X11_many_1 (hl_fs) (h_fs_guilds) (h_fs_bank) (h_f_gu_1) H.size) (gdV q15_2 q15_3 q15_4 q1_5 q15_5) dvX11_many ⟨Nat.le_of_ble_eq_true rfl, Nat.le_of_ble_eq_true rfl⟩ (hP.sub [0, 2] rfl) (hD.sub [0, 2] (by decide) rfl) (va_recv hK hP (ci := 11) (q0 := 0) rfl rfl) rfl hl.1 rfl (Nat.le_of_ble_eq_true rfl) dX11_startAnew_46 ⟨Nat.le_of_ble_eq_true rfl, Nat.le_of_ble_eq_true rfl⟩) hP hD hS hA [0, 2] [1, 3, 4] rfl rfl (by decide) (by decide) (fun r W' H locs hw hP hD hS => ?_)
          obtain ⟨rfl, rfl⟩ := hw
          have hP : va_P g.1 vwCl [(al, .inl (gI g, 24, .inl f17)), (dw, .inl (gI g, 2, .inl f_dw)), (ib, .inl (gZ g, 3, .inl f_ib)), (h0, .inr (11, fs)), (gu, .inl (gI g, 2, .inl f_gu))] H := hP
          have hD : va_D A [(al, .inl (gI g, 24, .inl f17)), (dw, .inl (gI g, 2, .inl f_dw)), (ib, .inl (gZ g, 3, .inl f_ib)), (h0, .inr (11, fs)), (gu, .inl (gI g, 2, .inl f_gu))] := hD
          refine lv_icmp_ge (tgt := 68) hx hb dX11_startAnew_49 (by decide) (fun _ => ?_) (fun c18 => absurd (nI_pos' (by omega)) c18)
          refine lv_iconst (v := 0) hx hb dX11_startAnew_68 (by decide) ?_
          refine ia_st hx hb hK hP hD hS 0 1 rfl rfl (5 + k) rfl (by omega) (by decide) dX11_startAnew_69 (fun f19 H locs ef19 hP hD hS => ?_)
          have hf19_21 : f19 21 = 0 := by rw [ef19]; exact (pk_un (by omega)).trans hf17_21
          have hf19_22 : f19 22 = 0 := by rw [ef19]; exact (pk_un (by omega)).trans hf17_22
          have hP : va_P g.1 vwCl [(al, .inl (gI g, 24, .inl f19)), (dw, .inl (gI g, 2, .inl f_dw)), (ib, .inl (gZ g, 3, .inl f_ib)), (h0, .inr (11, fs)), (gu, .inl (gI g, 2, .inl f_gu))] H := hP
          have hD : va_D A [(al, .inl (gI g, 24, .inl f19)), (dw, .inl (gI g, 2, .inl f_dw)), (ib, .inl (gZ g, 3, .inl f_ib)), (h0, .inr (11, fs)), (gu, .inl (gI g, 2, .inl f_gu))] := hD
          refine lv_aload_n hx hb dX11_startAnew_70 rfl (lv_at hl 1 rfl) ?_
          refine va_get (D := g.1) (ci := 11) (v := Value.ref al) (C := RX11) (T := TX11) (N := 69) hx hb hts inlX11 hown hK hP 3 rfl rfl 46 (by decide) (hts _ q13_17) (fun _ h9 => h9) h_fs_all dX11_startAnew_71 ?_
          refine lv_bipush (v := 15) hx hb dX11_startAnew_74 (by decide) ?_
          refine lv_iload_n hx hb dX11_startAnew_76 rfl (lv_at hl 0 rfl) ?_
          refine lv_iadd hx hb dX11_startAnew_77 ?_
          refine lv_tope (y := (nI (15 + k))) (nI_add (15) (k)) ?_
          refine lv_iconst (v := (-1)) hx hb dX11_startAnew_78 (by decide) ?_
          refine ia_st hx hb hK hP hD hS 0 1 rfl rfl (15 + k) rfl (by omega) (by decide) dX11_startAnew_79 (fun f20 H locs ef20 hP hD hS => ?_)
          have hf20_21 : f20 21 = 0 := by rw [ef20]; exact (pk_un (by omega)).trans hf19_21
          have hf20_22 : f20 22 = 0 := by rw [ef20]; exact (pk_un (by omega)).trans hf19_22
          have hP : va_P g.1 vwCl [(al, .inl (gI g, 24, .inl f20)), (dw, .inl (gI g, 2, .inl f_dw)), (ib, .inl (gZ g, 3, .inl f_ib)), (h0, .inr (11, fs)), (gu, .inl (gI g, 2, .inl f_gu))] H := hP
          have hD : va_D A [(al, .inl (gI g, 24, .inl f20)), (dw, .inl (gI g, 2, .inl f_dw)), (ib, .inl (gZ g, 3, .inl f_ib)), (h0, .inr (11, fs)), (gu, .inl (gI g, 2, .inl f_gu))] := hD
          refine lv_iinc (v := (nI (k + 1))) (lv' := [(1, .int (nI (k + 1))), (0, .ref h0)]) hx hb dX11_startAnew_80 hl (k := 0) rfl (nI_1 _) (by decide) rfl (fun ls hl => ?_)
          refine lv_goto (tgt := 23) hx hb dX11_startAnew_83 (by decide) ?_
          exact ih (k + 1) (by omega) H locs ls _ (hf20_21) (hf20_22) (hP.sub [3, 0, 4, 1, 2] rfl) (hD.sub [3, 0, 4, 1, 2] (by decide) rfl) hS (lv_sub hl [0, 1] rfl)
      exact loop5 5 0 rfl H locs ls _ (hf1_21) (hf1_22) hP hD hS hl
    | succ n ih =>
      intro k hk H locs ls f1 hinv hP hD hS hl
      have hkN : k < 24 := by omega
      refine lv_iload_n hx hb dX11_startAnew_2 rfl (lv_at hl 0 rfl) ?_
      refine lv_bipush (v := 24) hx hb dX11_startAnew_3 (by decide) ?_
      refine lv_icmp_ge (tgt := 21) hx hb dX11_startAnew_5 (by decide) (fun c21 => absurd c21 (nI_ge (b := 24) hkN (by decide))) (fun _ => ?_)
      refine lv_aload_n hx hb dX11_startAnew_8 rfl (lv_at hl 1 rfl) ?_
      refine va_get (D := g.1) (ci := 11) (v := Value.ref al) (C := RX11) (T := TX11) (N := 69) hx hb hts inlX11 hown hK hP 0 rfl rfl 46 (by decide) (hts _ q13_17) (fun _ h9 => h9) h_fs_all dX11_startAnew_9 ?_
      refine lv_iload_n hx hb dX11_startAnew_12 rfl (lv_at hl 0 rfl) ?_
      refine lv_iconst (v := 0) hx hb dX11_startAnew_13 (by decide) ?_
      refine ia_st hx hb hK hP hD hS 1 1 rfl rfl (k) rfl (by omega) (by decide) dX11_startAnew_14 (fun f22 H locs ef22 hP hD hS => ?_)
      have hP : va_P g.1 vwCl [(h0, .inr (11, fs)), (al, .inl (gI g, 24, .inl f22)), (gu, .inl (gI g, 2, .inl f_gu)), (dw, .inl (gI g, 2, .inl f_dw)), (ib, .inl (gZ g, 3, .inl f_ib))] H := hP
      have hD : va_D A [(h0, .inr (11, fs)), (al, .inl (gI g, 24, .inl f22)), (gu, .inl (gI g, 2, .inl f_gu)), (dw, .inl (gI g, 2, .inl f_dw)), (ib, .inl (gZ g, 3, .inl f_ib))] := hD
      refine lv_iinc (v := (nI (k + 1))) (lv' := [(1, .int (nI (k + 1))), (0, .ref h0)]) hx hb dX11_startAnew_15 hl (k := 0) rfl (nI_1 _) (by decide) rfl (fun ls hl => ?_)
      refine lv_goto (tgt := 2) hx hb dX11_startAnew_18 (by decide) ?_
      exact ih (k + 1) (by omega) H locs ls _ (by rw [ef22]; exact up_inv hinv) hP hD hS (lv_sub hl [0, 1] rfl)
  exact loop2 24 0 rfl H locs ls _ (fun j h => absurd h (Nat.not_lt_zero j)) hP hD hS hl

set_option maxHeartbeats 4000000 in
set_option maxRecDepth 100000 in
theorem c_X11_sign {l : Launch} {g : Gx} {h0 : Nat} {fs : List Value} (hl_fs : fs.length = 69) (h_fs_size : fs[3]? = some (Value.int 0)) : MI l g yX11_sign cX11_sign 2 (some .int) 2 0 0 [.ref h0, .int 0] [(h0, .inr (11, fs))] (fun r W' => 0 = r ∧ W' = [(h0, .inr (11, fs))]) := by
  refine MIof (by decide) (Nat.le_of_ble_eq_true rfl) ?_
  intro p e s m below meth c A ls H locs hcx hA hP hD hS hl
  obtain ⟨hx, hb, hml, hr, hlocks, hown, hts, hE, hnm⟩ := id hcx
  have hown : s.vm.findClass RX11 = some m.cls := hown
  have hK := hE.1
  have hl : lv_has ls 2 [(0, .ref h0), (1, .int 0)] := hl
  refine lv_iload_n hx hb dX11_sign_0 rfl (lv_at hl 1 rfl) ?_
  refine lv_aload_n hx hb dX11_sign_1 rfl (lv_at hl 0 rfl) ?_
  refine va_get (D := g.1) (ci := 11) (v := Value.int 0) (C := RX11) (T := TX11) (N := 69) hx hb hts inlX11 hown hK hP 0 rfl rfl 3 (by decide) (hts _ q25_19) (fun _ h9 => h9) h_fs_size dX11_sign_2 ?_
  refine lv_icmp_ge (tgt := 21) hx hb dX11_sign_5 (by decide) (fun _ => ?_) (fun c1 => absurd (by decide) c1)
  refine lv_iconst (v := 0) hx hb dX11_sign_21 (by decide) ?_
  exact xi hx hb hr hlocks rfl hP hD hS ⟨rfl, rfl⟩ (Nat.le_of_ble_eq_true rfl) (Nat.le_of_ble_eq_true rfl) dX11_sign_22

set_option maxHeartbeats 4000000 in
set_option maxRecDepth 100000 in
theorem c_X11_goOn {l : Launch} {g : Gx} {h0 : Nat} {fs : List Value} (hl_fs : fs.length = 69) (h_fs_end : fs[7]? = some (Value.int 0)) (h_fs_size : fs[3]? = some (Value.int 0)) : MV l g yX11_goOn cX11_goOn 3 3 0 0 [.ref h0] [(h0, .inr (11, fs))] (fun W' => W' = [(h0, .inr (11, (((((fs.set 6 (.int 0)).set 7 (.int 1)).set 8 (.int 0)).set 6 (.int 0)).set 7 (.int 0))))]) := by
  refine MVof (by decide) (Nat.le_of_ble_eq_true rfl) ?_
  intro p e s m below meth c A ls H locs hcx hA hP hD hS hl
  obtain ⟨hx, hb, hml, hr, hlocks, hown, hts, hE, hnm⟩ := id hcx
  have hown : s.vm.findClass RX11 = some m.cls := hown
  have hK := hE.1
  have hl : lv_has ls 3 [(0, .ref h0)] := hl
  refine lv_aload_n hx hb dX11_goOn_0 rfl (lv_at hl 0 rfl) ?_
  refine lv_aload_n hx hb dX11_goOn_1 rfl (lv_at hl 0 rfl) ?_
  refine va_get (D := g.1) (ci := 11) (v := Value.int 0) (C := RX11) (T := TX11) (N := 69) hx hb hts inlX11 hown hK hP 0 rfl rfl 7 (by decide) (hts _ q25_20) (fun _ h9 => h9) h_fs_end dX11_goOn_2 ?_
  refine va_put (D := g.1) (ci := 11) (v := Value.int 0) (ty := .int) (C := RX11) (T := TX11) (N := 69) hx hb hts inlX11 tyX11 tyX11_ok nmX11 hown hK hP hD hS 0 rfl rfl 6 (by decide) (hts _ q26_2) (fun _ h9 => h9) rfl (by decide +kernel) rfl rfl (by simp [hl_fs]) dX11_goOn_5 (fun H locs hP hD hS => ?_)
  have hP : va_P g.1 vwCl [(h0, .inr (11, (fs.set 6 (.int 0))))] H := hP
  have hD : va_D A [(h0, .inr (11, (fs.set 6 (.int 0))))] := hD
  refine lv_aload_n hx hb dX11_goOn_8 rfl (lv_at hl 0 rfl) ?_
  refine va_get (D := g.1) (ci := 11) (v := Value.int 0) (C := RX11) (T := TX11) (N := 69) hx hb hts inlX11 hown hK hP 0 rfl rfl 6 (by decide) (hts _ q26_2) (fun _ h9 => h9) (List.getElem?_set_self (by simp [hl_fs])) dX11_goOn_9 ?_
  refine lv_aload_n hx hb dX11_goOn_12 rfl (lv_at hl 0 rfl) ?_
  refine va_get (D := g.1) (ci := 11) (v := Value.int 0) (C := RX11) (T := TX11) (N := 69) hx hb hts inlX11 hown hK hP 0 rfl rfl 3 (by decide) (hts _ q25_19) (fun _ h9 => h9) (fs_ne h_fs_size (by decide)) dX11_goOn_13 ?_
  refine lv_icmp_ge (tgt := 58) hx hb dX11_goOn_16 (by decide) (fun _ => ?_) (fun c1 => absurd (by decide) c1)
  refine lv_aload_n hx hb dX11_goOn_58 rfl (lv_at hl 0 rfl) ?_
  refine lv_aload_n hx hb dX11_goOn_59 rfl (lv_at hl 0 rfl) ?_
  refine va_get (D := g.1) (ci := 11) (v := Value.int 0) (C := RX11) (T := TX11) (N := 69) hx hb hts inlX11 hown hK hP 0 rfl rfl 6 (by decide) (hts _ q26_2) (fun _ h9 => h9) (List.getElem?_set_self (by simp [hl_fs])) dX11_goOn_60 ?_
  refine kI (wc := [(h0, .inr (11, (fs.set 6 (.int 0))))]) (wr := []) (rV (As := [.int 0]) (rest := []) (meth2 := "") hcx (c_X11_sign ((by simp [hl_fs])) ((fs_ne h_fs_size (by decide))) H.size) (gdV q26_5 q26_6 q26_7 q1_5 q26_8) dvX11_sign ⟨Nat.le_of_ble_eq_true rfl, Nat.le_of_ble_eq_true rfl⟩ (hP.sub [0] rfl) (hD.sub [0] (by decide) rfl) (va_recv hK hP (ci := 11) (q0 := 0) rfl rfl) rfl hl.1 rfl (Nat.le_of_ble_eq_true rfl) dX11_goOn_63 ⟨Nat.le_of_ble_eq_true rfl, Nat.le_of_ble_eq_true rfl⟩) hP hD hS hA [0] [] rfl rfl (by decide) (by decide) (fun r W' H locs hw hP hD hS => ?_)
  obtain ⟨rfl, rfl⟩ := hw
  have hP : va_P g.1 vwCl [(h0, .inr (11, (fs.set 6 (.int 0))))] H := hP
  have hD : va_D A [(h0, .inr (11, (fs.set 6 (.int 0))))] := hD
  refine lv_istore_n (lv' := [(1, .int 0), (0, .ref h0)]) hx hb dX11_goOn_66 rfl hl (by decide) rfl (fun ls hl => ?_)
  refine lv_aload_n hx hb dX11_goOn_67 rfl (lv_at hl 1 rfl) ?_
  refine lv_aload_n hx hb dX11_goOn_68 rfl (lv_at hl 1 rfl) ?_
  refine va_get (D := g.1) (ci := 11) (v := Value.int 0) (C := RX11) (T := TX11) (N := 69) hx hb hts inlX11 hown hK hP 0 rfl rfl 6 (by decide) (hts _ q26_2) (fun _ h9 => h9) (List.getElem?_set_self (by simp [hl_fs])) dX11_goOn_69 ?_
  refine lv_iconst (v := 1) hx hb dX11_goOn_72 (by decide) ?_
  refine lv_iadd hx hb dX11_goOn_73 ?_
  refine lv_tope (y := 1) (by decide) ?_
  refine va_put (D := g.1) (ci := 11) (v := Value.int 1) (ty := .int) (C := RX11) (T := TX11) (N := 69) hx hb hts inlX11 tyX11 tyX11_ok nmX11 hown hK hP hD hS 0 rfl rfl 7 (by decide) (hts _ q25_20) (fun _ h9 => h9) rfl (by decide +kernel) rfl rfl (by simp [hl_fs]) dX11_goOn_74 (fun H locs hP hD hS => ?_)
  have hP : va_P g.1 vwCl [(h0, .inr (11, ((fs.set 6 (.int 0)).set 7 (.int 1))))] H := hP
  have hD : va_D A [(h0, .inr (11, ((fs.set 6 (.int 0)).set 7 (.int 1))))] := hD
  refine lv_aload_n hx hb dX11_goOn_77 rfl (lv_at hl 1 rfl) ?_
  refine va_get (D := g.1) (ci := 11) (v := Value.int 0) (C := RX11) (T := TX11) (N := 69) hx hb hts inlX11 hown hK hP 0 rfl rfl 6 (by decide) (hts _ q26_2) (fun _ h9 => h9) (fs_ne (List.getElem?_set_self (by simp [hl_fs])) (by decide)) dX11_goOn_78 ?_
  refine lv_aload_n hx hb dX11_goOn_81 rfl (lv_at hl 1 rfl) ?_
  refine va_get (D := g.1) (ci := 11) (v := Value.int 0) (C := RX11) (T := TX11) (N := 69) hx hb hts inlX11 hown hK hP 0 rfl rfl 3 (by decide) (hts _ q25_19) (fun _ h9 => h9) (fs_ne (fs_ne h_fs_size (by decide)) (by decide)) dX11_goOn_82 ?_
  refine lv_icmp_lt (tgt := 112) hx hb dX11_goOn_85 (by decide) (fun c2 => absurd c2 (by decide)) (fun _ => ?_)
  refine lv_aload_n hx hb dX11_goOn_88 rfl (lv_at hl 1 rfl) ?_
  refine lv_iconst (v := 0) hx hb dX11_goOn_89 (by decide) ?_
  refine va_put (D := g.1) (ci := 11) (v := Value.int 0) (ty := .int) (C := RX11) (T := TX11) (N := 69) hx hb hts inlX11 tyX11 tyX11_ok nmX11 hown hK hP hD hS 0 rfl rfl 8 (by decide) (hts _ q25_21) (fun _ h9 => h9) rfl (by decide +kernel) rfl rfl (by simp [hl_fs]) dX11_goOn_90 (fun H locs hP hD hS => ?_)
  have hP : va_P g.1 vwCl [(h0, .inr (11, (((fs.set 6 (.int 0)).set 7 (.int 1)).set 8 (.int 0))))] H := hP
  have hD : va_D A [(h0, .inr (11, (((fs.set 6 (.int 0)).set 7 (.int 1)).set 8 (.int 0))))] := hD
  refine lv_aload_n hx hb dX11_goOn_93 rfl (lv_at hl 1 rfl) ?_
  refine lv_aload_n hx hb dX11_goOn_94 rfl (lv_at hl 1 rfl) ?_
  refine va_get (D := g.1) (ci := 11) (v := Value.int 0) (C := RX11) (T := TX11) (N := 69) hx hb hts inlX11 hown hK hP 0 rfl rfl 3 (by decide) (hts _ q25_19) (fun _ h9 => h9) (fs_ne (fs_ne (fs_ne h_fs_size (by decide)) (by decide)) (by decide)) dX11_goOn_95 ?_
  refine va_put (D := g.1) (ci := 11) (v := Value.int 0) (ty := .int) (C := RX11) (T := TX11) (N := 69) hx hb hts inlX11 tyX11 tyX11_ok nmX11 hown hK hP hD hS 0 rfl rfl 6 (by decide) (hts _ q26_2) (fun _ h9 => h9) rfl (by decide +kernel) rfl rfl (by simp [hl_fs]) dX11_goOn_98 (fun H locs hP hD hS => ?_)
  have hP : va_P g.1 vwCl [(h0, .inr (11, ((((fs.set 6 (.int 0)).set 7 (.int 1)).set 8 (.int 0)).set 6 (.int 0))))] H := hP
  have hD : va_D A [(h0, .inr (11, ((((fs.set 6 (.int 0)).set 7 (.int 1)).set 8 (.int 0)).set 6 (.int 0))))] := hD
  refine lv_aload_n hx hb dX11_goOn_101 rfl (lv_at hl 1 rfl) ?_
  refine lv_aload_n hx hb dX11_goOn_102 rfl (lv_at hl 1 rfl) ?_
  refine va_get (D := g.1) (ci := 11) (v := Value.int 0) (C := RX11) (T := TX11) (N := 69) hx hb hts inlX11 hown hK hP 0 rfl rfl 3 (by decide) (hts _ q25_19) (fun _ h9 => h9) (fs_ne (fs_ne (fs_ne (fs_ne h_fs_size (by decide)) (by decide)) (by decide)) (by decide)) dX11_goOn_103 ?_
  refine va_put (D := g.1) (ci := 11) (v := Value.int 0) (ty := .int) (C := RX11) (T := TX11) (N := 69) hx hb hts inlX11 tyX11 tyX11_ok nmX11 hown hK hP hD hS 0 rfl rfl 7 (by decide) (hts _ q25_20) (fun _ h9 => h9) rfl (by decide +kernel) rfl rfl (by simp [hl_fs]) dX11_goOn_106 (fun H locs hP hD hS => ?_)
  have hP : va_P g.1 vwCl [(h0, .inr (11, (((((fs.set 6 (.int 0)).set 7 (.int 1)).set 8 (.int 0)).set 6 (.int 0)).set 7 (.int 0))))] H := hP
  have hD : va_D A [(h0, .inr (11, (((((fs.set 6 (.int 0)).set 7 (.int 1)).set 8 (.int 0)).set 6 (.int 0)).set 7 (.int 0))))] := hD
  refine lv_goto (tgt := 377) hx hb dX11_goOn_109 (by decide) ?_
  exact xv hx hb hr hlocks hP hD hS rfl (Nat.le_of_ble_eq_true rfl) (Nat.le_of_ble_eq_true rfl) dX11_goOn_377

set_option maxHeartbeats 4000000 in
set_option maxRecDepth 100000 in
theorem c_X11_isGood {l : Launch} {g : Gx} {h0 : Nat} {fs : List Value} (hl_fs : fs.length = 69) (h_fs_faultKind : fs[4]? = some (Value.int 0)) : MI l g yX11_isGood cX11_isGood 1 (some .boolean) 2 0 0 [.ref h0] [(h0, .inr (11, fs))] (fun r W' => 1 = r ∧ W' = [(h0, .inr (11, fs))]) := by
  refine MIof (by decide) (Nat.le_of_ble_eq_true rfl) ?_
  intro p e s m below meth c A ls H locs hcx hA hP hD hS hl
  obtain ⟨hx, hb, hml, hr, hlocks, hown, hts, hE, hnm⟩ := id hcx
  have hown : s.vm.findClass RX11 = some m.cls := hown
  have hK := hE.1
  have hl : lv_has ls 1 [(0, .ref h0)] := hl
  refine lv_aload_n hx hb dX11_isGood_0 rfl (lv_at hl 0 rfl) ?_
  refine va_get (D := g.1) (ci := 11) (v := Value.int 0) (C := RX11) (T := TX11) (N := 69) hx hb hts inlX11 hown hK hP 0 rfl rfl 4 (by decide) (hts _ q25_18) (fun _ h9 => h9) h_fs_faultKind dX11_isGood_1 ?_
  refine lv_if_ne (tgt := 11) hx hb dX11_isGood_4 (by decide) (fun c1 => absurd (by decide) c1) (fun _ => ?_)
  refine lv_iconst (v := 1) hx hb dX11_isGood_7 (by decide) ?_
  refine lv_goto (tgt := 12) hx hb dX11_isGood_8 (by decide) ?_
  exact xi hx hb hr hlocks rfl hP hD hS ⟨rfl, rfl⟩ (Nat.le_of_ble_eq_true rfl) (Nat.le_of_ble_eq_true rfl) dX11_isGood_12

set_option maxHeartbeats 4000000 in
set_option maxRecDepth 100000 in
theorem c_X11_keepNow {l : Launch} {g : Gx} {h0 al ke : Nat} {fs : List Value} {f_al : Nat → Int32} {f_ke : Nat → Int32} (hl_fs : fs.length = 69) (h_fs_all : fs[46]? = some (Value.ref al)) (h_fs_kept : fs[51]? = some (Value.ref ke)) : MV l g yX11_keepNow cX11_keepNow 2 2 0 0 [.ref h0] [(h0, .inr (11, fs)), (al, .inl (gI g, 24, .inl f_al)), (ke, .inl (gI g, 24, .inl f_ke))] (fun W' => ∃ (z0 : Nat → Int32), W' = [(h0, .inr (11, fs)), (al, .inl (gI g, 24, .inl f_al)), (ke, .inl (gI g, 24, .inl z0))]) := by
  refine MVof (by decide) (Nat.le_of_ble_eq_true rfl) ?_
  intro p e s m below meth c A ls H locs hcx hA hP hD hS hl
  obtain ⟨hx, hb, hml, hr, hlocks, hown, hts, hE, hnm⟩ := id hcx
  have hown : s.vm.findClass RX11 = some m.cls := hown
  have hK := hE.1
  have hl : lv_has ls 2 [(0, .ref h0)] := hl
  refine lv_iconst (v := 0) hx hb dX11_keepNow_0 (by decide) ?_
  refine lv_istore_n (lv' := [(1, .int 0), (0, .ref h0)]) hx hb dX11_keepNow_1 rfl hl (by decide) rfl (fun ls hl => ?_)
  have loop2 : ∀ (n k : Nat), k + n = 24 → ∀ (H : Heap) (locs : List Loc) (ls : Array Slot) (f1 : Nat → Int32), va_P g.1 vwCl [(h0, .inr (11, fs)), (al, .inl (gI g, 24, .inl f_al)), (ke, .inl (gI g, 24, .inl f1))] H → va_D A [(h0, .inr (11, fs)), (al, .inl (gI g, 24, .inl f_al)), (ke, .inl (gI g, 24, .inl f1))] → va_S A s.heap H locs → lv_has ls 2 [(1, .int (nI k)), (0, .ref h0)] → W p l e (rmD 2 0 0) s m ([Value.ref h0] : List Value).toArray below meth c H locs 0 0 (MQ below (QV g A (fun W' => ∃ (z0 : Nat → Int32), W' = [(h0, .inr (11, fs)), (al, .inl (gI g, 24, .inl f_al)), (ke, .inl (gI g, 24, .inl z0))])) ([Value.ref h0] : List Value).toArray s 0 0 A) (F0 m 2 ls []) := by
    intro n
    induction n with
    | zero =>
      intro k hk H locs ls f1 hP hD hS hl
      obtain rfl : k = 24 := by omega
      refine lv_iload_n hx hb dX11_keepNow_2 rfl (lv_at hl 0 rfl) ?_
      refine lv_bipush (v := 24) hx hb dX11_keepNow_3 (by decide) ?_
      refine lv_icmp_ge (tgt := 26) hx hb dX11_keepNow_5 (by decide) (fun _ => ?_) (fun c3 => absurd (by decide) c3)
      exact xv hx hb hr hlocks hP hD hS ⟨f1, rfl⟩ (Nat.le_of_ble_eq_true rfl) (Nat.le_of_ble_eq_true rfl) dX11_keepNow_26
    | succ n ih =>
      intro k hk H locs ls f1 hP hD hS hl
      have hkN : k < 24 := by omega
      refine lv_iload_n hx hb dX11_keepNow_2 rfl (lv_at hl 0 rfl) ?_
      refine lv_bipush (v := 24) hx hb dX11_keepNow_3 (by decide) ?_
      refine lv_icmp_ge (tgt := 26) hx hb dX11_keepNow_5 (by decide) (fun c4 => absurd c4 (nI_ge (b := 24) hkN (by decide))) (fun _ => ?_)
      refine lv_aload_n hx hb dX11_keepNow_8 rfl (lv_at hl 1 rfl) ?_
      refine va_get (D := g.1) (ci := 11) (v := Value.ref ke) (C := RX11) (T := TX11) (N := 69) hx hb hts inlX11 hown hK hP 0 rfl rfl 51 (by decide) (hts _ q13_20) (fun _ h9 => h9) h_fs_kept dX11_keepNow_9 ?_
      refine lv_iload_n hx hb dX11_keepNow_12 rfl (lv_at hl 0 rfl) ?_
      refine lv_aload_n hx hb dX11_keepNow_13 rfl (lv_at hl 1 rfl) ?_
      refine va_get (D := g.1) (ci := 11) (v := Value.ref al) (C := RX11) (T := TX11) (N := 69) hx hb hts inlX11 hown hK hP 0 rfl rfl 46 (by decide) (hts _ q13_17) (fun _ h9 => h9) h_fs_all dX11_keepNow_14 ?_
      refine lv_iload_n hx hb dX11_keepNow_17 rfl (lv_at hl 0 rfl) ?_
      refine ia_ld hx hb hK hP 1 1 rfl rfl (k) rfl (by omega) (by decide) dX11_keepNow_18 ?_
      refine lv_topi (fun x5 ex5 => ?_)
      refine ia_st hx hb hK hP hD hS 2 1 rfl rfl (k) rfl (by omega) (by decide) dX11_keepNow_19 (fun f6 H locs ef6 hP hD hS => ?_)
      have hP : va_P g.1 vwCl [(h0, .inr (11, fs)), (al, .inl (gI g, 24, .inl f_al)), (ke, .inl (gI g, 24, .inl f6))] H := hP
      have hD : va_D A [(h0, .inr (11, fs)), (al, .inl (gI g, 24, .inl f_al)), (ke, .inl (gI g, 24, .inl f6))] := hD
      refine lv_iinc (v := (nI (k + 1))) (lv' := [(1, .int (nI (k + 1))), (0, .ref h0)]) hx hb dX11_keepNow_20 hl (k := 0) rfl (nI_1 _) (by decide) rfl (fun ls hl => ?_)
      refine lv_goto (tgt := 2) hx hb dX11_keepNow_23 (by decide) ?_
      exact ih (k + 1) (by omega) H locs ls _ hP hD hS (lv_sub hl [0, 1] rfl)
  exact loop2 24 0 rfl H locs ls _ hP hD hS hl

set_option maxHeartbeats 4000000 in
set_option maxRecDepth 100000 in
theorem c_X11_bringBack {l : Launch} {g : Gx} {h0 al ke : Nat} {fs : List Value} {f_al : Nat → Int32} {f_ke : Nat → Int32} (hl_fs : fs.length = 69) (h_fs_all : fs[46]? = some (Value.ref al)) (h_fs_kept : fs[51]? = some (Value.ref ke)) : MV l g yX11_bringBack cX11_bringBack 2 2 0 0 [.ref h0] [(h0, .inr (11, fs)), (al, .inl (gI g, 24, .inl f_al)), (ke, .inl (gI g, 24, .inl f_ke))] (fun W' => ∃ (z0 : Nat → Int32), W' = [(h0, .inr (11, fs)), (al, .inl (gI g, 24, .inl z0)), (ke, .inl (gI g, 24, .inl f_ke))]) := by
  refine MVof (by decide) (Nat.le_of_ble_eq_true rfl) ?_
  intro p e s m below meth c A ls H locs hcx hA hP hD hS hl
  obtain ⟨hx, hb, hml, hr, hlocks, hown, hts, hE, hnm⟩ := id hcx
  have hown : s.vm.findClass RX11 = some m.cls := hown
  have hK := hE.1
  have hl : lv_has ls 2 [(0, .ref h0)] := hl
  refine lv_iconst (v := 0) hx hb dX11_bringBack_0 (by decide) ?_
  refine lv_istore_n (lv' := [(1, .int 0), (0, .ref h0)]) hx hb dX11_bringBack_1 rfl hl (by decide) rfl (fun ls hl => ?_)
  have loop2 : ∀ (n k : Nat), k + n = 24 → ∀ (H : Heap) (locs : List Loc) (ls : Array Slot) (f1 : Nat → Int32), va_P g.1 vwCl [(h0, .inr (11, fs)), (al, .inl (gI g, 24, .inl f1)), (ke, .inl (gI g, 24, .inl f_ke))] H → va_D A [(h0, .inr (11, fs)), (al, .inl (gI g, 24, .inl f1)), (ke, .inl (gI g, 24, .inl f_ke))] → va_S A s.heap H locs → lv_has ls 2 [(1, .int (nI k)), (0, .ref h0)] → W p l e (rmD 2 0 0) s m ([Value.ref h0] : List Value).toArray below meth c H locs 0 0 (MQ below (QV g A (fun W' => ∃ (z0 : Nat → Int32), W' = [(h0, .inr (11, fs)), (al, .inl (gI g, 24, .inl z0)), (ke, .inl (gI g, 24, .inl f_ke))])) ([Value.ref h0] : List Value).toArray s 0 0 A) (F0 m 2 ls []) := by
    intro n
    induction n with
    | zero =>
      intro k hk H locs ls f1 hP hD hS hl
      obtain rfl : k = 24 := by omega
      refine lv_iload_n hx hb dX11_bringBack_2 rfl (lv_at hl 0 rfl) ?_
      refine lv_bipush (v := 24) hx hb dX11_bringBack_3 (by decide) ?_
      refine lv_icmp_ge (tgt := 26) hx hb dX11_bringBack_5 (by decide) (fun _ => ?_) (fun c3 => absurd (by decide) c3)
      exact xv hx hb hr hlocks hP hD hS ⟨f1, rfl⟩ (Nat.le_of_ble_eq_true rfl) (Nat.le_of_ble_eq_true rfl) dX11_bringBack_26
    | succ n ih =>
      intro k hk H locs ls f1 hP hD hS hl
      have hkN : k < 24 := by omega
      refine lv_iload_n hx hb dX11_bringBack_2 rfl (lv_at hl 0 rfl) ?_
      refine lv_bipush (v := 24) hx hb dX11_bringBack_3 (by decide) ?_
      refine lv_icmp_ge (tgt := 26) hx hb dX11_bringBack_5 (by decide) (fun c4 => absurd c4 (nI_ge (b := 24) hkN (by decide))) (fun _ => ?_)
      refine lv_aload_n hx hb dX11_bringBack_8 rfl (lv_at hl 1 rfl) ?_
      refine va_get (D := g.1) (ci := 11) (v := Value.ref al) (C := RX11) (T := TX11) (N := 69) hx hb hts inlX11 hown hK hP 0 rfl rfl 46 (by decide) (hts _ q13_17) (fun _ h9 => h9) h_fs_all dX11_bringBack_9 ?_
      refine lv_iload_n hx hb dX11_bringBack_12 rfl (lv_at hl 0 rfl) ?_
      refine lv_aload_n hx hb dX11_bringBack_13 rfl (lv_at hl 1 rfl) ?_
      refine va_get (D := g.1) (ci := 11) (v := Value.ref ke) (C := RX11) (T := TX11) (N := 69) hx hb hts inlX11 hown hK hP 0 rfl rfl 51 (by decide) (hts _ q13_20) (fun _ h9 => h9) h_fs_kept dX11_bringBack_14 ?_
      refine lv_iload_n hx hb dX11_bringBack_17 rfl (lv_at hl 0 rfl) ?_
      refine ia_ld hx hb hK hP 2 1 rfl rfl (k) rfl (by omega) (by decide) dX11_bringBack_18 ?_
      refine lv_topi (fun x5 ex5 => ?_)
      refine ia_st hx hb hK hP hD hS 1 1 rfl rfl (k) rfl (by omega) (by decide) dX11_bringBack_19 (fun f6 H locs ef6 hP hD hS => ?_)
      have hP : va_P g.1 vwCl [(h0, .inr (11, fs)), (al, .inl (gI g, 24, .inl f6)), (ke, .inl (gI g, 24, .inl f_ke))] H := hP
      have hD : va_D A [(h0, .inr (11, fs)), (al, .inl (gI g, 24, .inl f6)), (ke, .inl (gI g, 24, .inl f_ke))] := hD
      refine lv_iinc (v := (nI (k + 1))) (lv' := [(1, .int (nI (k + 1))), (0, .ref h0)]) hx hb dX11_bringBack_20 hl (k := 0) rfl (nI_1 _) (by decide) rfl (fun ls hl => ?_)
      refine lv_goto (tgt := 2) hx hb dX11_bringBack_23 (by decide) ?_
      exact ih (k + 1) (by omega) H locs ls _ hP hD hS (lv_sub hl [0, 1] rfl)
  exact loop2 24 0 rfl H locs ls _ hP hD hS hl

set_option maxHeartbeats 4000000 in
set_option maxRecDepth 100000 in
theorem c_X11_upAtLast {l : Launch} {g : Gx} {h0 al ke fe co : Nat} {fs : List Value} {f_al : Nat → Int32} {f_ke : Nat → Int32} {f_fe : Nat → Int32} {f_co : Nat → Int32} (hl_fs : fs.length = 69) (h_fs_all : fs[46]? = some (Value.ref al)) (h_fs_kept : fs[51]? = some (Value.ref ke)) (h_fs_fell : fs[53]? = some (Value.ref fe)) (h_fs_corners : fs[11]? = some (Value.ref co)) (h_fs_bank : fs[34]? = some (Value.int 0)) (h_f_al_20 : f_al 20 = 0) (h_f_al_21 : f_al 21 = 0) (h_f_co_0 : f_co 0 = 0) : MI l g yX11_upAtLast cX11_upAtLast 4 (some .int) 3 0 0 [.ref h0, .int 0, .int 0] [(h0, .inr (11, fs)), (al, .inl (gI g, 24, .inl f_al)), (ke, .inl (gI g, 24, .inl f_ke)), (fe, .inl (gI g, 8, .inl f_fe)), (co, .inl (gI g, 2, .inl f_co))] (fun r W' => 0 = r ∧ ∃ (z0 : Nat → Int32) (z1 : Nat → Int32), W' = [(h0, .inr (11, fs)), (al, .inl (gI g, 24, .inl z0)), (ke, .inl (gI g, 24, .inl f_ke)), (fe, .inl (gI g, 8, .inl z1)), (co, .inl (gI g, 2, .inl f_co))]) := by
  refine MIof (by decide) (Nat.le_of_ble_eq_true rfl) ?_
  intro p e s m below meth c A ls H locs hcx hA hP hD hS hl
  obtain ⟨hx, hb, hml, hr, hlocks, hown, hts, hE, hnm⟩ := id hcx
  have hown : s.vm.findClass RX11 = some m.cls := hown
  have hK := hE.1
  have hl : lv_has ls 4 [(0, .ref h0), (1, .int 0), (2, .int 0)] := hl
  refine lv_iconst (v := 0) hx hb dX11_upAtLast_0 (by decide) ?_
  refine lv_istore_n (lv' := [(3, .int 0), (0, .ref h0), (1, .int 0), (2, .int 0)]) hx hb dX11_upAtLast_1 rfl hl (by decide) rfl (fun ls hl => ?_)
  have loop2 : ∀ (n k : Nat), k + n = 8 → ∀ (H : Heap) (locs : List Loc) (ls : Array Slot) (f1 : Nat → Int32), va_P g.1 vwCl [(h0, .inr (11, fs)), (al, .inl (gI g, 24, .inl f_al)), (ke, .inl (gI g, 24, .inl f_ke)), (fe, .inl (gI g, 8, .inl f1)), (co, .inl (gI g, 2, .inl f_co))] H → va_D A [(h0, .inr (11, fs)), (al, .inl (gI g, 24, .inl f_al)), (ke, .inl (gI g, 24, .inl f_ke)), (fe, .inl (gI g, 8, .inl f1)), (co, .inl (gI g, 2, .inl f_co))] → va_S A s.heap H locs → lv_has ls 4 [(3, .int (nI k)), (0, .ref h0), (1, .int 0), (2, .int 0)] → W p l e (rmD 3 0 0) s m ([Value.ref h0, Value.int 0, Value.int 0] : List Value).toArray below meth c H locs 0 0 (MQ below (QI g A (fun r W' => 0 = r ∧ ∃ (z0 : Nat → Int32) (z1 : Nat → Int32), W' = [(h0, .inr (11, fs)), (al, .inl (gI g, 24, .inl z0)), (ke, .inl (gI g, 24, .inl f_ke)), (fe, .inl (gI g, 8, .inl z1)), (co, .inl (gI g, 2, .inl f_co))])) ([Value.ref h0, Value.int 0, Value.int 0] : List Value).toArray s 0 0 A) (F0 m 2 ls []) := by
    intro n
    induction n with
    | zero =>
      intro k hk H locs ls f1 hP hD hS hl
      obtain rfl : k = 8 := by omega
      refine lv_iload_n hx hb dX11_upAtLast_2 rfl (lv_at hl 0 rfl) ?_
      refine lv_bipush (v := 8) hx hb dX11_upAtLast_3 (by decide) ?_
      refine lv_icmp_ge (tgt := 21) hx hb dX11_upAtLast_5 (by decide) (fun _ => ?_) (fun c3 => absurd (by decide) c3)
      refine lv_aload_n hx hb dX11_upAtLast_21 rfl (lv_at hl 1 rfl) ?_
      refine va_get (D := g.1) (ci := 11) (v := Value.ref al) (C := RX11) (T := TX11) (N := 69) hx hb hts inlX11 hown hK hP 0 rfl rfl 46 (by decide) (hts _ q13_17) (fun _ h9 => h9) h_fs_all dX11_upAtLast_22 ?_
      refine lv_bipush (v := 21) hx hb dX11_upAtLast_25 (by decide) ?_
      refine ia_ld hx hb hK hP 1 1 rfl rfl (21) rfl (by decide) (by decide) dX11_upAtLast_27 ?_
      refine lv_tope (y := 0) h_f_al_21 ?_
      refine lv_aload_n hx hb dX11_upAtLast_28 rfl (lv_at hl 1 rfl) ?_
      refine kI (wc := [(h0, .inr (11, fs)), (co, .inl (gI g, 2, .inl f_co))]) (wr := [(al, .inl (gI g, 24, .inl f_al)), (ke, .inl (gI g, 24, .inl f_ke)), (fe, .inl (gI g, 8, .inl f1))]) (rV (As := []) (rest := [.int 0]) (meth2 := "") hcx (c_X11_ways (hl_fs) (h_fs_corners) (h_fs_bank) (h_f_co_0) H.size) (gdV q36_17 q36_18 q36_19 q1_5 q36_20) dvX11_ways ⟨Nat.le_of_ble_eq_true rfl, Nat.le_of_ble_eq_true rfl⟩ (hP.sub [0, 4] rfl) (hD.sub [0, 4] (by decide) rfl) (va_recv hK hP (ci := 11) (q0 := 0) rfl rfl) rfl hl.1 rfl (Nat.le_of_ble_eq_true rfl) dX11_upAtLast_29 ⟨Nat.le_of_ble_eq_true rfl, Nat.le_of_ble_eq_true rfl⟩) hP hD hS hA [0, 4] [1, 2, 3] rfl rfl (by decide) (by decide) (fun r W' H locs hw hP hD hS => ?_)
      obtain ⟨rfl, rfl⟩ := hw
      have hP : va_P g.1 vwCl [(al, .inl (gI g, 24, .inl f_al)), (ke, .inl (gI g, 24, .inl f_ke)), (fe, .inl (gI g, 8, .inl f1)), (h0, .inr (11, fs)), (co, .inl (gI g, 2, .inl f_co))] H := hP
      have hD : va_D A [(al, .inl (gI g, 24, .inl f_al)), (ke, .inl (gI g, 24, .inl f_ke)), (fe, .inl (gI g, 8, .inl f1)), (h0, .inr (11, fs)), (co, .inl (gI g, 2, .inl f_co))] := hD
      refine lv_icmp_ge (tgt := 84) hx hb dX11_upAtLast_32 (by decide) (fun _ => ?_) (fun c4 => absurd (by decide) c4)
      refine lv_aload_n hx hb dX11_upAtLast_84 rfl (lv_at hl 1 rfl) ?_
      refine va_get (D := g.1) (ci := 11) (v := Value.ref al) (C := RX11) (T := TX11) (N := 69) hx hb hts inlX11 hown hK hP 3 rfl rfl 46 (by decide) (hts _ q13_17) (fun _ h9 => h9) h_fs_all dX11_upAtLast_85 ?_
      refine lv_bipush (v := 20) hx hb dX11_upAtLast_88 (by decide) ?_
      refine ia_ld hx hb hK hP 0 1 rfl rfl (20) rfl (by decide) (by decide) dX11_upAtLast_90 ?_
      refine lv_tope (y := 0) h_f_al_20 ?_
      refine lv_istore_n (lv' := [(3, .int 0), (0, .ref h0), (1, .int 0), (2, .int 0)]) hx hb dX11_upAtLast_91 rfl hl (by decide) rfl (fun ls hl => ?_)
      refine lv_aload_n hx hb dX11_upAtLast_92 rfl (lv_at hl 1 rfl) ?_
      refine kV (wc := [(h0, .inr (11, fs)), (al, .inl (gI g, 24, .inl f_al)), (ke, .inl (gI g, 24, .inl f_ke))]) (wr := [(fe, .inl (gI g, 8, .inl f1)), (co, .inl (gI g, 2, .inl f_co))]) (rV (As := []) (rest := []) (meth2 := "") hcx (c_X11_bringBack (hl_fs) (h_fs_all) (h_fs_kept) H.size) (gdV q47_13 q47_14 q47_15 q1_5 q47_16) dvX11_bringBack ⟨Nat.le_of_ble_eq_true rfl, Nat.le_of_ble_eq_true rfl⟩ (hP.sub [3, 0, 1] rfl) (hD.sub [3, 0, 1] (by decide) rfl) (va_recv hK hP (ci := 11) (q0 := 3) rfl rfl) rfl hl.1 rfl (Nat.le_of_ble_eq_true rfl) dX11_upAtLast_93 ⟨Nat.le_of_ble_eq_true rfl, Nat.le_of_ble_eq_true rfl⟩) hP hD hS hA [3, 0, 1] [2, 4] rfl rfl (by decide) (by decide) (fun W' H locs hw hP hD hS => ?_)
      obtain ⟨f5, rfl⟩ := hw
      have hP : va_P g.1 vwCl [(fe, .inl (gI g, 8, .inl f1)), (co, .inl (gI g, 2, .inl f_co)), (h0, .inr (11, fs)), (al, .inl (gI g, 24, .inl f5)), (ke, .inl (gI g, 24, .inl f_ke))] H := hP
      have hD : va_D A [(fe, .inl (gI g, 8, .inl f1)), (co, .inl (gI g, 2, .inl f_co)), (h0, .inr (11, fs)), (al, .inl (gI g, 24, .inl f5)), (ke, .inl (gI g, 24, .inl f_ke))] := hD
      refine lv_iload_n hx hb dX11_upAtLast_96 rfl (lv_at hl 0 rfl) ?_
      have hP9 : va_P g.1 vwCl [(h0, .inr (11, fs)), (al, .inl (gI g, 24, .inl f5)), (ke, .inl (gI g, 24, .inl f_ke)), (fe, .inl (gI g, 8, .inl f1)), (co, .inl (gI g, 2, .inl f_co))] H := hP.sub [2, 3, 4, 0, 1] rfl
      have hD9 : va_D A [(h0, .inr (11, fs)), (al, .inl (gI g, 24, .inl f5)), (ke, .inl (gI g, 24, .inl f_ke)), (fe, .inl (gI g, 8, .inl f1)), (co, .inl (gI g, 2, .inl f_co))] := hD.sub [2, 3, 4, 0, 1] (by decide) rfl
      exact xi hx hb hr hlocks rfl hP9 hD9 hS ⟨rfl, f5, f1, rfl⟩ (Nat.le_of_ble_eq_true rfl) (Nat.le_of_ble_eq_true rfl) dX11_upAtLast_97
    | succ n ih =>
      intro k hk H locs ls f1 hP hD hS hl
      have hkN : k < 8 := by omega
      refine lv_iload_n hx hb dX11_upAtLast_2 rfl (lv_at hl 0 rfl) ?_
      refine lv_bipush (v := 8) hx hb dX11_upAtLast_3 (by decide) ?_
      refine lv_icmp_ge (tgt := 21) hx hb dX11_upAtLast_5 (by decide) (fun c6 => absurd c6 (nI_ge (b := 8) hkN (by decide))) (fun _ => ?_)
      refine lv_aload_n hx hb dX11_upAtLast_8 rfl (lv_at hl 1 rfl) ?_
      refine va_get (D := g.1) (ci := 11) (v := Value.ref fe) (C := RX11) (T := TX11) (N := 69) hx hb hts inlX11 hown hK hP 0 rfl rfl 53 (by decide) (hts _ q13_22) (fun _ h9 => h9) h_fs_fell dX11_upAtLast_9 ?_
      refine lv_iload_n hx hb dX11_upAtLast_12 rfl (lv_at hl 0 rfl) ?_
      refine lv_iconst (v := 0) hx hb dX11_upAtLast_13 (by decide) ?_
      refine ia_st hx hb hK hP hD hS 3 1 rfl rfl (k) rfl (by omega) (by decide) dX11_upAtLast_14 (fun f7 H locs ef7 hP hD hS => ?_)
      have hP : va_P g.1 vwCl [(h0, .inr (11, fs)), (al, .inl (gI g, 24, .inl f_al)), (ke, .inl (gI g, 24, .inl f_ke)), (fe, .inl (gI g, 8, .inl f7)), (co, .inl (gI g, 2, .inl f_co))] H := hP
      have hD : va_D A [(h0, .inr (11, fs)), (al, .inl (gI g, 24, .inl f_al)), (ke, .inl (gI g, 24, .inl f_ke)), (fe, .inl (gI g, 8, .inl f7)), (co, .inl (gI g, 2, .inl f_co))] := hD
      refine lv_iinc (v := (nI (k + 1))) (lv' := [(3, .int (nI (k + 1))), (0, .ref h0), (1, .int 0), (2, .int 0)]) hx hb dX11_upAtLast_15 hl (k := 0) rfl (nI_1 _) (by decide) rfl (fun ls hl => ?_)
      refine lv_goto (tgt := 2) hx hb dX11_upAtLast_18 (by decide) ?_
      exact ih (k + 1) (by omega) H locs ls _ hP hD hS (lv_sub hl [0, 1, 2, 3] rfl)
  exact loop2 8 0 rfl H locs ls _ hP hD hS hl

set_option maxHeartbeats 4000000 in
set_option maxRecDepth 100000 in
theorem c_X11_roundNow {l : Launch} {g : Gx} {h0 al ke fe co : Nat} {fs : List Value} {f_al : Nat → Int32} {f_ke : Nat → Int32} {f_fe : Nat → Int32} {f_co : Nat → Int32} (hl_fs : fs.length = 69) (h_fs_all : fs[46]? = some (Value.ref al)) (h_fs_kept : fs[51]? = some (Value.ref ke)) (h_fs_fell : fs[53]? = some (Value.ref fe)) (h_fs_corners : fs[11]? = some (Value.ref co)) (h_fs_bank : fs[34]? = some (Value.int 0)) (h_f_al_20 : f_al 20 = 0) (h_f_al_21 : f_al 21 = 0) (h_f_co_0 : f_co 0 = 0) : MI l g yX11_roundNow cX11_roundNow 1 (some .int) 4 0 0 [.ref h0] [(h0, .inr (11, fs)), (al, .inl (gI g, 24, .inl f_al)), (ke, .inl (gI g, 24, .inl f_ke)), (fe, .inl (gI g, 8, .inl f_fe)), (co, .inl (gI g, 2, .inl f_co))] (fun r W' => 0 = r ∧ ∃ (z0 : Nat → Int32) (z1 : Nat → Int32) (z2 : Nat → Int32), W' = [(h0, .inr (11, fs)), (al, .inl (gI g, 24, .inl z0)), (ke, .inl (gI g, 24, .inl z1)), (fe, .inl (gI g, 8, .inl z2)), (co, .inl (gI g, 2, .inl f_co))]) := by
  refine MIof (by decide) (Nat.le_of_ble_eq_true rfl) ?_
  intro p e s m below meth c A ls H locs hcx hA hP hD hS hl
  obtain ⟨hx, hb, hml, hr, hlocks, hown, hts, hE, hnm⟩ := id hcx
  have hown : s.vm.findClass RX11 = some m.cls := hown
  have hK := hE.1
  have hl : lv_has ls 1 [(0, .ref h0)] := hl
  refine lv_aload_n hx hb dX11_roundNow_0 rfl (lv_at hl 0 rfl) ?_
  refine kV (wc := [(h0, .inr (11, fs)), (al, .inl (gI g, 24, .inl f_al)), (ke, .inl (gI g, 24, .inl f_ke))]) (wr := [(fe, .inl (gI g, 8, .inl f_fe)), (co, .inl (gI g, 2, .inl f_co))]) (rV (As := []) (rest := []) (meth2 := "") hcx (c_X11_keepNow (hl_fs) (h_fs_all) (h_fs_kept) H.size) (gdV q47_9 q47_10 q47_11 q1_5 q47_12) dvX11_keepNow ⟨Nat.le_of_ble_eq_true rfl, Nat.le_of_ble_eq_true rfl⟩ (hP.sub [0, 1, 2] rfl) (hD.sub [0, 1, 2] (by decide) rfl) (va_recv hK hP (ci := 11) (q0 := 0) rfl rfl) rfl hl.1 rfl (Nat.le_of_ble_eq_true rfl) dX11_roundNow_1 ⟨Nat.le_of_ble_eq_true rfl, Nat.le_of_ble_eq_true rfl⟩) hP hD hS hA [0, 1, 2] [3, 4] rfl rfl (by decide) (by decide) (fun W' H locs hw hP hD hS => ?_)
  obtain ⟨f1, rfl⟩ := hw
  have hP : va_P g.1 vwCl [(fe, .inl (gI g, 8, .inl f_fe)), (co, .inl (gI g, 2, .inl f_co)), (h0, .inr (11, fs)), (al, .inl (gI g, 24, .inl f_al)), (ke, .inl (gI g, 24, .inl f1))] H := hP
  have hD : va_D A [(fe, .inl (gI g, 8, .inl f_fe)), (co, .inl (gI g, 2, .inl f_co)), (h0, .inr (11, fs)), (al, .inl (gI g, 24, .inl f_al)), (ke, .inl (gI g, 24, .inl f1))] := hD
  refine lv_aload_n hx hb dX11_roundNow_4 rfl (lv_at hl 0 rfl) ?_
  refine lv_iconst (v := 0) hx hb dX11_roundNow_5 (by decide) ?_
  refine lv_iconst (v := 0) hx hb dX11_roundNow_6 (by decide) ?_
  refine kI (wc := [(h0, .inr (11, fs)), (al, .inl (gI g, 24, .inl f_al)), (ke, .inl (gI g, 24, .inl f1)), (fe, .inl (gI g, 8, .inl f_fe)), (co, .inl (gI g, 2, .inl f_co))]) (wr := []) (rV (As := [.int 0, .int 0]) (rest := []) (meth2 := "") hcx (c_X11_upAtLast (hl_fs) (h_fs_all) (h_fs_kept) (h_fs_fell) (h_fs_corners) (h_fs_bank) (h_f_al_20) (h_f_al_21) (h_f_co_0) H.size) (gdV q48_12 q48_13 q48_14 q1_5 q48_15) dvX11_upAtLast ⟨Nat.le_of_ble_eq_true rfl, Nat.le_of_ble_eq_true rfl⟩ (hP.sub [2, 3, 4, 0, 1] rfl) (hD.sub [2, 3, 4, 0, 1] (by decide) rfl) (va_recv hK hP (ci := 11) (q0 := 2) rfl rfl) rfl hl.1 rfl (Nat.le_of_ble_eq_true rfl) dX11_roundNow_7 ⟨Nat.le_of_ble_eq_true rfl, Nat.le_of_ble_eq_true rfl⟩) hP hD hS hA [2, 3, 4, 0, 1] [] rfl rfl (by decide) (by decide) (fun r W' H locs hw hP hD hS => ?_)
  obtain ⟨rfl, f2, f3, rfl⟩ := hw
  have hP : va_P g.1 vwCl [(h0, .inr (11, fs)), (al, .inl (gI g, 24, .inl f2)), (ke, .inl (gI g, 24, .inl f1)), (fe, .inl (gI g, 8, .inl f3)), (co, .inl (gI g, 2, .inl f_co))] H := hP
  have hD : va_D A [(h0, .inr (11, fs)), (al, .inl (gI g, 24, .inl f2)), (ke, .inl (gI g, 24, .inl f1)), (fe, .inl (gI g, 8, .inl f3)), (co, .inl (gI g, 2, .inl f_co))] := hD
  exact xi hx hb hr hlocks rfl hP hD hS ⟨rfl, f2, f1, f3, rfl⟩ (Nat.le_of_ble_eq_true rfl) (Nat.le_of_ble_eq_true rfl) dX11_roundNow_10

set_option maxHeartbeats 4000000 in
set_option maxRecDepth 100000 in
theorem c_X11_keepAct {l : Launch} {g : Gx} {h0 al wa : Nat} {fs : List Value} {f_al : Nat → Int32} {f_wa : Nat → Int32} (hl_fs : fs.length = 69) (h_fs_all : fs[46]? = some (Value.ref al)) (h_fs_was : fs[48]? = some (Value.ref wa)) (h_fs_acts : fs[49]? = some (Value.int 0)) : MV l g yX11_keepAct cX11_keepAct 2 2 0 0 [.ref h0] [(h0, .inr (11, fs)), (al, .inl (gI g, 24, .inl f_al)), (wa, .inl (gI g, 984, .inl f_wa))] (fun W' => ∃ (z0 : Nat → Int32), W' = [(h0, .inr (11, ((fs.set 49 (.int 1)).set 50 (.int 0)))), (al, .inl (gI g, 24, .inl f_al)), (wa, .inl (gI g, 984, .inl z0))]) := by
  refine MVof (by decide) (Nat.le_of_ble_eq_true rfl) ?_
  intro p e s m below meth c A ls H locs hcx hA hP hD hS hl
  obtain ⟨hx, hb, hml, hr, hlocks, hown, hts, hE, hnm⟩ := id hcx
  have hown : s.vm.findClass RX11 = some m.cls := hown
  have hK := hE.1
  have hl : lv_has ls 2 [(0, .ref h0)] := hl
  refine lv_aload_n hx hb dX11_keepAct_0 rfl (lv_at hl 0 rfl) ?_
  refine va_get (D := g.1) (ci := 11) (v := Value.int 0) (C := RX11) (T := TX11) (N := 69) hx hb hts inlX11 hown hK hP 0 rfl rfl 49 (by decide) (hts _ q14_22) (fun _ h9 => h9) h_fs_acts dX11_keepAct_1 ?_
  refine lv_bipush (v := 40) hx hb dX11_keepAct_4 (by decide) ?_
  refine lv_icmp_ne (tgt := 49) hx hb dX11_keepAct_6 (by decide) (fun _ => ?_) (fun c1 => absurd c1 (by decide))
  refine lv_iconst (v := 0) hx hb dX11_keepAct_49 (by decide) ?_
  refine lv_istore_n (lv' := [(1, .int 0), (0, .ref h0)]) hx hb dX11_keepAct_50 rfl hl (by decide) rfl (fun ls hl => ?_)
  have loop3 : ∀ (n k : Nat), k + n = 24 → ∀ (H : Heap) (locs : List Loc) (ls : Array Slot) (f2 : Nat → Int32), va_P g.1 vwCl [(h0, .inr (11, fs)), (al, .inl (gI g, 24, .inl f_al)), (wa, .inl (gI g, 984, .inl f2))] H → va_D A [(h0, .inr (11, fs)), (al, .inl (gI g, 24, .inl f_al)), (wa, .inl (gI g, 984, .inl f2))] → va_S A s.heap H locs → lv_has ls 2 [(1, .int (nI k)), (0, .ref h0)] → W p l e (rmD 2 0 0) s m ([Value.ref h0] : List Value).toArray below meth c H locs 0 0 (MQ below (QV g A (fun W' => ∃ (z0 : Nat → Int32), W' = [(h0, .inr (11, ((fs.set 49 (.int 1)).set 50 (.int 0)))), (al, .inl (gI g, 24, .inl f_al)), (wa, .inl (gI g, 984, .inl z0))])) ([Value.ref h0] : List Value).toArray s 0 0 A) (F0 m 51 ls []) := by
    intro n
    induction n with
    | zero =>
      intro k hk H locs ls f2 hP hD hS hl
      obtain rfl : k = 24 := by omega
      refine lv_iload_n hx hb dX11_keepAct_51 rfl (lv_at hl 0 rfl) ?_
      refine lv_bipush (v := 24) hx hb dX11_keepAct_52 (by decide) ?_
      refine lv_icmp_ge (tgt := 83) hx hb dX11_keepAct_54 (by decide) (fun _ => ?_) (fun c4 => absurd (by decide) c4)
      refine lv_aload_n hx hb dX11_keepAct_83 rfl (lv_at hl 1 rfl) ?_
      refine lv_dup hx hb dX11_keepAct_84 rfl ?_
      refine va_get (D := g.1) (ci := 11) (v := Value.int 0) (C := RX11) (T := TX11) (N := 69) hx hb hts inlX11 hown hK hP 0 rfl rfl 49 (by decide) (hts _ q14_22) (fun _ h9 => h9) h_fs_acts dX11_keepAct_85 ?_
      refine lv_iconst (v := 1) hx hb dX11_keepAct_88 (by decide) ?_
      refine lv_iadd hx hb dX11_keepAct_89 ?_
      refine lv_tope (y := 1) (by decide) ?_
      refine va_put (D := g.1) (ci := 11) (v := Value.int 1) (ty := .int) (C := RX11) (T := TX11) (N := 69) hx hb hts inlX11 tyX11 tyX11_ok nmX11 hown hK hP hD hS 0 rfl rfl 49 (by decide) (hts _ q14_22) (fun _ h9 => h9) rfl (by decide +kernel) rfl rfl (by simp [hl_fs]) dX11_keepAct_90 (fun H locs hP hD hS => ?_)
      have hP : va_P g.1 vwCl [(h0, .inr (11, (fs.set 49 (.int 1)))), (al, .inl (gI g, 24, .inl f_al)), (wa, .inl (gI g, 984, .inl f2))] H := hP
      have hD : va_D A [(h0, .inr (11, (fs.set 49 (.int 1)))), (al, .inl (gI g, 24, .inl f_al)), (wa, .inl (gI g, 984, .inl f2))] := hD
      refine lv_aload_n hx hb dX11_keepAct_93 rfl (lv_at hl 1 rfl) ?_
      refine lv_iconst (v := 0) hx hb dX11_keepAct_94 (by decide) ?_
      refine va_put (D := g.1) (ci := 11) (v := Value.int 0) (ty := .int) (C := RX11) (T := TX11) (N := 69) hx hb hts inlX11 tyX11 tyX11_ok nmX11 hown hK hP hD hS 0 rfl rfl 50 (by decide) (hts _ q14_23) (fun _ h9 => h9) rfl (by decide +kernel) rfl rfl (by simp [hl_fs]) dX11_keepAct_95 (fun H locs hP hD hS => ?_)
      have hP : va_P g.1 vwCl [(h0, .inr (11, ((fs.set 49 (.int 1)).set 50 (.int 0)))), (al, .inl (gI g, 24, .inl f_al)), (wa, .inl (gI g, 984, .inl f2))] H := hP
      have hD : va_D A [(h0, .inr (11, ((fs.set 49 (.int 1)).set 50 (.int 0)))), (al, .inl (gI g, 24, .inl f_al)), (wa, .inl (gI g, 984, .inl f2))] := hD
      exact xv hx hb hr hlocks hP hD hS ⟨f2, rfl⟩ (Nat.le_of_ble_eq_true rfl) (Nat.le_of_ble_eq_true rfl) dX11_keepAct_98
    | succ n ih =>
      intro k hk H locs ls f2 hP hD hS hl
      have hkN : k < 24 := by omega
      refine lv_iload_n hx hb dX11_keepAct_51 rfl (lv_at hl 0 rfl) ?_
      refine lv_bipush (v := 24) hx hb dX11_keepAct_52 (by decide) ?_
      refine lv_icmp_ge (tgt := 83) hx hb dX11_keepAct_54 (by decide) (fun c5 => absurd c5 (nI_ge (b := 24) hkN (by decide))) (fun _ => ?_)
      refine lv_aload_n hx hb dX11_keepAct_57 rfl (lv_at hl 1 rfl) ?_
      refine va_get (D := g.1) (ci := 11) (v := Value.ref wa) (C := RX11) (T := TX11) (N := 69) hx hb hts inlX11 hown hK hP 0 rfl rfl 48 (by decide) (hts _ q13_19) (fun _ h9 => h9) h_fs_was dX11_keepAct_58 ?_
      refine lv_bipush (v := 24) hx hb dX11_keepAct_61 (by decide) ?_
      refine lv_aload_n hx hb dX11_keepAct_63 rfl (lv_at hl 1 rfl) ?_
      refine va_get (D := g.1) (ci := 11) (v := Value.int 0) (C := RX11) (T := TX11) (N := 69) hx hb hts inlX11 hown hK hP 0 rfl rfl 49 (by decide) (hts _ q14_22) (fun _ h9 => h9) h_fs_acts dX11_keepAct_64 ?_
      refine lv_imul hx hb dX11_keepAct_67 ?_
      refine lv_tope (y := 0) (by decide) ?_
      refine lv_iload_n hx hb dX11_keepAct_68 rfl (lv_at hl 0 rfl) ?_
      refine lv_iadd hx hb dX11_keepAct_69 ?_
      refine lv_tope (y := (nI (0 + k))) (nI_add (0) (k)) ?_
      refine lv_aload_n hx hb dX11_keepAct_70 rfl (lv_at hl 1 rfl) ?_
      refine va_get (D := g.1) (ci := 11) (v := Value.ref al) (C := RX11) (T := TX11) (N := 69) hx hb hts inlX11 hown hK hP 0 rfl rfl 46 (by decide) (hts _ q13_17) (fun _ h9 => h9) h_fs_all dX11_keepAct_71 ?_
      refine lv_iload_n hx hb dX11_keepAct_74 rfl (lv_at hl 0 rfl) ?_
      refine ia_ld hx hb hK hP 1 1 rfl rfl (k) rfl (by omega) (by decide) dX11_keepAct_75 ?_
      refine lv_topi (fun x6 ex6 => ?_)
      refine ia_st hx hb hK hP hD hS 2 1 rfl rfl (0 + k) rfl (by omega) (by decide) dX11_keepAct_76 (fun f7 H locs ef7 hP hD hS => ?_)
      have hP : va_P g.1 vwCl [(h0, .inr (11, fs)), (al, .inl (gI g, 24, .inl f_al)), (wa, .inl (gI g, 984, .inl f7))] H := hP
      have hD : va_D A [(h0, .inr (11, fs)), (al, .inl (gI g, 24, .inl f_al)), (wa, .inl (gI g, 984, .inl f7))] := hD
      refine lv_iinc (v := (nI (k + 1))) (lv' := [(1, .int (nI (k + 1))), (0, .ref h0)]) hx hb dX11_keepAct_77 hl (k := 0) rfl (nI_1 _) (by decide) rfl (fun ls hl => ?_)
      refine lv_goto (tgt := 51) hx hb dX11_keepAct_80 (by decide) ?_
      exact ih (k + 1) (by omega) H locs ls _ hP hD hS (lv_sub hl [0, 1] rfl)
  exact loop3 24 0 rfl H locs ls _ hP hD hS hl

set_option maxHeartbeats 4000000 in
set_option maxRecDepth 100000 in
theorem c_X11_doesBear {l : Launch} {g : Gx} {h0 gu : Nat} {p0 : Int32} {fs : List Value} {f_gu : Nat → Int32} (hl_fs : fs.length = 69) (h_fs_guilds : fs[12]? = some (Value.ref gu)) (h_fs_bank : fs[34]? = some (Value.int 0)) (h_f_gu_0 : f_gu 0 = 0) : MI l g yX11_doesBear cX11_doesBear 2 (some .boolean) 4 0 0 [.ref h0, .int p0] [(h0, .inr (11, fs)), (gu, .inl (gI g, 2, .inl f_gu))] (fun r W' => 0 = r ∧ W' = [(h0, .inr (11, fs)), (gu, .inl (gI g, 2, .inl f_gu))]) := by
  refine MIof (by decide) (Nat.le_of_ble_eq_true rfl) ?_
  intro p e s m below meth c A ls H locs hcx hA hP hD hS hl
  obtain ⟨hx, hb, hml, hr, hlocks, hown, hts, hE, hnm⟩ := id hcx
  have hown : s.vm.findClass RX11 = some m.cls := hown
  have hK := hE.1
  have hl : lv_has ls 2 [(0, .ref h0), (1, .int p0)] := hl
  refine lv_aload_n hx hb dX11_doesBear_0 rfl (lv_at hl 0 rfl) ?_
  refine lv_iload_n hx hb dX11_doesBear_1 rfl (lv_at hl 1 rfl) ?_
  refine kI (wc := [(h0, .inr (11, fs)), (gu, .inl (gI g, 2, .inl f_gu))]) (wr := []) (rV (As := [.int p0]) (rest := []) (meth2 := "") hcx (c_X11_isGuild (hl_fs) (h_fs_guilds) (h_fs_bank) (h_f_gu_0) H.size) (gdV q34_13 q34_14 q34_15 q1_5 q34_16) dvX11_isGuild ⟨Nat.le_of_ble_eq_true rfl, Nat.le_of_ble_eq_true rfl⟩ (hP.sub [0, 1] rfl) (hD.sub [0, 1] (by decide) rfl) (va_recv hK hP (ci := 11) (q0 := 0) rfl rfl) rfl hl.1 rfl (Nat.le_of_ble_eq_true rfl) dX11_doesBear_2 ⟨Nat.le_of_ble_eq_true rfl, Nat.le_of_ble_eq_true rfl⟩) hP hD hS hA [0, 1] [] rfl rfl (by decide) (by decide) (fun r W' H locs hw hP hD hS => ?_)
  obtain ⟨rfl, rfl⟩ := hw
  have hP : va_P g.1 vwCl [(h0, .inr (11, fs)), (gu, .inl (gI g, 2, .inl f_gu))] H := hP
  have hD : va_D A [(h0, .inr (11, fs)), (gu, .inl (gI g, 2, .inl f_gu))] := hD
  refine lv_if_eq (tgt := 28) hx hb dX11_doesBear_5 (by decide) (fun _ => ?_) (fun c1 => absurd (by decide) c1)
  refine lv_iconst (v := 0) hx hb dX11_doesBear_28 (by decide) ?_
  exact xi hx hb hr hlocks rfl hP hD hS ⟨rfl, rfl⟩ (Nat.le_of_ble_eq_true rfl) (Nat.le_of_ble_eq_true rfl) dX11_doesBear_29

set_option maxHeartbeats 4000000 in
set_option maxRecDepth 100000 in
theorem c_X11_canGo {l : Launch} {g : Gx} {h0 gu : Nat} {p0 : Int32} {p1 : Int32} {fs : List Value} {f_gu : Nat → Int32} (hl_fs : fs.length = 69) (h_fs_guilds : fs[12]? = some (Value.ref gu)) (h_fs_bank : fs[34]? = some (Value.int 0)) (h_f_gu_0 : f_gu 0 = 0) : MI l g yX11_canGo cX11_canGo 3 (some .boolean) 5 0 0 [.ref h0, .int p0, .int p1] [(h0, .inr (11, fs)), (gu, .inl (gI g, 2, .inl f_gu))] (fun r W' => 0 = r ∧ W' = [(h0, .inr (11, fs)), (gu, .inl (gI g, 2, .inl f_gu))]) := by
  refine MIof (by decide) (Nat.le_of_ble_eq_true rfl) ?_
  intro p e s m below meth c A ls H locs hcx hA hP hD hS hl
  obtain ⟨hx, hb, hml, hr, hlocks, hown, hts, hE, hnm⟩ := id hcx
  have hown : s.vm.findClass RX11 = some m.cls := hown
  have hK := hE.1
  have hl : lv_has ls 3 [(0, .ref h0), (1, .int p0), (2, .int p1)] := hl
  refine lv_iload_n hx hb dX11_canGo_0 rfl (lv_at hl 1 rfl) ?_
  refine lv_iload_n hx hb dX11_canGo_1 rfl (lv_at hl 2 rfl) ?_
  refine lv_icmp_eq (tgt := 47) hx hb dX11_canGo_2 (by decide) (fun c1 => ?_) (fun c1 => ?_)
  · refine lv_iconst (v := 0) hx hb dX11_canGo_47 (by decide) ?_
    exact xi hx hb hr hlocks rfl hP hD hS ⟨rfl, rfl⟩ (Nat.le_of_ble_eq_true rfl) (Nat.le_of_ble_eq_true rfl) dX11_canGo_48
  · refine lv_aload_n hx hb dX11_canGo_5 rfl (lv_at hl 0 rfl) ?_
    refine lv_iload_n hx hb dX11_canGo_6 rfl (lv_at hl 1 rfl) ?_
    refine kI (wc := [(h0, .inr (11, fs)), (gu, .inl (gI g, 2, .inl f_gu))]) (wr := []) (rV (As := [.int p0]) (rest := []) (meth2 := "") hcx (c_X11_doesBear (hl_fs) (h_fs_guilds) (h_fs_bank) (h_f_gu_0) H.size) (gdV q39_14 q39_15 q39_16 q1_5 q39_17) dvX11_doesBear ⟨Nat.le_of_ble_eq_true rfl, Nat.le_of_ble_eq_true rfl⟩ (hP.sub [0, 1] rfl) (hD.sub [0, 1] (by decide) rfl) (va_recv hK hP (ci := 11) (q0 := 0) rfl rfl) rfl hl.1 rfl (Nat.le_of_ble_eq_true rfl) dX11_canGo_7 ⟨Nat.le_of_ble_eq_true rfl, Nat.le_of_ble_eq_true rfl⟩) hP hD hS hA [0, 1] [] rfl rfl (by decide) (by decide) (fun r W' H locs hw hP hD hS => ?_)
    obtain ⟨rfl, rfl⟩ := hw
    have hP : va_P g.1 vwCl [(h0, .inr (11, fs)), (gu, .inl (gI g, 2, .inl f_gu))] H := hP
    have hD : va_D A [(h0, .inr (11, fs)), (gu, .inl (gI g, 2, .inl f_gu))] := hD
    refine lv_if_eq (tgt := 47) hx hb dX11_canGo_10 (by decide) (fun _ => ?_) (fun c2 => absurd (by decide) c2)
    refine lv_iconst (v := 0) hx hb dX11_canGo_47 (by decide) ?_
    exact xi hx hb hr hlocks rfl hP hD hS ⟨rfl, rfl⟩ (Nat.le_of_ble_eq_true rfl) (Nat.le_of_ble_eq_true rfl) dX11_canGo_48

set_option maxHeartbeats 4000000 in
set_option maxRecDepth 100000 in
theorem c_X11_bitsOf {l : Launch} {g : Gx}  : MI l g yX11_bitsOf cX11_bitsOf 3 (some .int) 2 0 0 [.int 0] [] (fun r W' => 0 = r ∧ W' = []) := by
  refine MIof (by decide) (Nat.le_of_ble_eq_true rfl) ?_
  intro p e s m below meth c A ls H locs hcx hA hP hD hS hl
  obtain ⟨hx, hb, hml, hr, hlocks, hown, hts, hE, hnm⟩ := id hcx
  have hown : s.vm.findClass RX11 = some m.cls := hown
  have hK := hE.1
  have hl : lv_has ls 3 [(0, .int 0)] := hl
  refine lv_iconst (v := 0) hx hb dX11_bitsOf_0 (by decide) ?_
  refine lv_istore_n (lv' := [(1, .int 0), (0, .int 0)]) hx hb dX11_bitsOf_1 rfl hl (by decide) rfl (fun ls hl => ?_)
  refine lv_iload_n hx hb dX11_bitsOf_2 rfl (lv_at hl 1 rfl) ?_
  refine lv_istore_n (lv' := [(2, .int 0), (1, .int 0), (0, .int 0)]) hx hb dX11_bitsOf_3 rfl hl (by decide) rfl (fun ls hl => ?_)
  refine lv_iload_n hx hb dX11_bitsOf_4 rfl (lv_at hl 0 rfl) ?_
  refine lv_if_eq (tgt := 20) hx hb dX11_bitsOf_5 (by decide) (fun _ => ?_) (fun c1 => absurd (by decide) c1)
  refine lv_iload_n hx hb dX11_bitsOf_20 rfl (lv_at hl 1 rfl) ?_
  exact xi hx hb hr hlocks rfl hP hD hS ⟨rfl, rfl⟩ (Nat.le_of_ble_eq_true rfl) (Nat.le_of_ble_eq_true rfl) dX11_bitsOf_21

set_option maxHeartbeats 4000000 in
set_option maxRecDepth 100000 in
theorem c_X11_power_4 {l : Launch} {g : Gx}  : MI l g yX11_power cX11_power 4 (some .int) 2 0 0 [.int 4, .int 0] [] (fun r W' => 1 = r ∧ W' = []) := by
  refine MIof (by decide) (Nat.le_of_ble_eq_true rfl) ?_
  intro p e s m below meth c A ls H locs hcx hA hP hD hS hl
  obtain ⟨hx, hb, hml, hr, hlocks, hown, hts, hE, hnm⟩ := id hcx
  have hown : s.vm.findClass RX11 = some m.cls := hown
  have hK := hE.1
  have hl : lv_has ls 4 [(0, .int 4), (1, .int 0)] := hl
  refine lv_iconst (v := 1) hx hb dX11_power_0 (by decide) ?_
  refine lv_istore_n (lv' := [(2, .int 1), (0, .int 4), (1, .int 0)]) hx hb dX11_power_1 rfl hl (by decide) rfl (fun ls hl => ?_)
  refine lv_iconst (v := 0) hx hb dX11_power_2 (by decide) ?_
  refine lv_istore_n (lv' := [(3, .int 0), (2, .int 1), (0, .int 4), (1, .int 0)]) hx hb dX11_power_3 rfl hl (by decide) rfl (fun ls hl => ?_)
  refine lv_iload_n hx hb dX11_power_4 rfl (lv_at hl 0 rfl) ?_
  refine lv_iload_n hx hb dX11_power_5 rfl (lv_at hl 3 rfl) ?_
  refine lv_icmp_ge (tgt := 19) hx hb dX11_power_6 (by decide) (fun _ => ?_) (fun c1 => absurd (by decide) c1)
  refine lv_iload_n hx hb dX11_power_19 rfl (lv_at hl 1 rfl) ?_
  exact xi hx hb hr hlocks rfl hP hD hS ⟨rfl, rfl⟩ (Nat.le_of_ble_eq_true rfl) (Nat.le_of_ble_eq_true rfl) dX11_power_20

set_option maxHeartbeats 4000000 in
set_option maxRecDepth 100000 in
theorem c_X11_power_0 {l : Launch} {g : Gx}  : MI l g yX11_power cX11_power 4 (some .int) 2 0 0 [.int 0, .int 0] [] (fun r W' => 1 = r ∧ W' = []) := by
  refine MIof (by decide) (Nat.le_of_ble_eq_true rfl) ?_
  intro p e s m below meth c A ls H locs hcx hA hP hD hS hl
  obtain ⟨hx, hb, hml, hr, hlocks, hown, hts, hE, hnm⟩ := id hcx
  have hown : s.vm.findClass RX11 = some m.cls := hown
  have hK := hE.1
  have hl : lv_has ls 4 [(0, .int 0), (1, .int 0)] := hl
  refine lv_iconst (v := 1) hx hb dX11_power_0 (by decide) ?_
  refine lv_istore_n (lv' := [(2, .int 1), (0, .int 0), (1, .int 0)]) hx hb dX11_power_1 rfl hl (by decide) rfl (fun ls hl => ?_)
  refine lv_iconst (v := 0) hx hb dX11_power_2 (by decide) ?_
  refine lv_istore_n (lv' := [(3, .int 0), (2, .int 1), (0, .int 0), (1, .int 0)]) hx hb dX11_power_3 rfl hl (by decide) rfl (fun ls hl => ?_)
  refine lv_iload_n hx hb dX11_power_4 rfl (lv_at hl 0 rfl) ?_
  refine lv_iload_n hx hb dX11_power_5 rfl (lv_at hl 3 rfl) ?_
  refine lv_icmp_ge (tgt := 19) hx hb dX11_power_6 (by decide) (fun _ => ?_) (fun c1 => absurd (by decide) c1)
  refine lv_iload_n hx hb dX11_power_19 rfl (lv_at hl 1 rfl) ?_
  exact xi hx hb hr hlocks rfl hP hD hS ⟨rfl, rfl⟩ (Nat.le_of_ble_eq_true rfl) (Nat.le_of_ble_eq_true rfl) dX11_power_20

set_option maxHeartbeats 4000000 in
set_option maxRecDepth 100000 in
theorem c_X11_bearers {l : Launch} {g : Gx} {h0 gu : Nat} {fs : List Value} {f_gu : Nat → Int32} (hl_fs : fs.length = 69) (h_fs_guilds : fs[12]? = some (Value.ref gu)) (h_fs_bank : fs[34]? = some (Value.int 0)) (h_f_gu_0 : f_gu 0 = 0) : MI l g yX11_bearers cX11_bearers 3 (some .int) 3 0 0 [.ref h0] [(h0, .inr (11, fs)), (gu, .inl (gI g, 2, .inl f_gu))] (fun r W' => 0 = r ∧ W' = [(h0, .inr (11, fs)), (gu, .inl (gI g, 2, .inl f_gu))]) := by
  refine MIof (by decide) (Nat.le_of_ble_eq_true rfl) ?_
  intro p e s m below meth c A ls H locs hcx hA hP hD hS hl
  obtain ⟨hx, hb, hml, hr, hlocks, hown, hts, hE, hnm⟩ := id hcx
  have hown : s.vm.findClass RX11 = some m.cls := hown
  have hK := hE.1
  have hl : lv_has ls 3 [(0, .ref h0)] := hl
  refine lv_iconst (v := 0) hx hb dX11_bearers_0 (by decide) ?_
  refine lv_istore_n (lv' := [(1, .int 0), (0, .ref h0)]) hx hb dX11_bearers_1 rfl hl (by decide) rfl (fun ls hl => ?_)
  refine lv_iconst (v := 0) hx hb dX11_bearers_2 (by decide) ?_
  refine lv_istore_n (lv' := [(2, .int 0), (1, .int 0), (0, .ref h0)]) hx hb dX11_bearers_3 rfl hl (by decide) rfl (fun ls hl => ?_)
  refine lv_iload_n hx hb dX11_bearers_4 rfl (lv_at hl 0 rfl) ?_
  refine lv_aload_n hx hb dX11_bearers_5 rfl (lv_at hl 2 rfl) ?_
  refine kI (wc := [(h0, .inr (11, fs)), (gu, .inl (gI g, 2, .inl f_gu))]) (wr := []) (rV (As := []) (rest := [.int 0]) (meth2 := "") hcx (c_X11_many (hl_fs) (h_fs_guilds) (h_fs_bank) (h_f_gu_0) H.size) (gdV q15_2 q15_3 q15_4 q1_5 q15_5) dvX11_many ⟨Nat.le_of_ble_eq_true rfl, Nat.le_of_ble_eq_true rfl⟩ (hP.sub [0, 1] rfl) (hD.sub [0, 1] (by decide) rfl) (va_recv hK hP (ci := 11) (q0 := 0) rfl rfl) rfl hl.1 rfl (Nat.le_of_ble_eq_true rfl) dX11_bearers_6 ⟨Nat.le_of_ble_eq_true rfl, Nat.le_of_ble_eq_true rfl⟩) hP hD hS hA [0, 1] [] rfl rfl (by decide) (by decide) (fun r W' H locs hw hP hD hS => ?_)
  obtain ⟨rfl, rfl⟩ := hw
  have hP : va_P g.1 vwCl [(h0, .inr (11, fs)), (gu, .inl (gI g, 2, .inl f_gu))] H := hP
  have hD : va_D A [(h0, .inr (11, fs)), (gu, .inl (gI g, 2, .inl f_gu))] := hD
  refine lv_icmp_ge (tgt := 32) hx hb dX11_bearers_9 (by decide) (fun _ => ?_) (fun c1 => absurd (by decide) c1)
  refine lv_iload_n hx hb dX11_bearers_32 rfl (lv_at hl 1 rfl) ?_
  exact xi hx hb hr hlocks rfl hP hD hS ⟨rfl, rfl⟩ (Nat.le_of_ble_eq_true rfl) (Nat.le_of_ble_eq_true rfl) dX11_bearers_33

set_option maxHeartbeats 4000000 in
set_option maxRecDepth 100000 in
theorem c_X11_clothBy {l : Launch} {g : Gx} {h0 al ke fe co gu : Nat} {fs : List Value} {f_al : Nat → Int32} {f_ke : Nat → Int32} {f_fe : Nat → Int32} {f_co : Nat → Int32} {f_gu : Nat → Int32} (hl_fs : fs.length = 69) (h_fs_all : fs[46]? = some (Value.ref al)) (h_fs_kept : fs[51]? = some (Value.ref ke)) (h_fs_fell : fs[53]? = some (Value.ref fe)) (h_fs_corners : fs[11]? = some (Value.ref co)) (h_fs_guilds : fs[12]? = some (Value.ref gu)) (h_fs_bank : fs[34]? = some (Value.int 0)) (h_f_al_20 : f_al 20 = 0) (h_f_al_21 : f_al 21 = 0) (h_f_co_0 : f_co 0 = 0) (h_f_gu_0 : f_gu 0 = 0) : MI l g yX11_clothBy cX11_clothBy 5 (some .int) 4 0 0 [.ref h0, .int 0] [(h0, .inr (11, fs)), (al, .inl (gI g, 24, .inl f_al)), (ke, .inl (gI g, 24, .inl f_ke)), (fe, .inl (gI g, 8, .inl f_fe)), (co, .inl (gI g, 2, .inl f_co)), (gu, .inl (gI g, 2, .inl f_gu))] (fun r W' => 0 = r ∧ ∃ (z0 : Nat → Int32) (z1 : Nat → Int32) (z2 : Nat → Int32), W' = [(h0, .inr (11, fs)), (al, .inl (gI g, 24, .inl z0)), (ke, .inl (gI g, 24, .inl z1)), (fe, .inl (gI g, 8, .inl z2)), (co, .inl (gI g, 2, .inl f_co)), (gu, .inl (gI g, 2, .inl f_gu))]) := by
  refine MIof (by decide) (Nat.le_of_ble_eq_true rfl) ?_
  intro p e s m below meth c A ls H locs hcx hA hP hD hS hl
  obtain ⟨hx, hb, hml, hr, hlocks, hown, hts, hE, hnm⟩ := id hcx
  have hown : s.vm.findClass RX11 = some m.cls := hown
  have hK := hE.1
  have hl : lv_has ls 5 [(0, .ref h0), (1, .int 0)] := hl
  refine lv_aload_n hx hb dX11_clothBy_0 rfl (lv_at hl 0 rfl) ?_
  refine kI (wc := [(h0, .inr (11, fs)), (gu, .inl (gI g, 2, .inl f_gu))]) (wr := [(al, .inl (gI g, 24, .inl f_al)), (ke, .inl (gI g, 24, .inl f_ke)), (fe, .inl (gI g, 8, .inl f_fe)), (co, .inl (gI g, 2, .inl f_co))]) (rV (As := []) (rest := []) (meth2 := "") hcx (c_X11_bearers (hl_fs) (h_fs_guilds) (h_fs_bank) (h_f_gu_0) H.size) (gdV q51_21 q51_22 q51_23 q1_5 q52_0) dvX11_bearers ⟨Nat.le_of_ble_eq_true rfl, Nat.le_of_ble_eq_true rfl⟩ (hP.sub [0, 5] rfl) (hD.sub [0, 5] (by decide) rfl) (va_recv hK hP (ci := 11) (q0 := 0) rfl rfl) rfl hl.1 rfl (Nat.le_of_ble_eq_true rfl) dX11_clothBy_1 ⟨Nat.le_of_ble_eq_true rfl, Nat.le_of_ble_eq_true rfl⟩) hP hD hS hA [0, 5] [1, 2, 3, 4] rfl rfl (by decide) (by decide) (fun r W' H locs hw hP hD hS => ?_)
  obtain ⟨rfl, rfl⟩ := hw
  have hP : va_P g.1 vwCl [(al, .inl (gI g, 24, .inl f_al)), (ke, .inl (gI g, 24, .inl f_ke)), (fe, .inl (gI g, 8, .inl f_fe)), (co, .inl (gI g, 2, .inl f_co)), (h0, .inr (11, fs)), (gu, .inl (gI g, 2, .inl f_gu))] H := hP
  have hD : va_D A [(al, .inl (gI g, 24, .inl f_al)), (ke, .inl (gI g, 24, .inl f_ke)), (fe, .inl (gI g, 8, .inl f_fe)), (co, .inl (gI g, 2, .inl f_co)), (h0, .inr (11, fs)), (gu, .inl (gI g, 2, .inl f_gu))] := hD
  refine lv_istore_n (lv' := [(2, .int 0), (0, .ref h0), (1, .int 0)]) hx hb dX11_clothBy_4 rfl hl (by decide) rfl (fun ls hl => ?_)
  refine lv_iconst (v := 0) hx hb dX11_clothBy_5 (by decide) ?_
  refine lv_istore_n (lv' := [(3, .int 0), (2, .int 0), (0, .ref h0), (1, .int 0)]) hx hb dX11_clothBy_6 rfl hl (by decide) rfl (fun ls hl => ?_)
  refine lv_iconst (v := 0) hx hb dX11_clothBy_7 (by decide) ?_
  refine lv_istore (lv' := [(4, .int 0), (3, .int 0), (2, .int 0), (0, .ref h0), (1, .int 0)]) hx hb dX11_clothBy_8 hl (by decide) rfl (fun ls hl => ?_)
  refine lv_iload hx hb dX11_clothBy_10 (lv_at hl 0 rfl) ?_
  refine lv_aload_n hx hb dX11_clothBy_12 rfl (lv_at hl 3 rfl) ?_
  refine kI (wc := [(h0, .inr (11, fs)), (gu, .inl (gI g, 2, .inl f_gu))]) (wr := [(al, .inl (gI g, 24, .inl f_al)), (ke, .inl (gI g, 24, .inl f_ke)), (fe, .inl (gI g, 8, .inl f_fe)), (co, .inl (gI g, 2, .inl f_co))]) (rV (As := []) (rest := [.int 0]) (meth2 := "") hcx (c_X11_many (hl_fs) (h_fs_guilds) (h_fs_bank) (h_f_gu_0) H.size) (gdV q15_2 q15_3 q15_4 q1_5 q15_5) dvX11_many ⟨Nat.le_of_ble_eq_true rfl, Nat.le_of_ble_eq_true rfl⟩ (hP.sub [4, 5] rfl) (hD.sub [4, 5] (by decide) rfl) (va_recv hK hP (ci := 11) (q0 := 4) rfl rfl) rfl hl.1 rfl (Nat.le_of_ble_eq_true rfl) dX11_clothBy_13 ⟨Nat.le_of_ble_eq_true rfl, Nat.le_of_ble_eq_true rfl⟩) hP hD hS hA [4, 5] [0, 1, 2, 3] rfl rfl (by decide) (by decide) (fun r W' H locs hw hP hD hS => ?_)
  obtain ⟨rfl, rfl⟩ := hw
  have hP : va_P g.1 vwCl [(al, .inl (gI g, 24, .inl f_al)), (ke, .inl (gI g, 24, .inl f_ke)), (fe, .inl (gI g, 8, .inl f_fe)), (co, .inl (gI g, 2, .inl f_co)), (h0, .inr (11, fs)), (gu, .inl (gI g, 2, .inl f_gu))] H := hP
  have hD : va_D A [(al, .inl (gI g, 24, .inl f_al)), (ke, .inl (gI g, 24, .inl f_ke)), (fe, .inl (gI g, 8, .inl f_fe)), (co, .inl (gI g, 2, .inl f_co)), (h0, .inr (11, fs)), (gu, .inl (gI g, 2, .inl f_gu))] := hD
  refine lv_icmp_ge (tgt := 46) hx hb dX11_clothBy_16 (by decide) (fun _ => ?_) (fun c1 => absurd (by decide) c1)
  refine lv_aload_n hx hb dX11_clothBy_46 rfl (lv_at hl 3 rfl) ?_
  refine kV (wc := [(h0, .inr (11, fs)), (al, .inl (gI g, 24, .inl f_al)), (ke, .inl (gI g, 24, .inl f_ke))]) (wr := [(fe, .inl (gI g, 8, .inl f_fe)), (co, .inl (gI g, 2, .inl f_co)), (gu, .inl (gI g, 2, .inl f_gu))]) (rV (As := []) (rest := []) (meth2 := "") hcx (c_X11_keepNow (hl_fs) (h_fs_all) (h_fs_kept) H.size) (gdV q47_9 q47_10 q47_11 q1_5 q47_12) dvX11_keepNow ⟨Nat.le_of_ble_eq_true rfl, Nat.le_of_ble_eq_true rfl⟩ (hP.sub [4, 0, 1] rfl) (hD.sub [4, 0, 1] (by decide) rfl) (va_recv hK hP (ci := 11) (q0 := 4) rfl rfl) rfl hl.1 rfl (Nat.le_of_ble_eq_true rfl) dX11_clothBy_47 ⟨Nat.le_of_ble_eq_true rfl, Nat.le_of_ble_eq_true rfl⟩) hP hD hS hA [4, 0, 1] [2, 3, 5] rfl rfl (by decide) (by decide) (fun W' H locs hw hP hD hS => ?_)
  obtain ⟨f2, rfl⟩ := hw
  have hP : va_P g.1 vwCl [(fe, .inl (gI g, 8, .inl f_fe)), (co, .inl (gI g, 2, .inl f_co)), (gu, .inl (gI g, 2, .inl f_gu)), (h0, .inr (11, fs)), (al, .inl (gI g, 24, .inl f_al)), (ke, .inl (gI g, 24, .inl f2))] H := hP
  have hD : va_D A [(fe, .inl (gI g, 8, .inl f_fe)), (co, .inl (gI g, 2, .inl f_co)), (gu, .inl (gI g, 2, .inl f_gu)), (h0, .inr (11, fs)), (al, .inl (gI g, 24, .inl f_al)), (ke, .inl (gI g, 24, .inl f2))] := hD
  refine lv_iconst (v := 0) hx hb dX11_clothBy_50 (by decide) ?_
  refine lv_istore (lv' := [(4, .int 0), (3, .int 0), (2, .int 0), (0, .ref h0), (1, .int 0)]) hx hb dX11_clothBy_51 hl (by decide) rfl (fun ls hl => ?_)
  refine lv_iload hx hb dX11_clothBy_53 (lv_at hl 0 rfl) ?_
  refine lv_aload_n hx hb dX11_clothBy_55 rfl (lv_at hl 3 rfl) ?_
  refine kI (wc := [(h0, .inr (11, fs)), (gu, .inl (gI g, 2, .inl f_gu))]) (wr := [(fe, .inl (gI g, 8, .inl f_fe)), (co, .inl (gI g, 2, .inl f_co)), (al, .inl (gI g, 24, .inl f_al)), (ke, .inl (gI g, 24, .inl f2))]) (rV (As := []) (rest := [.int 0]) (meth2 := "") hcx (c_X11_many (hl_fs) (h_fs_guilds) (h_fs_bank) (h_f_gu_0) H.size) (gdV q15_2 q15_3 q15_4 q1_5 q15_5) dvX11_many ⟨Nat.le_of_ble_eq_true rfl, Nat.le_of_ble_eq_true rfl⟩ (hP.sub [3, 2] rfl) (hD.sub [3, 2] (by decide) rfl) (va_recv hK hP (ci := 11) (q0 := 3) rfl rfl) rfl hl.1 rfl (Nat.le_of_ble_eq_true rfl) dX11_clothBy_56 ⟨Nat.le_of_ble_eq_true rfl, Nat.le_of_ble_eq_true rfl⟩) hP hD hS hA [3, 2] [0, 1, 4, 5] rfl rfl (by decide) (by decide) (fun r W' H locs hw hP hD hS => ?_)
  obtain ⟨rfl, rfl⟩ := hw
  have hP : va_P g.1 vwCl [(fe, .inl (gI g, 8, .inl f_fe)), (co, .inl (gI g, 2, .inl f_co)), (al, .inl (gI g, 24, .inl f_al)), (ke, .inl (gI g, 24, .inl f2)), (h0, .inr (11, fs)), (gu, .inl (gI g, 2, .inl f_gu))] H := hP
  have hD : va_D A [(fe, .inl (gI g, 8, .inl f_fe)), (co, .inl (gI g, 2, .inl f_co)), (al, .inl (gI g, 24, .inl f_al)), (ke, .inl (gI g, 24, .inl f2)), (h0, .inr (11, fs)), (gu, .inl (gI g, 2, .inl f_gu))] := hD
  refine lv_icmp_ge (tgt := 105) hx hb dX11_clothBy_59 (by decide) (fun _ => ?_) (fun c3 => absurd (by decide) c3)
  refine lv_iload_n hx hb dX11_clothBy_105 rfl (lv_at hl 2 rfl) ?_
  refine lv_aload_n hx hb dX11_clothBy_106 rfl (lv_at hl 3 rfl) ?_
  refine lv_iconst (v := 0) hx hb dX11_clothBy_107 (by decide) ?_
  refine lv_iconst (v := 0) hx hb dX11_clothBy_108 (by decide) ?_
  refine kI (wc := [(h0, .inr (11, fs)), (al, .inl (gI g, 24, .inl f_al)), (ke, .inl (gI g, 24, .inl f2)), (fe, .inl (gI g, 8, .inl f_fe)), (co, .inl (gI g, 2, .inl f_co))]) (wr := [(gu, .inl (gI g, 2, .inl f_gu))]) (rV (As := [.int 0, .int 0]) (rest := [.int 0]) (meth2 := "") hcx (c_X11_upAtLast (hl_fs) (h_fs_all) (h_fs_kept) (h_fs_fell) (h_fs_corners) (h_fs_bank) (h_f_al_20) (h_f_al_21) (h_f_co_0) H.size) (gdV q48_12 q48_13 q48_14 q1_5 q48_15) dvX11_upAtLast ⟨Nat.le_of_ble_eq_true rfl, Nat.le_of_ble_eq_true rfl⟩ (hP.sub [4, 2, 3, 0, 1] rfl) (hD.sub [4, 2, 3, 0, 1] (by decide) rfl) (va_recv hK hP (ci := 11) (q0 := 4) rfl rfl) rfl hl.1 rfl (Nat.le_of_ble_eq_true rfl) dX11_clothBy_109 ⟨Nat.le_of_ble_eq_true rfl, Nat.le_of_ble_eq_true rfl⟩) hP hD hS hA [4, 2, 3, 0, 1] [5] rfl rfl (by decide) (by decide) (fun r W' H locs hw hP hD hS => ?_)
  obtain ⟨rfl, f4, f5, rfl⟩ := hw
  have hP : va_P g.1 vwCl [(gu, .inl (gI g, 2, .inl f_gu)), (h0, .inr (11, fs)), (al, .inl (gI g, 24, .inl f4)), (ke, .inl (gI g, 24, .inl f2)), (fe, .inl (gI g, 8, .inl f5)), (co, .inl (gI g, 2, .inl f_co))] H := hP
  have hD : va_D A [(gu, .inl (gI g, 2, .inl f_gu)), (h0, .inr (11, fs)), (al, .inl (gI g, 24, .inl f4)), (ke, .inl (gI g, 24, .inl f2)), (fe, .inl (gI g, 8, .inl f5)), (co, .inl (gI g, 2, .inl f_co))] := hD
  refine lv_iconst (v := (-1)) hx hb dX11_clothBy_112 (by decide) ?_
  refine lv_ixor hx hb dX11_clothBy_113 ?_
  refine lv_tope (y := (-1)) (by decide) ?_
  refine lv_iand hx hb dX11_clothBy_114 ?_
  refine lv_tope (y := 0) (by decide) ?_
  refine lv_if_ne (tgt := 122) hx hb dX11_clothBy_115 (by decide) (fun c6 => absurd (by decide) c6) (fun _ => ?_)
  refine lv_iload_n hx hb dX11_clothBy_118 rfl (lv_at hl 1 rfl) ?_
  refine lv_goto (tgt := 123) hx hb dX11_clothBy_119 (by decide) ?_
  have hP9 : va_P g.1 vwCl [(h0, .inr (11, fs)), (al, .inl (gI g, 24, .inl f4)), (ke, .inl (gI g, 24, .inl f2)), (fe, .inl (gI g, 8, .inl f5)), (co, .inl (gI g, 2, .inl f_co)), (gu, .inl (gI g, 2, .inl f_gu))] H := hP.sub [1, 2, 3, 4, 5, 0] rfl
  have hD9 : va_D A [(h0, .inr (11, fs)), (al, .inl (gI g, 24, .inl f4)), (ke, .inl (gI g, 24, .inl f2)), (fe, .inl (gI g, 8, .inl f5)), (co, .inl (gI g, 2, .inl f_co)), (gu, .inl (gI g, 2, .inl f_gu))] := hD.sub [1, 2, 3, 4, 5, 0] (by decide) rfl
  exact xi hx hb hr hlocks rfl hP9 hD9 hS ⟨rfl, f4, f2, f5, rfl⟩ (Nat.le_of_ble_eq_true rfl) (Nat.le_of_ble_eq_true rfl) dX11_clothBy_123

set_option maxHeartbeats 4000000 in
set_option maxRecDepth 100000 in
theorem c_X11_layOrder {l : Launch} {g : Gx} {h0 gu : Nat} {fs : List Value} {f_gu : Nat → Int32} (hl_fs : fs.length = 69) (h_fs_guilds : fs[12]? = some (Value.ref gu)) (h_fs_bank : fs[34]? = some (Value.int 0)) (h_f_gu_0 : f_gu 0 = 0) : MI l g yX11_layOrder cX11_layOrder 5 (some .boolean) 4 0 0 [.ref h0, .int 0] [(h0, .inr (11, fs)), (gu, .inl (gI g, 2, .inl f_gu))] (fun r W' => 1 = r ∧ W' = [(h0, .inr (11, fs)), (gu, .inl (gI g, 2, .inl f_gu))]) := by
  refine MIof (by decide) (Nat.le_of_ble_eq_true rfl) ?_
  intro p e s m below meth c A ls H locs hcx hA hP hD hS hl
  obtain ⟨hx, hb, hml, hr, hlocks, hown, hts, hE, hnm⟩ := id hcx
  have hown : s.vm.findClass RX11 = some m.cls := hown
  have hK := hE.1
  have hl : lv_has ls 5 [(0, .ref h0), (1, .int 0)] := hl
  refine lv_iload_n hx hb dX11_layOrder_0 rfl (lv_at hl 1 rfl) ?_
  refine lv_istore_n (lv' := [(2, .int 0), (0, .ref h0), (1, .int 0)]) hx hb dX11_layOrder_1 rfl hl (by decide) rfl (fun ls hl => ?_)
  refine lv_iconst (v := 0) hx hb dX11_layOrder_2 (by decide) ?_
  refine lv_istore_n (lv' := [(3, .int 0), (2, .int 0), (0, .ref h0), (1, .int 0)]) hx hb dX11_layOrder_3 rfl hl (by decide) rfl (fun ls hl => ?_)
  refine lv_aload_n hx hb dX11_layOrder_4 rfl (lv_at hl 2 rfl) ?_
  refine kI (wc := [(h0, .inr (11, fs)), (gu, .inl (gI g, 2, .inl f_gu))]) (wr := []) (rV (As := []) (rest := []) (meth2 := "") hcx (c_X11_many (hl_fs) (h_fs_guilds) (h_fs_bank) (h_f_gu_0) H.size) (gdV q15_2 q15_3 q15_4 q1_5 q15_5) dvX11_many ⟨Nat.le_of_ble_eq_true rfl, Nat.le_of_ble_eq_true rfl⟩ (hP.sub [0, 1] rfl) (hD.sub [0, 1] (by decide) rfl) (va_recv hK hP (ci := 11) (q0 := 0) rfl rfl) rfl hl.1 rfl (Nat.le_of_ble_eq_true rfl) dX11_layOrder_5 ⟨Nat.le_of_ble_eq_true rfl, Nat.le_of_ble_eq_true rfl⟩) hP hD hS hA [0, 1] [] rfl rfl (by decide) (by decide) (fun r W' H locs hw hP hD hS => ?_)
  obtain ⟨rfl, rfl⟩ := hw
  have hP : va_P g.1 vwCl [(h0, .inr (11, fs)), (gu, .inl (gI g, 2, .inl f_gu))] H := hP
  have hD : va_D A [(h0, .inr (11, fs)), (gu, .inl (gI g, 2, .inl f_gu))] := hD
  refine lv_iconst (v := 1) hx hb dX11_layOrder_8 (by decide) ?_
  refine lv_isub hx hb dX11_layOrder_9 ?_
  refine lv_tope (y := (-1)) (by decide) ?_
  refine lv_istore (lv' := [(4, .int (-1)), (3, .int 0), (2, .int 0), (0, .ref h0), (1, .int 0)]) hx hb dX11_layOrder_10 hl (by decide) rfl (fun ls hl => ?_)
  refine lv_iload hx hb dX11_layOrder_12 (lv_at hl 0 rfl) ?_
  refine lv_if_lt (tgt := 59) hx hb dX11_layOrder_14 (by decide) (fun _ => ?_) (fun c1 => absurd (by decide) c1)
  refine lv_iload_n hx hb dX11_layOrder_59 rfl (lv_at hl 1 rfl) ?_
  refine lv_aload_n hx hb dX11_layOrder_60 rfl (lv_at hl 3 rfl) ?_
  refine kI (wc := [(h0, .inr (11, fs)), (gu, .inl (gI g, 2, .inl f_gu))]) (wr := []) (rV (As := []) (rest := [.int 0]) (meth2 := "") hcx (c_X11_full (hl_fs) (h_fs_guilds) (h_fs_bank) (h_f_gu_0) H.size) (gdV q15_6 q15_7 q15_8 q1_5 q15_9) dvX11_full ⟨Nat.le_of_ble_eq_true rfl, Nat.le_of_ble_eq_true rfl⟩ (hP.sub [0, 1] rfl) (hD.sub [0, 1] (by decide) rfl) (va_recv hK hP (ci := 11) (q0 := 0) rfl rfl) rfl hl.1 rfl (Nat.le_of_ble_eq_true rfl) dX11_layOrder_61 ⟨Nat.le_of_ble_eq_true rfl, Nat.le_of_ble_eq_true rfl⟩) hP hD hS hA [0, 1] [] rfl rfl (by decide) (by decide) (fun r W' H locs hw hP hD hS => ?_)
  obtain ⟨rfl, rfl⟩ := hw
  have hP : va_P g.1 vwCl [(h0, .inr (11, fs)), (gu, .inl (gI g, 2, .inl f_gu))] H := hP
  have hD : va_D A [(h0, .inr (11, fs)), (gu, .inl (gI g, 2, .inl f_gu))] := hD
  refine lv_icmp_ne (tgt := 71) hx hb dX11_layOrder_64 (by decide) (fun c2 => absurd (by decide) c2) (fun _ => ?_)
  refine lv_iconst (v := 1) hx hb dX11_layOrder_67 (by decide) ?_
  refine lv_goto (tgt := 72) hx hb dX11_layOrder_68 (by decide) ?_
  exact xi hx hb hr hlocks rfl hP hD hS ⟨rfl, rfl⟩ (Nat.le_of_ble_eq_true rfl) (Nat.le_of_ble_eq_true rfl) dX11_layOrder_72

set_option maxHeartbeats 4000000 in
set_option maxRecDepth 100000 in
theorem c_X11_layPairs {l : Launch} {g : Gx} {h0 gu : Nat} {fs : List Value} {f_gu : Nat → Int32} (hl_fs : fs.length = 69) (h_fs_guilds : fs[12]? = some (Value.ref gu)) (h_fs_bank : fs[34]? = some (Value.int 0)) (h_f_gu_0 : f_gu 0 = 0) : MV l g yX11_layPairs cX11_layPairs 8 4 0 0 [.ref h0] [(h0, .inr (11, fs)), (gu, .inl (gI g, 2, .inl f_gu))] (fun W' => W' = [(h0, .inr (11, fs)), (gu, .inl (gI g, 2, .inl f_gu))]) := by
  refine MVof (by decide) (Nat.le_of_ble_eq_true rfl) ?_
  intro p e s m below meth c A ls H locs hcx hA hP hD hS hl
  obtain ⟨hx, hb, hml, hr, hlocks, hown, hts, hE, hnm⟩ := id hcx
  have hown : s.vm.findClass RX11 = some m.cls := hown
  have hK := hE.1
  have hl : lv_has ls 8 [(0, .ref h0)] := hl
  refine lv_iconst (v := 1) hx hb dX11_layPairs_0 (by decide) ?_
  refine lv_istore_n (lv' := [(1, .int 1), (0, .ref h0)]) hx hb dX11_layPairs_1 rfl hl (by decide) rfl (fun ls hl => ?_)
  refine lv_iload_n hx hb dX11_layPairs_2 rfl (lv_at hl 0 rfl) ?_
  refine lv_aload_n hx hb dX11_layPairs_3 rfl (lv_at hl 1 rfl) ?_
  refine kI (wc := [(h0, .inr (11, fs)), (gu, .inl (gI g, 2, .inl f_gu))]) (wr := []) (rV (As := []) (rest := [.int 1]) (meth2 := "") hcx (c_X11_full (hl_fs) (h_fs_guilds) (h_fs_bank) (h_f_gu_0) H.size) (gdV q15_6 q15_7 q15_8 q1_5 q15_9) dvX11_full ⟨Nat.le_of_ble_eq_true rfl, Nat.le_of_ble_eq_true rfl⟩ (hP.sub [0, 1] rfl) (hD.sub [0, 1] (by decide) rfl) (va_recv hK hP (ci := 11) (q0 := 0) rfl rfl) rfl hl.1 rfl (Nat.le_of_ble_eq_true rfl) dX11_layPairs_4 ⟨Nat.le_of_ble_eq_true rfl, Nat.le_of_ble_eq_true rfl⟩) hP hD hS hA [0, 1] [] rfl rfl (by decide) (by decide) (fun r W' H locs hw hP hD hS => ?_)
  obtain ⟨rfl, rfl⟩ := hw
  have hP : va_P g.1 vwCl [(h0, .inr (11, fs)), (gu, .inl (gI g, 2, .inl f_gu))] H := hP
  have hD : va_D A [(h0, .inr (11, fs)), (gu, .inl (gI g, 2, .inl f_gu))] := hD
  refine lv_icmp_gt (tgt := 225) hx hb dX11_layPairs_7 (by decide) (fun _ => ?_) (fun c1 => absurd (by decide) c1)
  exact xv hx hb hr hlocks hP hD hS rfl (Nat.le_of_ble_eq_true rfl) (Nat.le_of_ble_eq_true rfl) dX11_layPairs_225
