theorem i_in3 {x : Int32} (h : ¬ x = 0 ∧ ¬ x = 1 ∧ ¬ x = 2) (h0 : ¬ x < 0) (h2 : ¬ (2 : Int32) < x) : False := by
  obtain ⟨j, hj, rfl⟩ := nI_of h0
  have h4 : ¬ 2 < j := fun q => h2 ((nI_ltI (by decide) hj).mpr q)
  rcases (show j = 0 ∨ j = 1 ∨ j = 2 by omega) with rfl | rfl | rfl
  · exact h.1 rfl
  · exact h.2.1 rfl
  · exact h.2.2 rfl
set_option maxHeartbeats 4000000 in
set_option maxRecDepth 100000 in
theorem c_X11_feed {l : Launch} {g : Gx} {h0 tp : Nat} {p0 : Int32} {p1 : Int32} {p2 : Int32} {p3 : Int32} {p4 : Int32} {fs : List Value} {f_tp : Nat → Int32} (hl_fs : fs.length = 69) (h_fs_tape : fs[0]? = some (Value.ref tp)) (h_fs_taped : fs[2]? = some (Value.int 0)) : MI l g yX11_feed cX11_feed 8 (some .int) 2 0 0 [.ref h0, .int p0, .int p1, .int p2, .int p3, .int p4] [(h0, .inr (11, fs)), (tp, .inl (gB g, 1620, .inl f_tp))] (fun r W' => 20 = r ∧ W' = []) := by
  refine MIof (by decide) (Nat.le_of_ble_eq_true rfl) ?_
  intro p e s m below meth c A ls H locs hcx hA hP hD hS hl
  obtain ⟨hx, hb, hml, hr, hlocks, hown, hts, hE, hnm⟩ := id hcx
  have hown : s.vm.findClass RX11 = some m.cls := hown
  have hK := hE.1
  have hl : lv_has ls 8 [(0, .ref h0), (1, .int p0), (2, .int p1), (3, .int p2), (4, .int p3), (5, .int p4)] := hl
  refine lv_aload_n hx hb dX11_feed_0 rfl (lv_at hl 0 rfl) ?_
  refine va_get (D := g.1) (ci := 11) (v := Value.int 0) (C := RX11) (T := TX11) (N := 69) hx hb hts inlX11 hown hK hP 0 rfl rfl 2 (by decide) (hts _ q15_23) (fun _ h9 => h9) h_fs_taped dX11_feed_1 ?_
  refine lv_bipush (v := 20) hx hb dX11_feed_4 (by decide) ?_
  refine lv_iadd hx hb dX11_feed_6 ?_
  refine lv_tope (y := 20) (by decide) ?_
  refine lv_sipush (v := 1600) hx hb dX11_feed_7 (by decide) ?_
  refine lv_icmp_le (tgt := 15) hx hb dX11_feed_10 (by decide) (fun _ => ?_) (fun c1 => absurd (by decide) c1)
  refine lv_iconst (v := 0) hx hb dX11_feed_15 (by decide) ?_
  refine lv_istore (lv' := [(6, .int 0), (0, .ref h0), (1, .int p0), (2, .int p1), (3, .int p2), (4, .int p3), (5, .int p4)]) hx hb dX11_feed_16 hl (by decide) rfl (fun ls hl => ?_)
  have loop3 : ∀ (n k : Nat), k + n = 20 → ∀ (H : Heap) (locs : List Loc) (ls : Array Slot) (f2 : Nat → Int32), va_P g.1 vwCl [(h0, .inr (11, fs)), (tp, .inl (gB g, 1620, .inl f2))] H → va_D A [(h0, .inr (11, fs)), (tp, .inl (gB g, 1620, .inl f2))] → va_S A s.heap H locs → lv_has ls 8 [(6, .int (nI k)), (0, .ref h0), (1, .int p0), (2, .int p1), (3, .int p2), (4, .int p3), (5, .int p4)] → W p l e (rmD 2 0 0) s m ([Value.ref h0, Value.int p0, Value.int p1, Value.int p2, Value.int p3, Value.int p4] : List Value).toArray below meth c H locs 0 0 (MQ below (QI g A (fun r W' => 20 = r ∧ W' = [])) ([Value.ref h0, Value.int p0, Value.int p1, Value.int p2, Value.int p3, Value.int p4] : List Value).toArray s 0 0 A) (F0 m 18 ls []) := by
    intro n
    induction n with
    | zero =>
      intro k hk H locs ls f2 hP hD hS hl
      obtain rfl : k = 20 := by omega
      refine lv_iload hx hb dX11_feed_18 (lv_at hl 0 rfl) ?_
      refine lv_bipush (v := 20) hx hb dX11_feed_20 (by decide) ?_
      refine lv_icmp_ge (tgt := 105) hx hb dX11_feed_22 (by decide) (fun _ => ?_) (fun c4 => absurd (by decide) c4)
      refine lv_aload_n hx hb dX11_feed_105 rfl (lv_at hl 1 rfl) ?_
      refine lv_dup hx hb dX11_feed_106 rfl ?_
      refine va_get (D := g.1) (ci := 11) (v := Value.int 0) (C := RX11) (T := TX11) (N := 69) hx hb hts inlX11 hown hK hP 0 rfl rfl 2 (by decide) (hts _ q15_23) (fun _ h9 => h9) h_fs_taped dX11_feed_107 ?_
      refine lv_bipush (v := 20) hx hb dX11_feed_110 (by decide) ?_
      refine lv_iadd hx hb dX11_feed_112 ?_
      refine lv_tope (y := 20) (by decide) ?_
      refine va_put (D := g.1) (ci := 11) (v := Value.int 20) (ty := .int) (C := RX11) (T := TX11) (N := 69) hx hb hts inlX11 tyX11 tyX11_ok nmX11 hown hK hP hD hS 0 rfl rfl 2 (by decide) (hts _ q15_23) (fun _ h9 => h9) rfl (by decide +kernel) rfl rfl (by simp [hl_fs]) dX11_feed_113 (fun H locs hP hD hS => ?_)
      have hP : va_P g.1 vwCl [(h0, .inr (11, (fs.set 2 (.int 20)))), (tp, .inl (gB g, 1620, .inl f2))] H := hP
      have hD : va_D A [(h0, .inr (11, (fs.set 2 (.int 20)))), (tp, .inl (gB g, 1620, .inl f2))] := hD
      refine lv_aload_n hx hb dX11_feed_116 rfl (lv_at hl 1 rfl) ?_
      refine va_get (D := g.1) (ci := 11) (v := Value.int 20) (C := RX11) (T := TX11) (N := 69) hx hb hts inlX11 hown hK hP 0 rfl rfl 2 (by decide) (hts _ q15_23) (fun _ h9 => h9) (List.getElem?_set_self (by simp [hl_fs])) dX11_feed_117 ?_
      have hP9 : va_P g.1 vwCl [] H := hP.sub [] rfl
      have hD9 : va_D A [] := hD.sub [] (by decide) rfl
      exact xi hx hb hr hlocks rfl hP9 hD9 hS ⟨rfl, rfl⟩ (Nat.le_of_ble_eq_true rfl) (Nat.le_of_ble_eq_true rfl) dX11_feed_120
    | succ n ih =>
      intro k hk H locs ls f2 hP hD hS hl
      have hkN : k < 20 := by omega
      refine lv_iload hx hb dX11_feed_18 (lv_at hl 0 rfl) ?_
      refine lv_bipush (v := 20) hx hb dX11_feed_20 (by decide) ?_
      refine lv_icmp_ge (tgt := 105) hx hb dX11_feed_22 (by decide) (fun c5 => absurd c5 (nI_ge (b := 20) hkN (by decide))) (fun _ => ?_)
      refine lv_iload hx hb dX11_feed_25 (lv_at hl 0 rfl) ?_
      refine lv_iconst (v := 4) hx hb dX11_feed_27 (by decide) ?_
      refine lv_icmp_ge (tgt := 35) hx hb dX11_feed_28 (by decide) (fun c6 => ?_) (fun c6 => ?_)
      · refine lv_iload hx hb dX11_feed_35 (lv_at hl 0 rfl) ?_
        refine lv_bipush (v := 8) hx hb dX11_feed_37 (by decide) ?_
        refine lv_icmp_ge (tgt := 46) hx hb dX11_feed_39 (by decide) (fun c7 => ?_) (fun c7 => ?_)
        · refine lv_iload hx hb dX11_feed_46 (lv_at hl 0 rfl) ?_
          refine lv_bipush (v := 12) hx hb dX11_feed_48 (by decide) ?_
          refine lv_icmp_ge (tgt := 57) hx hb dX11_feed_50 (by decide) (fun c8 => ?_) (fun c8 => ?_)
          · refine lv_iload hx hb dX11_feed_57 (lv_at hl 0 rfl) ?_
            refine lv_bipush (v := 16) hx hb dX11_feed_59 (by decide) ?_
            refine lv_icmp_ge (tgt := 69) hx hb dX11_feed_61 (by decide) (fun c9 => ?_) (fun c9 => ?_)
            · refine lv_iload hx hb dX11_feed_69 (lv_at hl 6 rfl) ?_
              refine lv_istore (lv' := [(7, .int p4), (6, .int (nI k)), (0, .ref h0), (1, .int p0), (2, .int p1), (3, .int p2), (4, .int p3), (5, .int p4)]) hx hb dX11_feed_71 hl (by decide) rfl (fun ls hl => ?_)
              refine lv_aload_n hx hb dX11_feed_73 rfl (lv_at hl 2 rfl) ?_
              refine va_get (D := g.1) (ci := 11) (v := Value.ref tp) (C := RX11) (T := TX11) (N := 69) hx hb hts inlX11 hown hK hP 0 rfl rfl 0 (by decide) (hts _ q12_15) (fun _ h9 => h9) h_fs_tape dX11_feed_74 ?_
              refine lv_aload_n hx hb dX11_feed_77 rfl (lv_at hl 2 rfl) ?_
              refine va_get (D := g.1) (ci := 11) (v := Value.int 0) (C := RX11) (T := TX11) (N := 69) hx hb hts inlX11 hown hK hP 0 rfl rfl 2 (by decide) (hts _ q15_23) (fun _ h9 => h9) h_fs_taped dX11_feed_78 ?_
              refine lv_iload hx hb dX11_feed_81 (lv_at hl 1 rfl) ?_
              refine lv_iadd hx hb dX11_feed_83 ?_
              refine lv_tope (y := (nI (0 + k))) (nI_add (0) (k)) ?_
              refine lv_iload hx hb dX11_feed_84 (lv_at hl 0 rfl) ?_
              refine lv_bipush (v := 24) hx hb dX11_feed_86 (by decide) ?_
              refine lv_bipush (v := 8) hx hb dX11_feed_88 (by decide) ?_
              refine lv_iload hx hb dX11_feed_90 (lv_at hl 1 rfl) ?_
              refine lv_iconst (v := 3) hx hb dX11_feed_92 (by decide) ?_
              refine lv_iand hx hb dX11_feed_93 ?_
              refine lv_topi (fun x10 ex10 => ?_)
              refine lv_imul hx hb dX11_feed_94 ?_
              refine lv_topi (fun x11 ex11 => ?_)
              refine lv_isub hx hb dX11_feed_95 ?_
              refine lv_topi (fun x12 ex12 => ?_)
              refine lv_ishr hx hb dX11_feed_96 ?_
              refine lv_topi (fun x13 ex13 => ?_)
              refine lv_i2b hx hb dX11_feed_97 rfl ?_
              refine lv_topi (fun x14 ex14 => ?_)
              refine ba_st hx hb hK hP hD hS 1 0 rfl rfl (0 + k) rfl (by omega) (by decide) dX11_feed_98 (fun f15 H locs ef15 hP hD hS => ?_)
              have hP : va_P g.1 vwCl [(h0, .inr (11, fs)), (tp, .inl (gB g, 1620, .inl f15))] H := hP
              have hD : va_D A [(h0, .inr (11, fs)), (tp, .inl (gB g, 1620, .inl f15))] := hD
              refine lv_iinc (v := (nI (k + 1))) (lv' := [(6, .int (nI (k + 1))), (7, .int p4), (0, .ref h0), (1, .int p0), (2, .int p1), (3, .int p2), (4, .int p3), (5, .int p4)]) hx hb dX11_feed_99 hl (k := 1) rfl (nI_1 _) (by decide) rfl (fun ls hl => ?_)
              refine lv_goto (tgt := 18) hx hb dX11_feed_102 (by decide) ?_
              exact ih (k + 1) (by omega) H locs ls _ hP hD hS (lv_sub hl [0, 2, 3, 4, 5, 6, 7] rfl)
            · refine lv_iload hx hb dX11_feed_64 (lv_at hl 5 rfl) ?_
              refine lv_goto (tgt := 71) hx hb dX11_feed_66 (by decide) ?_
              refine lv_istore (lv' := [(7, .int p3), (6, .int (nI k)), (0, .ref h0), (1, .int p0), (2, .int p1), (3, .int p2), (4, .int p3), (5, .int p4)]) hx hb dX11_feed_71 hl (by decide) rfl (fun ls hl => ?_)
              refine lv_aload_n hx hb dX11_feed_73 rfl (lv_at hl 2 rfl) ?_
              refine va_get (D := g.1) (ci := 11) (v := Value.ref tp) (C := RX11) (T := TX11) (N := 69) hx hb hts inlX11 hown hK hP 0 rfl rfl 0 (by decide) (hts _ q12_15) (fun _ h9 => h9) h_fs_tape dX11_feed_74 ?_
              refine lv_aload_n hx hb dX11_feed_77 rfl (lv_at hl 2 rfl) ?_
              refine va_get (D := g.1) (ci := 11) (v := Value.int 0) (C := RX11) (T := TX11) (N := 69) hx hb hts inlX11 hown hK hP 0 rfl rfl 2 (by decide) (hts _ q15_23) (fun _ h9 => h9) h_fs_taped dX11_feed_78 ?_
              refine lv_iload hx hb dX11_feed_81 (lv_at hl 1 rfl) ?_
              refine lv_iadd hx hb dX11_feed_83 ?_
              refine lv_tope (y := (nI (0 + k))) (nI_add (0) (k)) ?_
              refine lv_iload hx hb dX11_feed_84 (lv_at hl 0 rfl) ?_
              refine lv_bipush (v := 24) hx hb dX11_feed_86 (by decide) ?_
              refine lv_bipush (v := 8) hx hb dX11_feed_88 (by decide) ?_
              refine lv_iload hx hb dX11_feed_90 (lv_at hl 1 rfl) ?_
              refine lv_iconst (v := 3) hx hb dX11_feed_92 (by decide) ?_
              refine lv_iand hx hb dX11_feed_93 ?_
              refine lv_topi (fun x16 ex16 => ?_)
              refine lv_imul hx hb dX11_feed_94 ?_
              refine lv_topi (fun x17 ex17 => ?_)
              refine lv_isub hx hb dX11_feed_95 ?_
              refine lv_topi (fun x18 ex18 => ?_)
              refine lv_ishr hx hb dX11_feed_96 ?_
              refine lv_topi (fun x19 ex19 => ?_)
              refine lv_i2b hx hb dX11_feed_97 rfl ?_
              refine lv_topi (fun x20 ex20 => ?_)
              refine ba_st hx hb hK hP hD hS 1 0 rfl rfl (0 + k) rfl (by omega) (by decide) dX11_feed_98 (fun f21 H locs ef21 hP hD hS => ?_)
              have hP : va_P g.1 vwCl [(h0, .inr (11, fs)), (tp, .inl (gB g, 1620, .inl f21))] H := hP
              have hD : va_D A [(h0, .inr (11, fs)), (tp, .inl (gB g, 1620, .inl f21))] := hD
              refine lv_iinc (v := (nI (k + 1))) (lv' := [(6, .int (nI (k + 1))), (7, .int p3), (0, .ref h0), (1, .int p0), (2, .int p1), (3, .int p2), (4, .int p3), (5, .int p4)]) hx hb dX11_feed_99 hl (k := 1) rfl (nI_1 _) (by decide) rfl (fun ls hl => ?_)
              refine lv_goto (tgt := 18) hx hb dX11_feed_102 (by decide) ?_
              exact ih (k + 1) (by omega) H locs ls _ hP hD hS (lv_sub hl [0, 2, 3, 4, 5, 6, 7] rfl)
          · refine lv_iload_n hx hb dX11_feed_53 rfl (lv_at hl 4 rfl) ?_
            refine lv_goto (tgt := 71) hx hb dX11_feed_54 (by decide) ?_
            refine lv_istore (lv' := [(7, .int p2), (6, .int (nI k)), (0, .ref h0), (1, .int p0), (2, .int p1), (3, .int p2), (4, .int p3), (5, .int p4)]) hx hb dX11_feed_71 hl (by decide) rfl (fun ls hl => ?_)
            refine lv_aload_n hx hb dX11_feed_73 rfl (lv_at hl 2 rfl) ?_
            refine va_get (D := g.1) (ci := 11) (v := Value.ref tp) (C := RX11) (T := TX11) (N := 69) hx hb hts inlX11 hown hK hP 0 rfl rfl 0 (by decide) (hts _ q12_15) (fun _ h9 => h9) h_fs_tape dX11_feed_74 ?_
            refine lv_aload_n hx hb dX11_feed_77 rfl (lv_at hl 2 rfl) ?_
            refine va_get (D := g.1) (ci := 11) (v := Value.int 0) (C := RX11) (T := TX11) (N := 69) hx hb hts inlX11 hown hK hP 0 rfl rfl 2 (by decide) (hts _ q15_23) (fun _ h9 => h9) h_fs_taped dX11_feed_78 ?_
            refine lv_iload hx hb dX11_feed_81 (lv_at hl 1 rfl) ?_
            refine lv_iadd hx hb dX11_feed_83 ?_
            refine lv_tope (y := (nI (0 + k))) (nI_add (0) (k)) ?_
            refine lv_iload hx hb dX11_feed_84 (lv_at hl 0 rfl) ?_
            refine lv_bipush (v := 24) hx hb dX11_feed_86 (by decide) ?_
            refine lv_bipush (v := 8) hx hb dX11_feed_88 (by decide) ?_
            refine lv_iload hx hb dX11_feed_90 (lv_at hl 1 rfl) ?_
            refine lv_iconst (v := 3) hx hb dX11_feed_92 (by decide) ?_
            refine lv_iand hx hb dX11_feed_93 ?_
            refine lv_topi (fun x22 ex22 => ?_)
            refine lv_imul hx hb dX11_feed_94 ?_
            refine lv_topi (fun x23 ex23 => ?_)
            refine lv_isub hx hb dX11_feed_95 ?_
            refine lv_topi (fun x24 ex24 => ?_)
            refine lv_ishr hx hb dX11_feed_96 ?_
            refine lv_topi (fun x25 ex25 => ?_)
            refine lv_i2b hx hb dX11_feed_97 rfl ?_
            refine lv_topi (fun x26 ex26 => ?_)
            refine ba_st hx hb hK hP hD hS 1 0 rfl rfl (0 + k) rfl (by omega) (by decide) dX11_feed_98 (fun f27 H locs ef27 hP hD hS => ?_)
            have hP : va_P g.1 vwCl [(h0, .inr (11, fs)), (tp, .inl (gB g, 1620, .inl f27))] H := hP
            have hD : va_D A [(h0, .inr (11, fs)), (tp, .inl (gB g, 1620, .inl f27))] := hD
            refine lv_iinc (v := (nI (k + 1))) (lv' := [(6, .int (nI (k + 1))), (7, .int p2), (0, .ref h0), (1, .int p0), (2, .int p1), (3, .int p2), (4, .int p3), (5, .int p4)]) hx hb dX11_feed_99 hl (k := 1) rfl (nI_1 _) (by decide) rfl (fun ls hl => ?_)
            refine lv_goto (tgt := 18) hx hb dX11_feed_102 (by decide) ?_
            exact ih (k + 1) (by omega) H locs ls _ hP hD hS (lv_sub hl [0, 2, 3, 4, 5, 6, 7] rfl)
        · refine lv_iload_n hx hb dX11_feed_42 rfl (lv_at hl 3 rfl) ?_
          refine lv_goto (tgt := 71) hx hb dX11_feed_43 (by decide) ?_
          refine lv_istore (lv' := [(7, .int p1), (6, .int (nI k)), (0, .ref h0), (1, .int p0), (2, .int p1), (3, .int p2), (4, .int p3), (5, .int p4)]) hx hb dX11_feed_71 hl (by decide) rfl (fun ls hl => ?_)
          refine lv_aload_n hx hb dX11_feed_73 rfl (lv_at hl 2 rfl) ?_
          refine va_get (D := g.1) (ci := 11) (v := Value.ref tp) (C := RX11) (T := TX11) (N := 69) hx hb hts inlX11 hown hK hP 0 rfl rfl 0 (by decide) (hts _ q12_15) (fun _ h9 => h9) h_fs_tape dX11_feed_74 ?_
          refine lv_aload_n hx hb dX11_feed_77 rfl (lv_at hl 2 rfl) ?_
          refine va_get (D := g.1) (ci := 11) (v := Value.int 0) (C := RX11) (T := TX11) (N := 69) hx hb hts inlX11 hown hK hP 0 rfl rfl 2 (by decide) (hts _ q15_23) (fun _ h9 => h9) h_fs_taped dX11_feed_78 ?_
          refine lv_iload hx hb dX11_feed_81 (lv_at hl 1 rfl) ?_
          refine lv_iadd hx hb dX11_feed_83 ?_
          refine lv_tope (y := (nI (0 + k))) (nI_add (0) (k)) ?_
          refine lv_iload hx hb dX11_feed_84 (lv_at hl 0 rfl) ?_
          refine lv_bipush (v := 24) hx hb dX11_feed_86 (by decide) ?_
          refine lv_bipush (v := 8) hx hb dX11_feed_88 (by decide) ?_
          refine lv_iload hx hb dX11_feed_90 (lv_at hl 1 rfl) ?_
          refine lv_iconst (v := 3) hx hb dX11_feed_92 (by decide) ?_
          refine lv_iand hx hb dX11_feed_93 ?_
          refine lv_topi (fun x28 ex28 => ?_)
          refine lv_imul hx hb dX11_feed_94 ?_
          refine lv_topi (fun x29 ex29 => ?_)
          refine lv_isub hx hb dX11_feed_95 ?_
          refine lv_topi (fun x30 ex30 => ?_)
          refine lv_ishr hx hb dX11_feed_96 ?_
          refine lv_topi (fun x31 ex31 => ?_)
          refine lv_i2b hx hb dX11_feed_97 rfl ?_
          refine lv_topi (fun x32 ex32 => ?_)
          refine ba_st hx hb hK hP hD hS 1 0 rfl rfl (0 + k) rfl (by omega) (by decide) dX11_feed_98 (fun f33 H locs ef33 hP hD hS => ?_)
          have hP : va_P g.1 vwCl [(h0, .inr (11, fs)), (tp, .inl (gB g, 1620, .inl f33))] H := hP
          have hD : va_D A [(h0, .inr (11, fs)), (tp, .inl (gB g, 1620, .inl f33))] := hD
          refine lv_iinc (v := (nI (k + 1))) (lv' := [(6, .int (nI (k + 1))), (7, .int p1), (0, .ref h0), (1, .int p0), (2, .int p1), (3, .int p2), (4, .int p3), (5, .int p4)]) hx hb dX11_feed_99 hl (k := 1) rfl (nI_1 _) (by decide) rfl (fun ls hl => ?_)
          refine lv_goto (tgt := 18) hx hb dX11_feed_102 (by decide) ?_
          exact ih (k + 1) (by omega) H locs ls _ hP hD hS (lv_sub hl [0, 2, 3, 4, 5, 6, 7] rfl)
      · refine lv_iload_n hx hb dX11_feed_31 rfl (lv_at hl 2 rfl) ?_
        refine lv_goto (tgt := 71) hx hb dX11_feed_32 (by decide) ?_
        refine lv_istore (lv' := [(7, .int p0), (6, .int (nI k)), (0, .ref h0), (1, .int p0), (2, .int p1), (3, .int p2), (4, .int p3), (5, .int p4)]) hx hb dX11_feed_71 hl (by decide) rfl (fun ls hl => ?_)
        refine lv_aload_n hx hb dX11_feed_73 rfl (lv_at hl 2 rfl) ?_
        refine va_get (D := g.1) (ci := 11) (v := Value.ref tp) (C := RX11) (T := TX11) (N := 69) hx hb hts inlX11 hown hK hP 0 rfl rfl 0 (by decide) (hts _ q12_15) (fun _ h9 => h9) h_fs_tape dX11_feed_74 ?_
        refine lv_aload_n hx hb dX11_feed_77 rfl (lv_at hl 2 rfl) ?_
        refine va_get (D := g.1) (ci := 11) (v := Value.int 0) (C := RX11) (T := TX11) (N := 69) hx hb hts inlX11 hown hK hP 0 rfl rfl 2 (by decide) (hts _ q15_23) (fun _ h9 => h9) h_fs_taped dX11_feed_78 ?_
        refine lv_iload hx hb dX11_feed_81 (lv_at hl 1 rfl) ?_
        refine lv_iadd hx hb dX11_feed_83 ?_
        refine lv_tope (y := (nI (0 + k))) (nI_add (0) (k)) ?_
        refine lv_iload hx hb dX11_feed_84 (lv_at hl 0 rfl) ?_
        refine lv_bipush (v := 24) hx hb dX11_feed_86 (by decide) ?_
        refine lv_bipush (v := 8) hx hb dX11_feed_88 (by decide) ?_
        refine lv_iload hx hb dX11_feed_90 (lv_at hl 1 rfl) ?_
        refine lv_iconst (v := 3) hx hb dX11_feed_92 (by decide) ?_
        refine lv_iand hx hb dX11_feed_93 ?_
        refine lv_topi (fun x34 ex34 => ?_)
        refine lv_imul hx hb dX11_feed_94 ?_
        refine lv_topi (fun x35 ex35 => ?_)
        refine lv_isub hx hb dX11_feed_95 ?_
        refine lv_topi (fun x36 ex36 => ?_)
        refine lv_ishr hx hb dX11_feed_96 ?_
        refine lv_topi (fun x37 ex37 => ?_)
        refine lv_i2b hx hb dX11_feed_97 rfl ?_
        refine lv_topi (fun x38 ex38 => ?_)
        refine ba_st hx hb hK hP hD hS 1 0 rfl rfl (0 + k) rfl (by omega) (by decide) dX11_feed_98 (fun f39 H locs ef39 hP hD hS => ?_)
        have hP : va_P g.1 vwCl [(h0, .inr (11, fs)), (tp, .inl (gB g, 1620, .inl f39))] H := hP
        have hD : va_D A [(h0, .inr (11, fs)), (tp, .inl (gB g, 1620, .inl f39))] := hD
        refine lv_iinc (v := (nI (k + 1))) (lv' := [(6, .int (nI (k + 1))), (7, .int p0), (0, .ref h0), (1, .int p0), (2, .int p1), (3, .int p2), (4, .int p3), (5, .int p4)]) hx hb dX11_feed_99 hl (k := 1) rfl (nI_1 _) (by decide) rfl (fun ls hl => ?_)
        refine lv_goto (tgt := 18) hx hb dX11_feed_102 (by decide) ?_
        exact ih (k + 1) (by omega) H locs ls _ hP hD hS (lv_sub hl [0, 2, 3, 4, 5, 6, 7] rfl)
  exact loop3 20 0 rfl H locs ls _ hP hD hS hl

set_option maxHeartbeats 4000000 in
set_option maxRecDepth 100000 in
theorem c_X11_end {l : Launch} {g : Gx} {h0 : Nat} {p0 : Int32} {fs : List Value} (hl_fs : fs.length = 69) (h_fs_taped : fs[2]? = some (Value.int 0)) : MI l g yX11_end cX11_end 2 (some .int) 2 0 0 [.ref h0, .int p0] [(h0, .inr (11, fs))] (fun r W' => r = sp_end p0 ∧ W' = []) := by
  refine MIof (by decide) (Nat.le_of_ble_eq_true rfl) ?_
  intro p e s m below meth c A ls H locs hcx hA hP hD hS hl
  obtain ⟨hx, hb, hml, hr, hlocks, hown, hts, hE, hnm⟩ := id hcx
  have hown : s.vm.findClass RX11 = some m.cls := hown
  have hK := hE.1
  have hl : lv_has ls 2 [(0, .ref h0), (1, .int p0)] := hl
  refine lv_iload_n hx hb dX11_end_0 rfl (lv_at hl 1 rfl) ?_
  refine lv_if_lt (tgt := 12) hx hb dX11_end_1 (by decide) (fun c1 => ?_) (fun c1 => ?_)
  · refine lv_iconst (v := (-1)) hx hb dX11_end_12 (by decide) ?_
    have hP9 : va_P g.1 vwCl [] H := hP.sub [] rfl
    have hD9 : va_D A [] := hD.sub [] (by decide) rfl
    exact xi hx hb hr hlocks rfl hP9 hD9 hS ⟨(by rw [sp_end, if_pos (Or.inl c1)]), rfl⟩ (Nat.le_of_ble_eq_true rfl) (Nat.le_of_ble_eq_true rfl) dX11_end_13
  · refine lv_iload_n hx hb dX11_end_4 rfl (lv_at hl 1 rfl) ?_
    refine lv_aload_n hx hb dX11_end_5 rfl (lv_at hl 0 rfl) ?_
    refine va_get (D := g.1) (ci := 11) (v := Value.int 0) (C := RX11) (T := TX11) (N := 69) hx hb hts inlX11 hown hK hP 0 rfl rfl 2 (by decide) (hts _ q15_23) (fun _ h9 => h9) h_fs_taped dX11_end_6 ?_
    refine lv_icmp_le (tgt := 14) hx hb dX11_end_9 (by decide) (fun c2 => ?_) (fun c2 => ?_)
    · refine lv_aload_n hx hb dX11_end_14 rfl (lv_at hl 0 rfl) ?_
      refine lv_iload_n hx hb dX11_end_15 rfl (lv_at hl 1 rfl) ?_
      refine va_put (D := g.1) (ci := 11) (v := Value.int p0) (ty := .int) (C := RX11) (T := TX11) (N := 69) hx hb hts inlX11 tyX11 tyX11_ok nmX11 hown hK hP hD hS 0 rfl rfl 2 (by decide) (hts _ q15_23) (fun _ h9 => h9) rfl (by decide +kernel) rfl rfl (by simp [hl_fs]) dX11_end_16 (fun H locs hP hD hS => ?_)
      have hP : va_P g.1 vwCl [(h0, .inr (11, (fs.set 2 (.int p0))))] H := hP
      have hD : va_D A [(h0, .inr (11, (fs.set 2 (.int p0))))] := hD
      refine lv_iload_n hx hb dX11_end_19 rfl (lv_at hl 1 rfl) ?_
      have hP9 : va_P g.1 vwCl [] H := hP.sub [] rfl
      have hD9 : va_D A [] := hD.sub [] (by decide) rfl
      exact xi hx hb hr hlocks rfl hP9 hD9 hS ⟨(by rw [sp_end, if_neg (fun h => h.elim c1 (fun z => z c2))]), rfl⟩ (Nat.le_of_ble_eq_true rfl) (Nat.le_of_ble_eq_true rfl) dX11_end_20
    · refine lv_iconst (v := (-1)) hx hb dX11_end_12 (by decide) ?_
      have hP9 : va_P g.1 vwCl [] H := hP.sub [] rfl
      have hD9 : va_D A [] := hD.sub [] (by decide) rfl
      exact xi hx hb hr hlocks rfl hP9 hD9 hS ⟨(by rw [sp_end, if_pos (Or.inr c2)]), rfl⟩ (Nat.le_of_ble_eq_true rfl) (Nat.le_of_ble_eq_true rfl) dX11_end_13

set_option maxHeartbeats 4000000 in
set_option maxRecDepth 100000 in
theorem c_X11_fault {l : Launch} {g : Gx} {h0 : Nat} {p0 : Int32} {fs : List Value} (hl_fs : fs.length = 69) (h_fs_faultKind : fs[4]? = some (Value.int 0)) (h_fs_faultPlace : fs[5]? = some (Value.int (-1))) : MI l g yX11_fault cX11_fault 2 (some .int) 2 0 0 [.ref h0, .int p0] [(h0, .inr (11, fs))] (fun r W' => r = sp_fault p0 ∧ W' = []) := by
  refine MIof (by decide) (Nat.le_of_ble_eq_true rfl) ?_
  intro p e s m below meth c A ls H locs hcx hA hP hD hS hl
  obtain ⟨hx, hb, hml, hr, hlocks, hown, hts, hE, hnm⟩ := id hcx
  have hown : s.vm.findClass RX11 = some m.cls := hown
  have hK := hE.1
  have hl : lv_has ls 2 [(0, .ref h0), (1, .int p0)] := hl
  refine lv_iload_n hx hb dX11_fault_0 rfl (lv_at hl 1 rfl) ?_
  refine lv_if_ne (tgt := 11) hx hb dX11_fault_1 (by decide) (fun c1 => ?_) (fun c1 => ?_)
  · refine lv_iload_n hx hb dX11_fault_11 rfl (lv_at hl 1 rfl) ?_
    refine lv_iconst (v := 1) hx hb dX11_fault_12 (by decide) ?_
    refine lv_icmp_ne (tgt := 23) hx hb dX11_fault_13 (by decide) (fun c2 => ?_) (fun c2 => ?_)
    · refine lv_iconst (v := (-1)) hx hb dX11_fault_23 (by decide) ?_
      have hP9 : va_P g.1 vwCl [] H := hP.sub [] rfl
      have hD9 : va_D A [] := hD.sub [] (by decide) rfl
      exact xi hx hb hr hlocks rfl hP9 hD9 hS ⟨(by simp [sp_fault, c1, c2]), rfl⟩ (Nat.le_of_ble_eq_true rfl) (Nat.le_of_ble_eq_true rfl) dX11_fault_24
    · refine lv_aload_n hx hb dX11_fault_16 rfl (lv_at hl 0 rfl) ?_
      refine va_get (D := g.1) (ci := 11) (v := Value.int (-1)) (C := RX11) (T := TX11) (N := 69) hx hb hts inlX11 hown hK hP 0 rfl rfl 5 (by decide) (hts _ q12_17) (fun _ h9 => h9) h_fs_faultPlace dX11_fault_17 ?_
      refine lv_goto (tgt := 24) hx hb dX11_fault_20 (by decide) ?_
      have hP9 : va_P g.1 vwCl [] H := hP.sub [] rfl
      have hD9 : va_D A [] := hD.sub [] (by decide) rfl
      exact xi hx hb hr hlocks rfl hP9 hD9 hS ⟨(by simp [sp_fault, c1, c2]), rfl⟩ (Nat.le_of_ble_eq_true rfl) (Nat.le_of_ble_eq_true rfl) dX11_fault_24
  · refine lv_aload_n hx hb dX11_fault_4 rfl (lv_at hl 0 rfl) ?_
    refine va_get (D := g.1) (ci := 11) (v := Value.int 0) (C := RX11) (T := TX11) (N := 69) hx hb hts inlX11 hown hK hP 0 rfl rfl 4 (by decide) (hts _ q25_18) (fun _ h9 => h9) h_fs_faultKind dX11_fault_5 ?_
    refine lv_goto (tgt := 24) hx hb dX11_fault_8 (by decide) ?_
    have hP9 : va_P g.1 vwCl [] H := hP.sub [] rfl
    have hD9 : va_D A [] := hD.sub [] (by decide) rfl
    exact xi hx hb hr hlocks rfl hP9 hD9 hS ⟨(by simp [sp_fault, c1]), rfl⟩ (Nat.le_of_ble_eq_true rfl) (Nat.le_of_ble_eq_true rfl) dX11_fault_24

set_option maxHeartbeats 4000000 in
set_option maxRecDepth 100000 in
theorem c_X11_guild {l : Launch} {g : Gx} {h0 gu : Nat} {p0 : Int32} {p1 : Int32} {fs : List Value} {f_gu : Nat → Int32} (hl_fs : fs.length = 69) (h_fs_guilds : fs[12]? = some (Value.ref gu)) (h_fs_bank : fs[34]? = some (Value.int 0)) (h_f_gu_0 : f_gu 0 = 0) : MI l g yX11_guild cX11_guild 3 (some .int) 4 0 0 [.ref h0, .int p0, .int p1] [(h0, .inr (11, fs)), (gu, .inl (gI g, 2, .inl f_gu))] (fun r W' => (-2) = r ∧ W' = []) := by
  refine MIof (by decide) (Nat.le_of_ble_eq_true rfl) ?_
  intro p e s m below meth c A ls H locs hcx hA hP hD hS hl
  obtain ⟨hx, hb, hml, hr, hlocks, hown, hts, hE, hnm⟩ := id hcx
  have hown : s.vm.findClass RX11 = some m.cls := hown
  have hK := hE.1
  have hl : lv_has ls 3 [(0, .ref h0), (1, .int p0), (2, .int p1)] := hl
  refine lv_aload_n hx hb dX11_guild_0 rfl (lv_at hl 0 rfl) ?_
  refine lv_iload_n hx hb dX11_guild_1 rfl (lv_at hl 1 rfl) ?_
  refine kI (wc := [(h0, .inr (11, fs)), (gu, .inl (gI g, 2, .inl f_gu))]) (wr := []) (rV (As := [.int p0]) (rest := []) (meth2 := "") hcx (c_X11_isGuild (hl_fs) (h_fs_guilds) (h_fs_bank) (h_f_gu_0) H.size) (gdV q34_13 q34_14 q34_15 q1_5 q34_16) dvX11_isGuild ⟨Nat.le_of_ble_eq_true rfl, Nat.le_of_ble_eq_true rfl⟩ (hP.sub [0, 1] rfl) (hD.sub [0, 1] (by decide) rfl) (va_recv hK hP (ci := 11) (q0 := 0) rfl rfl) rfl hl.1 rfl (Nat.le_of_ble_eq_true rfl) dX11_guild_2 ⟨Nat.le_of_ble_eq_true rfl, Nat.le_of_ble_eq_true rfl⟩) hP hD hS hA [0, 1] [] rfl rfl (by decide) (by decide) (fun r W' H locs hw hP hD hS => ?_)
  obtain ⟨rfl, rfl⟩ := hw
  have hP : va_P g.1 vwCl [(h0, .inr (11, fs)), (gu, .inl (gI g, 2, .inl f_gu))] H := hP
  have hD : va_D A [(h0, .inr (11, fs)), (gu, .inl (gI g, 2, .inl f_gu))] := hD
  refine lv_if_ne (tgt := 11) hx hb dX11_guild_5 (by decide) (fun c1 => absurd (by decide) c1) (fun _ => ?_)
  refine lv_bipush (v := (-2)) hx hb dX11_guild_8 (by decide) ?_
  have hP9 : va_P g.1 vwCl [] H := hP.sub [] rfl
  have hD9 : va_D A [] := hD.sub [] (by decide) rfl
  exact xi hx hb hr hlocks rfl hP9 hD9 hS ⟨rfl, rfl⟩ (Nat.le_of_ble_eq_true rfl) (Nat.le_of_ble_eq_true rfl) dX11_guild_10

set_option maxHeartbeats 4000000 in
set_option maxRecDepth 100000 in
theorem c_X11_corner {l : Launch} {g : Gx} {h0 co : Nat} {p0 : Int32} {p1 : Int32} {fs : List Value} {f_co : Nat → Int32} (hl_fs : fs.length = 69) (h_fs_corners : fs[11]? = some (Value.ref co)) (h_fs_bank : fs[34]? = some (Value.int 0)) (h_f_co_0 : f_co 0 = 0) : MI l g yX11_corner cX11_corner 3 (some .int) 3 0 0 [.ref h0, .int p0, .int p1] [(h0, .inr (11, fs)), (co, .inl (gI g, 2, .inl f_co))] (fun r W' => (-1) = r ∧ W' = []) := by
  refine MIof (by decide) (Nat.le_of_ble_eq_true rfl) ?_
  intro p e s m below meth c A ls H locs hcx hA hP hD hS hl
  obtain ⟨hx, hb, hml, hr, hlocks, hown, hts, hE, hnm⟩ := id hcx
  have hown : s.vm.findClass RX11 = some m.cls := hown
  have hK := hE.1
  have hl : lv_has ls 3 [(0, .ref h0), (1, .int p0), (2, .int p1)] := hl
  refine lv_iload_n hx hb dX11_corner_0 rfl (lv_at hl 1 rfl) ?_
  refine lv_iconst (v := 0) hx hb dX11_corner_1 (by decide) ?_
  refine lv_aload_n hx hb dX11_corner_2 rfl (lv_at hl 0 rfl) ?_
  refine kI (wc := [(h0, .inr (11, fs)), (co, .inl (gI g, 2, .inl f_co))]) (wr := []) (rV (As := []) (rest := [.int 0, .int p0]) (meth2 := "") hcx (c_X11_ways (hl_fs) (h_fs_corners) (h_fs_bank) (h_f_co_0) H.size) (gdV q36_17 q36_18 q36_19 q1_5 q36_20) dvX11_ways ⟨Nat.le_of_ble_eq_true rfl, Nat.le_of_ble_eq_true rfl⟩ (hP.sub [0, 1] rfl) (hD.sub [0, 1] (by decide) rfl) (va_recv hK hP (ci := 11) (q0 := 0) rfl rfl) rfl hl.1 rfl (Nat.le_of_ble_eq_true rfl) dX11_corner_3 ⟨Nat.le_of_ble_eq_true rfl, Nat.le_of_ble_eq_true rfl⟩) hP hD hS hA [0, 1] [] rfl rfl (by decide) (by decide) (fun r W' H locs hw hP hD hS => ?_)
  obtain ⟨rfl, rfl⟩ := hw
  have hP : va_P g.1 vwCl [(h0, .inr (11, fs)), (co, .inl (gI g, 2, .inl f_co))] H := hP
  have hD : va_D A [(h0, .inr (11, fs)), (co, .inl (gI g, 2, .inl f_co))] := hD
  refine lv_iconst (v := 1) hx hb dX11_corner_6 (by decide) ?_
  refine lv_isub hx hb dX11_corner_7 ?_
  refine lv_tope (y := (-1)) (by decide) ?_
  refine kI (wc := []) (wr := [(h0, .inr (11, fs)), (co, .inl (gI g, 2, .inl f_co))]) (rS (As := [.int p0, .int 0, .int (-1)]) (rest := []) hcx (c_X11_isIn_none H.size) (gdS q34_17 q34_18 q1_5 q34_19) dvX11_isIn.2 ⟨Nat.le_of_ble_eq_true rfl, Nat.le_of_ble_eq_true rfl⟩ (hP.sub [] rfl) (hD.sub [] (by decide) rfl) rfl hl.1 rfl (Nat.le_of_ble_eq_true rfl) dX11_corner_8 ⟨Nat.le_of_ble_eq_true rfl, Nat.le_of_ble_eq_true rfl⟩) hP hD hS hA [] [0, 1] rfl rfl (by decide) (by decide) (fun r W' H locs hw hP hD hS => ?_)
  obtain ⟨rfl, rfl⟩ := hw
  have hP : va_P g.1 vwCl [(h0, .inr (11, fs)), (co, .inl (gI g, 2, .inl f_co))] H := hP
  have hD : va_D A [(h0, .inr (11, fs)), (co, .inl (gI g, 2, .inl f_co))] := hD
  refine lv_if_ne (tgt := 16) hx hb dX11_corner_11 (by decide) (fun c1 => absurd (by decide) c1) (fun _ => ?_)
  refine lv_iconst (v := (-1)) hx hb dX11_corner_14 (by decide) ?_
  have hP9 : va_P g.1 vwCl [] H := hP.sub [] rfl
  have hD9 : va_D A [] := hD.sub [] (by decide) rfl
  exact xi hx hb hr hlocks rfl hP9 hD9 hS ⟨rfl, rfl⟩ (Nat.le_of_ble_eq_true rfl) (Nat.le_of_ble_eq_true rfl) dX11_corner_15

set_option maxHeartbeats 4000000 in
set_option maxRecDepth 100000 in
theorem c_X11_place {l : Launch} {g : Gx} {h0 gu : Nat} {p0 : Int32} {fs : List Value} {f_gu : Nat → Int32} (hl_fs : fs.length = 69) (h_fs_guilds : fs[12]? = some (Value.ref gu)) (h_fs_bank : fs[34]? = some (Value.int 0)) (h_f_gu_0 : f_gu 0 = 0) : MI l g yX11_place cX11_place 2 (some .int) 4 0 0 [.ref h0, .int p0] [(h0, .inr (11, fs)), (gu, .inl (gI g, 2, .inl f_gu))] (fun r W' => (-1) = r ∧ W' = []) := by
  refine MIof (by decide) (Nat.le_of_ble_eq_true rfl) ?_
  intro p e s m below meth c A ls H locs hcx hA hP hD hS hl
  obtain ⟨hx, hb, hml, hr, hlocks, hown, hts, hE, hnm⟩ := id hcx
  have hown : s.vm.findClass RX11 = some m.cls := hown
  have hK := hE.1
  have hl : lv_has ls 2 [(0, .ref h0), (1, .int p0)] := hl
  refine lv_aload_n hx hb dX11_place_0 rfl (lv_at hl 0 rfl) ?_
  refine lv_iload_n hx hb dX11_place_1 rfl (lv_at hl 1 rfl) ?_
  refine kI (wc := [(h0, .inr (11, fs)), (gu, .inl (gI g, 2, .inl f_gu))]) (wr := []) (rV (As := [.int p0]) (rest := []) (meth2 := "") hcx (c_X11_isGuild (hl_fs) (h_fs_guilds) (h_fs_bank) (h_f_gu_0) H.size) (gdV q34_13 q34_14 q34_15 q1_5 q34_16) dvX11_isGuild ⟨Nat.le_of_ble_eq_true rfl, Nat.le_of_ble_eq_true rfl⟩ (hP.sub [0, 1] rfl) (hD.sub [0, 1] (by decide) rfl) (va_recv hK hP (ci := 11) (q0 := 0) rfl rfl) rfl hl.1 rfl (Nat.le_of_ble_eq_true rfl) dX11_place_2 ⟨Nat.le_of_ble_eq_true rfl, Nat.le_of_ble_eq_true rfl⟩) hP hD hS hA [0, 1] [] rfl rfl (by decide) (by decide) (fun r W' H locs hw hP hD hS => ?_)
  obtain ⟨rfl, rfl⟩ := hw
  have hP : va_P g.1 vwCl [(h0, .inr (11, fs)), (gu, .inl (gI g, 2, .inl f_gu))] H := hP
  have hD : va_D A [(h0, .inr (11, fs)), (gu, .inl (gI g, 2, .inl f_gu))] := hD
  refine lv_if_eq (tgt := 19) hx hb dX11_place_5 (by decide) (fun _ => ?_) (fun c1 => absurd (by decide) c1)
  refine lv_iconst (v := (-1)) hx hb dX11_place_19 (by decide) ?_
  have hP9 : va_P g.1 vwCl [] H := hP.sub [] rfl
  have hD9 : va_D A [] := hD.sub [] (by decide) rfl
  exact xi hx hb hr hlocks rfl hP9 hD9 hS ⟨rfl, rfl⟩ (Nat.le_of_ble_eq_true rfl) (Nat.le_of_ble_eq_true rfl) dX11_place_20

set_option maxHeartbeats 4000000 in
set_option maxRecDepth 100000 in
theorem c_X11_strain {l : Launch} {g : Gx} {h0 gu : Nat} {p0 : Int32} {p1 : Int32} {fs : List Value} {f_gu : Nat → Int32} (hl_fs : fs.length = 69) (h_fs_guilds : fs[12]? = some (Value.ref gu)) (h_fs_bank : fs[34]? = some (Value.int 0)) (h_f_gu_0 : f_gu 0 = 0) : MI l g yX11_strain cX11_strain 3 (some .int) 5 0 0 [.ref h0, .int p0, .int p1] [(h0, .inr (11, fs)), (gu, .inl (gI g, 2, .inl f_gu))] (fun r W' => (-1000000000) = r ∧ W' = []) := by
  refine MIof (by decide) (Nat.le_of_ble_eq_true rfl) ?_
  intro p e s m below meth c A ls H locs hcx hA hP hD hS hl
  obtain ⟨hx, hb, hml, hr, hlocks, hown, hts, hE, hnm⟩ := id hcx
  have hown : s.vm.findClass RX11 = some m.cls := hown
  have hK := hE.1
  have hl : lv_has ls 3 [(0, .ref h0), (1, .int p0), (2, .int p1)] := hl
  refine lv_aload_n hx hb dX11_strain_0 rfl (lv_at hl 0 rfl) ?_
  refine lv_iload_n hx hb dX11_strain_1 rfl (lv_at hl 1 rfl) ?_
  refine kI (wc := [(h0, .inr (11, fs)), (gu, .inl (gI g, 2, .inl f_gu))]) (wr := []) (rV (As := [.int p0]) (rest := []) (meth2 := "") hcx (c_X11_doesBear (hl_fs) (h_fs_guilds) (h_fs_bank) (h_f_gu_0) H.size) (gdV q39_14 q39_15 q39_16 q1_5 q39_17) dvX11_doesBear ⟨Nat.le_of_ble_eq_true rfl, Nat.le_of_ble_eq_true rfl⟩ (hP.sub [0, 1] rfl) (hD.sub [0, 1] (by decide) rfl) (va_recv hK hP (ci := 11) (q0 := 0) rfl rfl) rfl hl.1 rfl (Nat.le_of_ble_eq_true rfl) dX11_strain_2 ⟨Nat.le_of_ble_eq_true rfl, Nat.le_of_ble_eq_true rfl⟩) hP hD hS hA [0, 1] [] rfl rfl (by decide) (by decide) (fun r W' H locs hw hP hD hS => ?_)
  obtain ⟨rfl, rfl⟩ := hw
  have hP : va_P g.1 vwCl [(h0, .inr (11, fs)), (gu, .inl (gI g, 2, .inl f_gu))] H := hP
  have hD : va_D A [(h0, .inr (11, fs)), (gu, .inl (gI g, 2, .inl f_gu))] := hD
  refine lv_if_eq (tgt := 41) hx hb dX11_strain_5 (by decide) (fun _ => ?_) (fun c1 => absurd (by decide) c1)
  refine lv_ldcw hx hb hown (hts _ q39_13) dX11_strain_41 ?_
  have hP9 : va_P g.1 vwCl [] H := hP.sub [] rfl
  have hD9 : va_D A [] := hD.sub [] (by decide) rfl
  exact xi hx hb hr hlocks rfl hP9 hD9 hS ⟨rfl, rfl⟩ (Nat.le_of_ble_eq_true rfl) (Nat.le_of_ble_eq_true rfl) dX11_strain_44

set_option maxHeartbeats 4000000 in
set_option maxRecDepth 100000 in
theorem c_X11_step {l : Launch} {g : Gx} {h0 al co : Nat} {fs : List Value} {f_al : Nat → Int32} {f_co : Nat → Int32} (hl_fs : fs.length = 69) (h_fs_all : fs[46]? = some (Value.ref al)) (h_fs_corners : fs[11]? = some (Value.ref co)) (h_fs_bank : fs[34]? = some (Value.int 0)) (h_f_al_21 : f_al 21 = 0) (h_f_co_0 : f_co 0 = 0) : MI l g yX11_step cX11_step 1 (some .int) 3 0 0 [.ref h0] [(h0, .inr (11, fs)), (al, .inl (gI g, 24, .inl f_al)), (co, .inl (gI g, 2, .inl f_co))] (fun r W' => (-1) = r ∧ W' = []) := by
  refine MIof (by decide) (Nat.le_of_ble_eq_true rfl) ?_
  intro p e s m below meth c A ls H locs hcx hA hP hD hS hl
  obtain ⟨hx, hb, hml, hr, hlocks, hown, hts, hE, hnm⟩ := id hcx
  have hown : s.vm.findClass RX11 = some m.cls := hown
  have hK := hE.1
  have hl : lv_has ls 1 [(0, .ref h0)] := hl
  refine lv_aload_n hx hb dX11_step_0 rfl (lv_at hl 0 rfl) ?_
  refine va_get (D := g.1) (ci := 11) (v := Value.ref al) (C := RX11) (T := TX11) (N := 69) hx hb hts inlX11 hown hK hP 0 rfl rfl 46 (by decide) (hts _ q13_17) (fun _ h9 => h9) h_fs_all dX11_step_1 ?_
  refine lv_bipush (v := 21) hx hb dX11_step_4 (by decide) ?_
  refine ia_ld hx hb hK hP 1 1 rfl rfl (21) rfl (by decide) (by decide) dX11_step_6 ?_
  refine lv_tope (y := 0) h_f_al_21 ?_
  refine lv_aload_n hx hb dX11_step_7 rfl (lv_at hl 0 rfl) ?_
  refine kI (wc := [(h0, .inr (11, fs)), (co, .inl (gI g, 2, .inl f_co))]) (wr := [(al, .inl (gI g, 24, .inl f_al))]) (rV (As := []) (rest := [.int 0]) (meth2 := "") hcx (c_X11_ways (hl_fs) (h_fs_corners) (h_fs_bank) (h_f_co_0) H.size) (gdV q36_17 q36_18 q36_19 q1_5 q36_20) dvX11_ways ⟨Nat.le_of_ble_eq_true rfl, Nat.le_of_ble_eq_true rfl⟩ (hP.sub [0, 2] rfl) (hD.sub [0, 2] (by decide) rfl) (va_recv hK hP (ci := 11) (q0 := 0) rfl rfl) rfl hl.1 rfl (Nat.le_of_ble_eq_true rfl) dX11_step_8 ⟨Nat.le_of_ble_eq_true rfl, Nat.le_of_ble_eq_true rfl⟩) hP hD hS hA [0, 2] [1] rfl rfl (by decide) (by decide) (fun r W' H locs hw hP hD hS => ?_)
  obtain ⟨rfl, rfl⟩ := hw
  have hP : va_P g.1 vwCl [(al, .inl (gI g, 24, .inl f_al)), (h0, .inr (11, fs)), (co, .inl (gI g, 2, .inl f_co))] H := hP
  have hD : va_D A [(al, .inl (gI g, 24, .inl f_al)), (h0, .inr (11, fs)), (co, .inl (gI g, 2, .inl f_co))] := hD
  refine lv_icmp_lt (tgt := 16) hx hb dX11_step_11 (by decide) (fun c1 => absurd c1 (by decide)) (fun _ => ?_)
  refine lv_iconst (v := (-1)) hx hb dX11_step_14 (by decide) ?_
  have hP9 : va_P g.1 vwCl [] H := hP.sub [] rfl
  have hD9 : va_D A [] := hD.sub [] (by decide) rfl
  exact xi hx hb hr hlocks rfl hP9 hD9 hS ⟨rfl, rfl⟩ (Nat.le_of_ble_eq_true rfl) (Nat.le_of_ble_eq_true rfl) dX11_step_15

set_option maxHeartbeats 4000000 in
set_option maxRecDepth 100000 in
theorem c_X11_reef {l : Launch} {g : Gx} {h0 gu : Nat} {p0 : Int32} {p1 : Int32} {fs : List Value} {f_gu : Nat → Int32} (hl_fs : fs.length = 69) (h_fs_guilds : fs[12]? = some (Value.ref gu)) (h_fs_bank : fs[34]? = some (Value.int 0)) (h_f_gu_0 : f_gu 0 = 0) : MI l g yX11_reef cX11_reef 4 (some .int) 4 0 0 [.ref h0, .int p0, .int p1] [(h0, .inr (11, fs)), (gu, .inl (gI g, 2, .inl f_gu))] (fun r W' => (-1) = r ∧ W' = []) := by
  refine MIof (by decide) (Nat.le_of_ble_eq_true rfl) ?_
  intro p e s m below meth c A ls H locs hcx hA hP hD hS hl
  obtain ⟨hx, hb, hml, hr, hlocks, hown, hts, hE, hnm⟩ := id hcx
  have hown : s.vm.findClass RX11 = some m.cls := hown
  have hK := hE.1
  have hl : lv_has ls 4 [(0, .ref h0), (1, .int p0), (2, .int p1)] := hl
  refine lv_aload_n hx hb dX11_reef_0 rfl (lv_at hl 0 rfl) ?_
  refine lv_iload_n hx hb dX11_reef_1 rfl (lv_at hl 1 rfl) ?_
  refine kI (wc := [(h0, .inr (11, fs)), (gu, .inl (gI g, 2, .inl f_gu))]) (wr := []) (rV (As := [.int p0]) (rest := []) (meth2 := "") hcx (c_X11_isGuild (hl_fs) (h_fs_guilds) (h_fs_bank) (h_f_gu_0) H.size) (gdV q34_13 q34_14 q34_15 q1_5 q34_16) dvX11_isGuild ⟨Nat.le_of_ble_eq_true rfl, Nat.le_of_ble_eq_true rfl⟩ (hP.sub [0, 1] rfl) (hD.sub [0, 1] (by decide) rfl) (va_recv hK hP (ci := 11) (q0 := 0) rfl rfl) rfl hl.1 rfl (Nat.le_of_ble_eq_true rfl) dX11_reef_2 ⟨Nat.le_of_ble_eq_true rfl, Nat.le_of_ble_eq_true rfl⟩) hP hD hS hA [0, 1] [] rfl rfl (by decide) (by decide) (fun r W' H locs hw hP hD hS => ?_)
  obtain ⟨rfl, rfl⟩ := hw
  have hP : va_P g.1 vwCl [(h0, .inr (11, fs)), (gu, .inl (gI g, 2, .inl f_gu))] H := hP
  have hD : va_D A [(h0, .inr (11, fs)), (gu, .inl (gI g, 2, .inl f_gu))] := hD
  refine lv_if_eq (tgt := 30) hx hb dX11_reef_5 (by decide) (fun _ => ?_) (fun c1 => absurd (by decide) c1)
  refine lv_iconst (v := (-1)) hx hb dX11_reef_30 (by decide) ?_
  have hP9 : va_P g.1 vwCl [] H := hP.sub [] rfl
  have hD9 : va_D A [] := hD.sub [] (by decide) rfl
  exact xi hx hb hr hlocks rfl hP9 hD9 hS ⟨rfl, rfl⟩ (Nat.le_of_ble_eq_true rfl) (Nat.le_of_ble_eq_true rfl) dX11_reef_31

set_option maxHeartbeats 4000000 in
set_option maxRecDepth 100000 in
theorem c_X11_child {l : Launch} {g : Gx} {h0 gu : Nat} {p0 : Int32} {p1 : Int32} {fs : List Value} {f_gu : Nat → Int32} (hl_fs : fs.length = 69) (h_fs_guilds : fs[12]? = some (Value.ref gu)) (h_fs_bank : fs[34]? = some (Value.int 0)) (h_f_gu_0 : f_gu 0 = 0) : MI l g yX11_child cX11_child 3 (some .int) 4 0 0 [.ref h0, .int p0, .int p1] [(h0, .inr (11, fs)), (gu, .inl (gI g, 2, .inl f_gu))] (fun r W' => (-1) = r ∧ W' = []) := by
  refine MIof (by decide) (Nat.le_of_ble_eq_true rfl) ?_
  intro p e s m below meth c A ls H locs hcx hA hP hD hS hl
  obtain ⟨hx, hb, hml, hr, hlocks, hown, hts, hE, hnm⟩ := id hcx
  have hown : s.vm.findClass RX11 = some m.cls := hown
  have hK := hE.1
  have hl : lv_has ls 3 [(0, .ref h0), (1, .int p0), (2, .int p1)] := hl
  refine lv_aload_n hx hb dX11_child_0 rfl (lv_at hl 0 rfl) ?_
  refine lv_iload_n hx hb dX11_child_1 rfl (lv_at hl 1 rfl) ?_
  refine kI (wc := [(h0, .inr (11, fs)), (gu, .inl (gI g, 2, .inl f_gu))]) (wr := []) (rV (As := [.int p0]) (rest := []) (meth2 := "") hcx (c_X11_isGuild (hl_fs) (h_fs_guilds) (h_fs_bank) (h_f_gu_0) H.size) (gdV q34_13 q34_14 q34_15 q1_5 q34_16) dvX11_isGuild ⟨Nat.le_of_ble_eq_true rfl, Nat.le_of_ble_eq_true rfl⟩ (hP.sub [0, 1] rfl) (hD.sub [0, 1] (by decide) rfl) (va_recv hK hP (ci := 11) (q0 := 0) rfl rfl) rfl hl.1 rfl (Nat.le_of_ble_eq_true rfl) dX11_child_2 ⟨Nat.le_of_ble_eq_true rfl, Nat.le_of_ble_eq_true rfl⟩) hP hD hS hA [0, 1] [] rfl rfl (by decide) (by decide) (fun r W' H locs hw hP hD hS => ?_)
  obtain ⟨rfl, rfl⟩ := hw
  have hP : va_P g.1 vwCl [(h0, .inr (11, fs)), (gu, .inl (gI g, 2, .inl f_gu))] H := hP
  have hD : va_D A [(h0, .inr (11, fs)), (gu, .inl (gI g, 2, .inl f_gu))] := hD
  refine lv_if_eq (tgt := 34) hx hb dX11_child_5 (by decide) (fun _ => ?_) (fun c1 => absurd (by decide) c1)
  refine lv_iconst (v := (-1)) hx hb dX11_child_34 (by decide) ?_
  have hP9 : va_P g.1 vwCl [] H := hP.sub [] rfl
  have hD9 : va_D A [] := hD.sub [] (by decide) rfl
  exact xi hx hb hr hlocks rfl hP9 hD9 hS ⟨rfl, rfl⟩ (Nat.le_of_ble_eq_true rfl) (Nat.le_of_ble_eq_true rfl) dX11_child_35

set_option maxHeartbeats 4000000 in
set_option maxRecDepth 100000 in
theorem c_X11_swap {l : Launch} {g : Gx} {h0 gu : Nat} {p0 : Int32} {p1 : Int32} {fs : List Value} {f_gu : Nat → Int32} (hl_fs : fs.length = 69) (h_fs_guilds : fs[12]? = some (Value.ref gu)) (h_fs_bank : fs[34]? = some (Value.int 0)) (h_f_gu_0 : f_gu 0 = 0) : MI l g yX11_swap cX11_swap 5 (some .boolean) 4 0 0 [.ref h0, .int p0, .int p1] [(h0, .inr (11, fs)), (gu, .inl (gI g, 2, .inl f_gu))] (fun r W' => 0 = r ∧ W' = []) := by
  refine MIof (by decide) (Nat.le_of_ble_eq_true rfl) ?_
  intro p e s m below meth c A ls H locs hcx hA hP hD hS hl
  obtain ⟨hx, hb, hml, hr, hlocks, hown, hts, hE, hnm⟩ := id hcx
  have hown : s.vm.findClass RX11 = some m.cls := hown
  have hK := hE.1
  have hl : lv_has ls 5 [(0, .ref h0), (1, .int p0), (2, .int p1)] := hl
  refine lv_aload_n hx hb dX11_swap_0 rfl (lv_at hl 0 rfl) ?_
  refine lv_iload_n hx hb dX11_swap_1 rfl (lv_at hl 1 rfl) ?_
  refine kI (wc := [(h0, .inr (11, fs)), (gu, .inl (gI g, 2, .inl f_gu))]) (wr := []) (rV (As := [.int p0]) (rest := []) (meth2 := "") hcx (c_X11_isGuild (hl_fs) (h_fs_guilds) (h_fs_bank) (h_f_gu_0) H.size) (gdV q34_13 q34_14 q34_15 q1_5 q34_16) dvX11_isGuild ⟨Nat.le_of_ble_eq_true rfl, Nat.le_of_ble_eq_true rfl⟩ (hP.sub [0, 1] rfl) (hD.sub [0, 1] (by decide) rfl) (va_recv hK hP (ci := 11) (q0 := 0) rfl rfl) rfl hl.1 rfl (Nat.le_of_ble_eq_true rfl) dX11_swap_2 ⟨Nat.le_of_ble_eq_true rfl, Nat.le_of_ble_eq_true rfl⟩) hP hD hS hA [0, 1] [] rfl rfl (by decide) (by decide) (fun r W' H locs hw hP hD hS => ?_)
  obtain ⟨rfl, rfl⟩ := hw
  have hP : va_P g.1 vwCl [(h0, .inr (11, fs)), (gu, .inl (gI g, 2, .inl f_gu))] H := hP
  have hD : va_D A [(h0, .inr (11, fs)), (gu, .inl (gI g, 2, .inl f_gu))] := hD
  refine lv_if_eq (tgt := 21) hx hb dX11_swap_5 (by decide) (fun _ => ?_) (fun c1 => absurd (by decide) c1)
  refine lv_iconst (v := 0) hx hb dX11_swap_21 (by decide) ?_
  have hP9 : va_P g.1 vwCl [] H := hP.sub [] rfl
  have hD9 : va_D A [] := hD.sub [] (by decide) rfl
  exact xi hx hb hr hlocks rfl hP9 hD9 hS ⟨rfl, rfl⟩ (Nat.le_of_ble_eq_true rfl) (Nat.le_of_ble_eq_true rfl) dX11_swap_22

set_option maxHeartbeats 4000000 in
set_option maxRecDepth 100000 in
theorem c_X11_under {l : Launch} {g : Gx} {h0 gu : Nat} {p0 : Int32} {p1 : Int32} {fs : List Value} {f_gu : Nat → Int32} (hl_fs : fs.length = 69) (h_fs_guilds : fs[12]? = some (Value.ref gu)) (h_fs_bank : fs[34]? = some (Value.int 0)) (h_f_gu_0 : f_gu 0 = 0) : MI l g yX11_under cX11_under 3 (some .int) 6 0 0 [.ref h0, .int p0, .int p1] [(h0, .inr (11, fs)), (gu, .inl (gI g, 2, .inl f_gu))] (fun r W' => (-1) = r ∧ W' = []) := by
  refine MIof (by decide) (Nat.le_of_ble_eq_true rfl) ?_
  intro p e s m below meth c A ls H locs hcx hA hP hD hS hl
  obtain ⟨hx, hb, hml, hr, hlocks, hown, hts, hE, hnm⟩ := id hcx
  have hown : s.vm.findClass RX11 = some m.cls := hown
  have hK := hE.1
  have hl : lv_has ls 3 [(0, .ref h0), (1, .int p0), (2, .int p1)] := hl
  refine lv_aload_n hx hb dX11_under_0 rfl (lv_at hl 0 rfl) ?_
  refine lv_iload_n hx hb dX11_under_1 rfl (lv_at hl 1 rfl) ?_
  refine lv_iload_n hx hb dX11_under_2 rfl (lv_at hl 2 rfl) ?_
  refine kI (wc := [(h0, .inr (11, fs)), (gu, .inl (gI g, 2, .inl f_gu))]) (wr := []) (rV (As := [.int p0, .int p1]) (rest := []) (meth2 := "") hcx (c_X11_canGo (hl_fs) (h_fs_guilds) (h_fs_bank) (h_f_gu_0) H.size) (gdV q44_8 q44_9 q44_10 q1_5 q44_11) dvX11_canGo ⟨Nat.le_of_ble_eq_true rfl, Nat.le_of_ble_eq_true rfl⟩ (hP.sub [0, 1] rfl) (hD.sub [0, 1] (by decide) rfl) (va_recv hK hP (ci := 11) (q0 := 0) rfl rfl) rfl hl.1 rfl (Nat.le_of_ble_eq_true rfl) dX11_under_3 ⟨Nat.le_of_ble_eq_true rfl, Nat.le_of_ble_eq_true rfl⟩) hP hD hS hA [0, 1] [] rfl rfl (by decide) (by decide) (fun r W' H locs hw hP hD hS => ?_)
  obtain ⟨rfl, rfl⟩ := hw
  have hP : va_P g.1 vwCl [(h0, .inr (11, fs)), (gu, .inl (gI g, 2, .inl f_gu))] H := hP
  have hD : va_D A [(h0, .inr (11, fs)), (gu, .inl (gI g, 2, .inl f_gu))] := hD
  refine lv_if_ne (tgt := 11) hx hb dX11_under_6 (by decide) (fun c1 => absurd (by decide) c1) (fun _ => ?_)
  refine lv_iconst (v := (-1)) hx hb dX11_under_9 (by decide) ?_
  have hP9 : va_P g.1 vwCl [] H := hP.sub [] rfl
  have hD9 : va_D A [] := hD.sub [] (by decide) rfl
  exact xi hx hb hr hlocks rfl hP9 hD9 hS ⟨rfl, rfl⟩ (Nat.le_of_ble_eq_true rfl) (Nat.le_of_ble_eq_true rfl) dX11_under_10

set_option maxHeartbeats 4000000 in
set_option maxRecDepth 100000 in
theorem c_X11_part {l : Launch} {g : Gx} {h0 gu : Nat} {p0 : Int32} {fs : List Value} {f_gu : Nat → Int32} (hl_fs : fs.length = 69) (h_fs_guilds : fs[12]? = some (Value.ref gu)) (h_fs_bank : fs[34]? = some (Value.int 0)) (h_f_gu_0 : f_gu 0 = 0) : MI l g yX11_part cX11_part 3 (some .int) 4 0 0 [.ref h0, .int p0] [(h0, .inr (11, fs)), (gu, .inl (gI g, 2, .inl f_gu))] (fun r W' => (-1) = r ∧ W' = []) := by
  refine MIof (by decide) (Nat.le_of_ble_eq_true rfl) ?_
  intro p e s m below meth c A ls H locs hcx hA hP hD hS hl
  obtain ⟨hx, hb, hml, hr, hlocks, hown, hts, hE, hnm⟩ := id hcx
  have hown : s.vm.findClass RX11 = some m.cls := hown
  have hK := hE.1
  have hl : lv_has ls 3 [(0, .ref h0), (1, .int p0)] := hl
  refine lv_aload_n hx hb dX11_part_0 rfl (lv_at hl 0 rfl) ?_
  refine lv_iload_n hx hb dX11_part_1 rfl (lv_at hl 1 rfl) ?_
  refine kI (wc := [(h0, .inr (11, fs)), (gu, .inl (gI g, 2, .inl f_gu))]) (wr := []) (rV (As := [.int p0]) (rest := []) (meth2 := "") hcx (c_X11_isGuild (hl_fs) (h_fs_guilds) (h_fs_bank) (h_f_gu_0) H.size) (gdV q34_13 q34_14 q34_15 q1_5 q34_16) dvX11_isGuild ⟨Nat.le_of_ble_eq_true rfl, Nat.le_of_ble_eq_true rfl⟩ (hP.sub [0, 1] rfl) (hD.sub [0, 1] (by decide) rfl) (va_recv hK hP (ci := 11) (q0 := 0) rfl rfl) rfl hl.1 rfl (Nat.le_of_ble_eq_true rfl) dX11_part_2 ⟨Nat.le_of_ble_eq_true rfl, Nat.le_of_ble_eq_true rfl⟩) hP hD hS hA [0, 1] [] rfl rfl (by decide) (by decide) (fun r W' H locs hw hP hD hS => ?_)
  obtain ⟨rfl, rfl⟩ := hw
  have hP : va_P g.1 vwCl [(h0, .inr (11, fs)), (gu, .inl (gI g, 2, .inl f_gu))] H := hP
  have hD : va_D A [(h0, .inr (11, fs)), (gu, .inl (gI g, 2, .inl f_gu))] := hD
  refine lv_if_eq (tgt := 16) hx hb dX11_part_5 (by decide) (fun _ => ?_) (fun c1 => absurd (by decide) c1)
  refine lv_iconst (v := (-1)) hx hb dX11_part_16 (by decide) ?_
  have hP9 : va_P g.1 vwCl [] H := hP.sub [] rfl
  have hD9 : va_D A [] := hD.sub [] (by decide) rfl
  exact xi hx hb hr hlocks rfl hP9 hD9 hS ⟨rfl, rfl⟩ (Nat.le_of_ble_eq_true rfl) (Nat.le_of_ble_eq_true rfl) dX11_part_17

set_option maxHeartbeats 4000000 in
set_option maxRecDepth 100000 in
theorem c_X11_far {l : Launch} {g : Gx} {h0 gu : Nat} {p0 : Int32} {fs : List Value} {f_gu : Nat → Int32} (hl_fs : fs.length = 69) (h_fs_guilds : fs[12]? = some (Value.ref gu)) (h_fs_bank : fs[34]? = some (Value.int 0)) (h_f_gu_0 : f_gu 0 = 0) : MI l g yX11_far cX11_far 4 (some .int) 4 0 0 [.ref h0, .int p0] [(h0, .inr (11, fs)), (gu, .inl (gI g, 2, .inl f_gu))] (fun r W' => (-1) = r ∧ W' = []) := by
  refine MIof (by decide) (Nat.le_of_ble_eq_true rfl) ?_
  intro p e s m below meth c A ls H locs hcx hA hP hD hS hl
  obtain ⟨hx, hb, hml, hr, hlocks, hown, hts, hE, hnm⟩ := id hcx
  have hown : s.vm.findClass RX11 = some m.cls := hown
  have hK := hE.1
  have hl : lv_has ls 4 [(0, .ref h0), (1, .int p0)] := hl
  refine lv_aload_n hx hb dX11_far_0 rfl (lv_at hl 0 rfl) ?_
  refine lv_iload_n hx hb dX11_far_1 rfl (lv_at hl 1 rfl) ?_
  refine kI (wc := [(h0, .inr (11, fs)), (gu, .inl (gI g, 2, .inl f_gu))]) (wr := []) (rV (As := [.int p0]) (rest := []) (meth2 := "") hcx (c_X11_isGuild (hl_fs) (h_fs_guilds) (h_fs_bank) (h_f_gu_0) H.size) (gdV q34_13 q34_14 q34_15 q1_5 q34_16) dvX11_isGuild ⟨Nat.le_of_ble_eq_true rfl, Nat.le_of_ble_eq_true rfl⟩ (hP.sub [0, 1] rfl) (hD.sub [0, 1] (by decide) rfl) (va_recv hK hP (ci := 11) (q0 := 0) rfl rfl) rfl hl.1 rfl (Nat.le_of_ble_eq_true rfl) dX11_far_2 ⟨Nat.le_of_ble_eq_true rfl, Nat.le_of_ble_eq_true rfl⟩) hP hD hS hA [0, 1] [] rfl rfl (by decide) (by decide) (fun r W' H locs hw hP hD hS => ?_)
  obtain ⟨rfl, rfl⟩ := hw
  have hP : va_P g.1 vwCl [(h0, .inr (11, fs)), (gu, .inl (gI g, 2, .inl f_gu))] H := hP
  have hD : va_D A [(h0, .inr (11, fs)), (gu, .inl (gI g, 2, .inl f_gu))] := hD
  refine lv_if_ne (tgt := 10) hx hb dX11_far_5 (by decide) (fun c1 => absurd (by decide) c1) (fun _ => ?_)
  refine lv_iconst (v := (-1)) hx hb dX11_far_8 (by decide) ?_
  have hP9 : va_P g.1 vwCl [] H := hP.sub [] rfl
  have hD9 : va_D A [] := hD.sub [] (by decide) rfl
  exact xi hx hb hr hlocks rfl hP9 hD9 hS ⟨rfl, rfl⟩ (Nat.le_of_ble_eq_true rfl) (Nat.le_of_ble_eq_true rfl) dX11_far_9

set_option maxHeartbeats 4000000 in
set_option maxRecDepth 100000 in
theorem c_X11_bears {l : Launch} {g : Gx} {h0 gu : Nat} {p0 : Int32} {fs : List Value} {f_gu : Nat → Int32} (hl_fs : fs.length = 69) (h_fs_guilds : fs[12]? = some (Value.ref gu)) (h_fs_bank : fs[34]? = some (Value.int 0)) (h_f_gu_0 : f_gu 0 = 0) : MI l g yX11_bears cX11_bears 3 (some .int) 4 0 0 [.ref h0, .int p0] [(h0, .inr (11, fs)), (gu, .inl (gI g, 2, .inl f_gu))] (fun r W' => (-1) = r ∧ W' = []) := by
  refine MIof (by decide) (Nat.le_of_ble_eq_true rfl) ?_
  intro p e s m below meth c A ls H locs hcx hA hP hD hS hl
  obtain ⟨hx, hb, hml, hr, hlocks, hown, hts, hE, hnm⟩ := id hcx
  have hown : s.vm.findClass RX11 = some m.cls := hown
  have hK := hE.1
  have hl : lv_has ls 3 [(0, .ref h0), (1, .int p0)] := hl
  refine lv_aload_n hx hb dX11_bears_0 rfl (lv_at hl 0 rfl) ?_
  refine lv_iload_n hx hb dX11_bears_1 rfl (lv_at hl 1 rfl) ?_
  refine kI (wc := [(h0, .inr (11, fs)), (gu, .inl (gI g, 2, .inl f_gu))]) (wr := []) (rV (As := [.int p0]) (rest := []) (meth2 := "") hcx (c_X11_isGuild (hl_fs) (h_fs_guilds) (h_fs_bank) (h_f_gu_0) H.size) (gdV q34_13 q34_14 q34_15 q1_5 q34_16) dvX11_isGuild ⟨Nat.le_of_ble_eq_true rfl, Nat.le_of_ble_eq_true rfl⟩ (hP.sub [0, 1] rfl) (hD.sub [0, 1] (by decide) rfl) (va_recv hK hP (ci := 11) (q0 := 0) rfl rfl) rfl hl.1 rfl (Nat.le_of_ble_eq_true rfl) dX11_bears_2 ⟨Nat.le_of_ble_eq_true rfl, Nat.le_of_ble_eq_true rfl⟩) hP hD hS hA [0, 1] [] rfl rfl (by decide) (by decide) (fun r W' H locs hw hP hD hS => ?_)
  obtain ⟨rfl, rfl⟩ := hw
  have hP : va_P g.1 vwCl [(h0, .inr (11, fs)), (gu, .inl (gI g, 2, .inl f_gu))] H := hP
  have hD : va_D A [(h0, .inr (11, fs)), (gu, .inl (gI g, 2, .inl f_gu))] := hD
  refine lv_if_eq (tgt := 19) hx hb dX11_bears_5 (by decide) (fun _ => ?_) (fun c1 => absurd (by decide) c1)
  refine lv_iconst (v := (-1)) hx hb dX11_bears_19 (by decide) ?_
  have hP9 : va_P g.1 vwCl [] H := hP.sub [] rfl
  have hD9 : va_D A [] := hD.sub [] (by decide) rfl
  exact xi hx hb hr hlocks rfl hP9 hD9 hS ⟨rfl, rfl⟩ (Nat.le_of_ble_eq_true rfl) (Nat.le_of_ble_eq_true rfl) dX11_bears_20

set_option maxHeartbeats 4000000 in
set_option maxRecDepth 100000 in
theorem c_X11_host {l : Launch} {g : Gx} {h0 gu : Nat} {p0 : Int32} {p1 : Int32} {fs : List Value} {f_gu : Nat → Int32} (hl_fs : fs.length = 69) (h_fs_guilds : fs[12]? = some (Value.ref gu)) (h_fs_bank : fs[34]? = some (Value.int 0)) (h_f_gu_0 : f_gu 0 = 0) : MI l g yX11_host cX11_host 7 (some .int) 4 0 0 [.ref h0, .int p0, .int p1] [(h0, .inr (11, fs)), (gu, .inl (gI g, 2, .inl f_gu))] (fun r W' => (-1) = r ∧ W' = []) := by
  refine MIof (by decide) (Nat.le_of_ble_eq_true rfl) ?_
  intro p e s m below meth c A ls H locs hcx hA hP hD hS hl
  obtain ⟨hx, hb, hml, hr, hlocks, hown, hts, hE, hnm⟩ := id hcx
  have hown : s.vm.findClass RX11 = some m.cls := hown
  have hK := hE.1
  have hl : lv_has ls 7 [(0, .ref h0), (1, .int p0), (2, .int p1)] := hl
  refine lv_aload_n hx hb dX11_host_0 rfl (lv_at hl 0 rfl) ?_
  refine lv_iload_n hx hb dX11_host_1 rfl (lv_at hl 1 rfl) ?_
  refine kI (wc := [(h0, .inr (11, fs)), (gu, .inl (gI g, 2, .inl f_gu))]) (wr := []) (rV (As := [.int p0]) (rest := []) (meth2 := "") hcx (c_X11_isGuild (hl_fs) (h_fs_guilds) (h_fs_bank) (h_f_gu_0) H.size) (gdV q34_13 q34_14 q34_15 q1_5 q34_16) dvX11_isGuild ⟨Nat.le_of_ble_eq_true rfl, Nat.le_of_ble_eq_true rfl⟩ (hP.sub [0, 1] rfl) (hD.sub [0, 1] (by decide) rfl) (va_recv hK hP (ci := 11) (q0 := 0) rfl rfl) rfl hl.1 rfl (Nat.le_of_ble_eq_true rfl) dX11_host_2 ⟨Nat.le_of_ble_eq_true rfl, Nat.le_of_ble_eq_true rfl⟩) hP hD hS hA [0, 1] [] rfl rfl (by decide) (by decide) (fun r W' H locs hw hP hD hS => ?_)
  obtain ⟨rfl, rfl⟩ := hw
  have hP : va_P g.1 vwCl [(h0, .inr (11, fs)), (gu, .inl (gI g, 2, .inl f_gu))] H := hP
  have hD : va_D A [(h0, .inr (11, fs)), (gu, .inl (gI g, 2, .inl f_gu))] := hD
  refine lv_if_eq (tgt := 17) hx hb dX11_host_5 (by decide) (fun _ => ?_) (fun c1 => absurd (by decide) c1)
  refine lv_iconst (v := (-1)) hx hb dX11_host_17 (by decide) ?_
  have hP9 : va_P g.1 vwCl [] H := hP.sub [] rfl
  have hD9 : va_D A [] := hD.sub [] (by decide) rfl
  exact xi hx hb hr hlocks rfl hP9 hD9 hS ⟨rfl, rfl⟩ (Nat.le_of_ble_eq_true rfl) (Nat.le_of_ble_eq_true rfl) dX11_host_18

set_option maxHeartbeats 4000000 in
set_option maxRecDepth 100000 in
theorem c_X11_odds {l : Launch} {g : Gx} {h0 gu : Nat} {p0 : Int32} {p1 : Int32} {fs : List Value} {f_gu : Nat → Int32} (hl_fs : fs.length = 69) (h_fs_guilds : fs[12]? = some (Value.ref gu)) (h_fs_bank : fs[34]? = some (Value.int 0)) (h_f_gu_0 : f_gu 0 = 0) : MI l g yX11_odds cX11_odds 7 (some .int) 4 0 0 [.ref h0, .int p0, .int p1] [(h0, .inr (11, fs)), (gu, .inl (gI g, 2, .inl f_gu))] (fun r W' => (-1) = r ∧ W' = []) := by
  refine MIof (by decide) (Nat.le_of_ble_eq_true rfl) ?_
  intro p e s m below meth c A ls H locs hcx hA hP hD hS hl
  obtain ⟨hx, hb, hml, hr, hlocks, hown, hts, hE, hnm⟩ := id hcx
  have hown : s.vm.findClass RX11 = some m.cls := hown
  have hK := hE.1
  have hl : lv_has ls 7 [(0, .ref h0), (1, .int p0), (2, .int p1)] := hl
  refine lv_aload_n hx hb dX11_odds_0 rfl (lv_at hl 0 rfl) ?_
  refine lv_iload_n hx hb dX11_odds_1 rfl (lv_at hl 1 rfl) ?_
  refine kI (wc := [(h0, .inr (11, fs)), (gu, .inl (gI g, 2, .inl f_gu))]) (wr := []) (rV (As := [.int p0]) (rest := []) (meth2 := "") hcx (c_X11_isGuild (hl_fs) (h_fs_guilds) (h_fs_bank) (h_f_gu_0) H.size) (gdV q34_13 q34_14 q34_15 q1_5 q34_16) dvX11_isGuild ⟨Nat.le_of_ble_eq_true rfl, Nat.le_of_ble_eq_true rfl⟩ (hP.sub [0, 1] rfl) (hD.sub [0, 1] (by decide) rfl) (va_recv hK hP (ci := 11) (q0 := 0) rfl rfl) rfl hl.1 rfl (Nat.le_of_ble_eq_true rfl) dX11_odds_2 ⟨Nat.le_of_ble_eq_true rfl, Nat.le_of_ble_eq_true rfl⟩) hP hD hS hA [0, 1] [] rfl rfl (by decide) (by decide) (fun r W' H locs hw hP hD hS => ?_)
  obtain ⟨rfl, rfl⟩ := hw
  have hP : va_P g.1 vwCl [(h0, .inr (11, fs)), (gu, .inl (gI g, 2, .inl f_gu))] H := hP
  have hD : va_D A [(h0, .inr (11, fs)), (gu, .inl (gI g, 2, .inl f_gu))] := hD
  refine lv_if_eq (tgt := 17) hx hb dX11_odds_5 (by decide) (fun _ => ?_) (fun c1 => absurd (by decide) c1)
  refine lv_iconst (v := (-1)) hx hb dX11_odds_17 (by decide) ?_
  have hP9 : va_P g.1 vwCl [] H := hP.sub [] rfl
  have hD9 : va_D A [] := hD.sub [] (by decide) rfl
  exact xi hx hb hr hlocks rfl hP9 hD9 hS ⟨rfl, rfl⟩ (Nat.le_of_ble_eq_true rfl) (Nat.le_of_ble_eq_true rfl) dX11_odds_18

set_option maxHeartbeats 4000000 in
set_option maxRecDepth 100000 in
theorem c_X11_least {l : Launch} {g : Gx} {h0 gu : Nat} {p0 : Int32} {fs : List Value} {f_gu : Nat → Int32} (hl_fs : fs.length = 69) (h_fs_guilds : fs[12]? = some (Value.ref gu)) (h_fs_bank : fs[34]? = some (Value.int 0)) (h_f_gu_0 : f_gu 0 = 0) : MI l g yX11_least cX11_least 3 (some .int) 5 0 0 [.ref h0, .int p0] [(h0, .inr (11, fs)), (gu, .inl (gI g, 2, .inl f_gu))] (fun r W' => (-1) = r ∧ W' = []) := by
  refine MIof (by decide) (Nat.le_of_ble_eq_true rfl) ?_
  intro p e s m below meth c A ls H locs hcx hA hP hD hS hl
  obtain ⟨hx, hb, hml, hr, hlocks, hown, hts, hE, hnm⟩ := id hcx
  have hown : s.vm.findClass RX11 = some m.cls := hown
  have hK := hE.1
  have hl : lv_has ls 3 [(0, .ref h0), (1, .int p0)] := hl
  refine lv_aload_n hx hb dX11_least_0 rfl (lv_at hl 0 rfl) ?_
  refine lv_iload_n hx hb dX11_least_1 rfl (lv_at hl 1 rfl) ?_
  refine kI (wc := [(h0, .inr (11, fs)), (gu, .inl (gI g, 2, .inl f_gu))]) (wr := []) (rV (As := [.int p0]) (rest := []) (meth2 := "") hcx (c_X11_doesBear (hl_fs) (h_fs_guilds) (h_fs_bank) (h_f_gu_0) H.size) (gdV q39_14 q39_15 q39_16 q1_5 q39_17) dvX11_doesBear ⟨Nat.le_of_ble_eq_true rfl, Nat.le_of_ble_eq_true rfl⟩ (hP.sub [0, 1] rfl) (hD.sub [0, 1] (by decide) rfl) (va_recv hK hP (ci := 11) (q0 := 0) rfl rfl) rfl hl.1 rfl (Nat.le_of_ble_eq_true rfl) dX11_least_2 ⟨Nat.le_of_ble_eq_true rfl, Nat.le_of_ble_eq_true rfl⟩) hP hD hS hA [0, 1] [] rfl rfl (by decide) (by decide) (fun r W' H locs hw hP hD hS => ?_)
  obtain ⟨rfl, rfl⟩ := hw
  have hP : va_P g.1 vwCl [(h0, .inr (11, fs)), (gu, .inl (gI g, 2, .inl f_gu))] H := hP
  have hD : va_D A [(h0, .inr (11, fs)), (gu, .inl (gI g, 2, .inl f_gu))] := hD
  refine lv_if_ne (tgt := 10) hx hb dX11_least_5 (by decide) (fun c1 => absurd (by decide) c1) (fun _ => ?_)
  refine lv_iconst (v := (-1)) hx hb dX11_least_8 (by decide) ?_
  have hP9 : va_P g.1 vwCl [] H := hP.sub [] rfl
  have hD9 : va_D A [] := hD.sub [] (by decide) rfl
  exact xi hx hb hr hlocks rfl hP9 hD9 hS ⟨rfl, rfl⟩ (Nat.le_of_ble_eq_true rfl) (Nat.le_of_ble_eq_true rfl) dX11_least_9

set_option maxHeartbeats 4000000 in
set_option maxRecDepth 100000 in
theorem c_X11_need {l : Launch} {g : Gx} {h0 gu : Nat} {p0 : Int32} {fs : List Value} {f_gu : Nat → Int32} (hl_fs : fs.length = 69) (h_fs_guilds : fs[12]? = some (Value.ref gu)) (h_fs_bank : fs[34]? = some (Value.int 0)) (h_f_gu_0 : f_gu 0 = 0) : MI l g yX11_need cX11_need 3 (some .int) 5 0 0 [.ref h0, .int p0] [(h0, .inr (11, fs)), (gu, .inl (gI g, 2, .inl f_gu))] (fun r W' => (-1) = r ∧ W' = []) := by
  refine MIof (by decide) (Nat.le_of_ble_eq_true rfl) ?_
  intro p e s m below meth c A ls H locs hcx hA hP hD hS hl
  obtain ⟨hx, hb, hml, hr, hlocks, hown, hts, hE, hnm⟩ := id hcx
  have hown : s.vm.findClass RX11 = some m.cls := hown
  have hK := hE.1
  have hl : lv_has ls 3 [(0, .ref h0), (1, .int p0)] := hl
  refine lv_aload_n hx hb dX11_need_0 rfl (lv_at hl 0 rfl) ?_
  refine lv_iload_n hx hb dX11_need_1 rfl (lv_at hl 1 rfl) ?_
  refine kI (wc := [(h0, .inr (11, fs)), (gu, .inl (gI g, 2, .inl f_gu))]) (wr := []) (rV (As := [.int p0]) (rest := []) (meth2 := "") hcx (c_X11_doesBear (hl_fs) (h_fs_guilds) (h_fs_bank) (h_f_gu_0) H.size) (gdV q39_14 q39_15 q39_16 q1_5 q39_17) dvX11_doesBear ⟨Nat.le_of_ble_eq_true rfl, Nat.le_of_ble_eq_true rfl⟩ (hP.sub [0, 1] rfl) (hD.sub [0, 1] (by decide) rfl) (va_recv hK hP (ci := 11) (q0 := 0) rfl rfl) rfl hl.1 rfl (Nat.le_of_ble_eq_true rfl) dX11_need_2 ⟨Nat.le_of_ble_eq_true rfl, Nat.le_of_ble_eq_true rfl⟩) hP hD hS hA [0, 1] [] rfl rfl (by decide) (by decide) (fun r W' H locs hw hP hD hS => ?_)
  obtain ⟨rfl, rfl⟩ := hw
  have hP : va_P g.1 vwCl [(h0, .inr (11, fs)), (gu, .inl (gI g, 2, .inl f_gu))] H := hP
  have hD : va_D A [(h0, .inr (11, fs)), (gu, .inl (gI g, 2, .inl f_gu))] := hD
  refine lv_if_ne (tgt := 10) hx hb dX11_need_5 (by decide) (fun c1 => absurd (by decide) c1) (fun _ => ?_)
  refine lv_iconst (v := (-1)) hx hb dX11_need_8 (by decide) ?_
  have hP9 : va_P g.1 vwCl [] H := hP.sub [] rfl
  have hD9 : va_D A [] := hD.sub [] (by decide) rfl
  exact xi hx hb hr hlocks rfl hP9 hD9 hS ⟨rfl, rfl⟩ (Nat.le_of_ble_eq_true rfl) (Nat.le_of_ble_eq_true rfl) dX11_need_9

set_option maxHeartbeats 4000000 in
set_option maxRecDepth 100000 in
theorem c_X11_rivals {l : Launch} {g : Gx} {h0 gu : Nat} {p0 : Int32} {p1 : Int32} {fs : List Value} {f_gu : Nat → Int32} (hl_fs : fs.length = 69) (h_fs_guilds : fs[12]? = some (Value.ref gu)) (h_fs_bank : fs[34]? = some (Value.int 0)) (h_f_gu_0 : f_gu 0 = 0) : MI l g yX11_rivals cX11_rivals 5 (some .int) 5 0 0 [.ref h0, .int p0, .int p1] [(h0, .inr (11, fs)), (gu, .inl (gI g, 2, .inl f_gu))] (fun r W' => (-1) = r ∧ W' = []) := by
  refine MIof (by decide) (Nat.le_of_ble_eq_true rfl) ?_
  intro p e s m below meth c A ls H locs hcx hA hP hD hS hl
  obtain ⟨hx, hb, hml, hr, hlocks, hown, hts, hE, hnm⟩ := id hcx
  have hown : s.vm.findClass RX11 = some m.cls := hown
  have hK := hE.1
  have hl : lv_has ls 5 [(0, .ref h0), (1, .int p0), (2, .int p1)] := hl
  refine lv_aload_n hx hb dX11_rivals_0 rfl (lv_at hl 0 rfl) ?_
  refine lv_iconst (v := 0) hx hb dX11_rivals_1 (by decide) ?_
  refine va_put (D := g.1) (ci := 11) (v := Value.int 0) (ty := .int) (C := RX11) (T := TX11) (N := 69) hx hb hts inlX11 tyX11 tyX11_ok nmX11 hown hK hP hD hS 0 rfl rfl 54 (by decide) (hts _ q15_1) (fun _ h9 => h9) rfl (by decide +kernel) rfl rfl (by simp [hl_fs]) dX11_rivals_2 (fun H locs hP hD hS => ?_)
  have hP : va_P g.1 vwCl [(h0, .inr (11, (fs.set 54 (.int 0)))), (gu, .inl (gI g, 2, .inl f_gu))] H := hP
  have hD : va_D A [(h0, .inr (11, (fs.set 54 (.int 0)))), (gu, .inl (gI g, 2, .inl f_gu))] := hD
  refine lv_iload_n hx hb dX11_rivals_5 rfl (lv_at hl 1 rfl) ?_
  refine lv_iload_n hx hb dX11_rivals_6 rfl (lv_at hl 2 rfl) ?_
  refine lv_icmp_eq (tgt := 26) hx hb dX11_rivals_7 (by decide) (fun c1 => ?_) (fun c1 => ?_)
  · refine lv_iconst (v := (-1)) hx hb dX11_rivals_26 (by decide) ?_
    have hP9 : va_P g.1 vwCl [] H := hP.sub [] rfl
    have hD9 : va_D A [] := hD.sub [] (by decide) rfl
    exact xi hx hb hr hlocks rfl hP9 hD9 hS ⟨rfl, rfl⟩ (Nat.le_of_ble_eq_true rfl) (Nat.le_of_ble_eq_true rfl) dX11_rivals_27
  · refine lv_aload_n hx hb dX11_rivals_10 rfl (lv_at hl 0 rfl) ?_
    refine lv_iload_n hx hb dX11_rivals_11 rfl (lv_at hl 1 rfl) ?_
    refine kI (wc := [(h0, .inr (11, (fs.set 54 (.int 0)))), (gu, .inl (gI g, 2, .inl f_gu))]) (wr := []) (rV (As := [.int p0]) (rest := []) (meth2 := "") hcx (c_X11_doesBear ((by simp [hl_fs])) ((fs_ne h_fs_guilds (by decide))) ((fs_ne h_fs_bank (by decide))) (h_f_gu_0) H.size) (gdV q39_14 q39_15 q39_16 q1_5 q39_17) dvX11_doesBear ⟨Nat.le_of_ble_eq_true rfl, Nat.le_of_ble_eq_true rfl⟩ (hP.sub [0, 1] rfl) (hD.sub [0, 1] (by decide) rfl) (va_recv hK hP (ci := 11) (q0 := 0) rfl rfl) rfl hl.1 rfl (Nat.le_of_ble_eq_true rfl) dX11_rivals_12 ⟨Nat.le_of_ble_eq_true rfl, Nat.le_of_ble_eq_true rfl⟩) hP hD hS hA [0, 1] [] rfl rfl (by decide) (by decide) (fun r W' H locs hw hP hD hS => ?_)
    obtain ⟨rfl, rfl⟩ := hw
    have hP : va_P g.1 vwCl [(h0, .inr (11, (fs.set 54 (.int 0)))), (gu, .inl (gI g, 2, .inl f_gu))] H := hP
    have hD : va_D A [(h0, .inr (11, (fs.set 54 (.int 0)))), (gu, .inl (gI g, 2, .inl f_gu))] := hD
    refine lv_if_eq (tgt := 26) hx hb dX11_rivals_15 (by decide) (fun _ => ?_) (fun c2 => absurd (by decide) c2)
    refine lv_iconst (v := (-1)) hx hb dX11_rivals_26 (by decide) ?_
    have hP9 : va_P g.1 vwCl [] H := hP.sub [] rfl
    have hD9 : va_D A [] := hD.sub [] (by decide) rfl
    exact xi hx hb hr hlocks rfl hP9 hD9 hS ⟨rfl, rfl⟩ (Nat.le_of_ble_eq_true rfl) (Nat.le_of_ble_eq_true rfl) dX11_rivals_27

set_option maxHeartbeats 4000000 in
set_option maxRecDepth 100000 in
theorem c_X11_undo {l : Launch} {g : Gx} {h0 : Nat} {fs : List Value} (hl_fs : fs.length = 69) (h_fs_acts : fs[49]? = some (Value.int 0)) : MI l g yX11_undo cX11_undo 1 (some .boolean) 2 0 0 [.ref h0] [(h0, .inr (11, fs))] (fun r W' => 0 = r ∧ W' = []) := by
  refine MIof (by decide) (Nat.le_of_ble_eq_true rfl) ?_
  intro p e s m below meth c A ls H locs hcx hA hP hD hS hl
  obtain ⟨hx, hb, hml, hr, hlocks, hown, hts, hE, hnm⟩ := id hcx
  have hown : s.vm.findClass RX11 = some m.cls := hown
  have hK := hE.1
  have hl : lv_has ls 1 [(0, .ref h0)] := hl
  refine lv_aload_n hx hb dX11_undo_0 rfl (lv_at hl 0 rfl) ?_
  refine va_get (D := g.1) (ci := 11) (v := Value.int 0) (C := RX11) (T := TX11) (N := 69) hx hb hts inlX11 hown hK hP 0 rfl rfl 49 (by decide) (hts _ q14_22) (fun _ h9 => h9) h_fs_acts dX11_undo_1 ?_
  refine lv_if_ne (tgt := 9) hx hb dX11_undo_4 (by decide) (fun c1 => absurd (by decide) c1) (fun _ => ?_)
  refine lv_iconst (v := 0) hx hb dX11_undo_7 (by decide) ?_
  have hP9 : va_P g.1 vwCl [] H := hP.sub [] rfl
  have hD9 : va_D A [] := hD.sub [] (by decide) rfl
  exact xi hx hb hr hlocks rfl hP9 hD9 hS ⟨rfl, rfl⟩ (Nat.le_of_ble_eq_true rfl) (Nat.le_of_ble_eq_true rfl) dX11_undo_8

set_option maxHeartbeats 4000000 in
set_option maxRecDepth 100000 in
theorem c_X11_redo {l : Launch} {g : Gx} {h0 : Nat} {fs : List Value} (hl_fs : fs.length = 69) (h_fs_undone : fs[50]? = some (Value.int 0)) : MI l g yX11_redo cX11_redo 1 (some .boolean) 2 0 0 [.ref h0] [(h0, .inr (11, fs))] (fun r W' => 0 = r ∧ W' = []) := by
  refine MIof (by decide) (Nat.le_of_ble_eq_true rfl) ?_
  intro p e s m below meth c A ls H locs hcx hA hP hD hS hl
  obtain ⟨hx, hb, hml, hr, hlocks, hown, hts, hE, hnm⟩ := id hcx
  have hown : s.vm.findClass RX11 = some m.cls := hown
  have hK := hE.1
  have hl : lv_has ls 1 [(0, .ref h0)] := hl
  refine lv_aload_n hx hb dX11_redo_0 rfl (lv_at hl 0 rfl) ?_
  refine va_get (D := g.1) (ci := 11) (v := Value.int 0) (C := RX11) (T := TX11) (N := 69) hx hb hts inlX11 hown hK hP 0 rfl rfl 50 (by decide) (hts _ q14_23) (fun _ h9 => h9) h_fs_undone dX11_redo_1 ?_
  refine lv_if_ne (tgt := 9) hx hb dX11_redo_4 (by decide) (fun c1 => absurd (by decide) c1) (fun _ => ?_)
  refine lv_iconst (v := 0) hx hb dX11_redo_7 (by decide) ?_
  have hP9 : va_P g.1 vwCl [] H := hP.sub [] rfl
  have hD9 : va_D A [] := hD.sub [] (by decide) rfl
  exact xi hx hb hr hlocks rfl hP9 hD9 hS ⟨rfl, rfl⟩ (Nat.le_of_ble_eq_true rfl) (Nat.le_of_ble_eq_true rfl) dX11_redo_8

set_option maxHeartbeats 4000000 in
set_option maxRecDepth 100000 in
theorem c_X11_day {l : Launch} {g : Gx} {h0 al wa gu : Nat} {fs : List Value} {f_al : Nat → Int32} {f_wa : Nat → Int32} {f_gu : Nat → Int32} (hl_fs : fs.length = 69) (h_fs_all : fs[46]? = some (Value.ref al)) (h_fs_was : fs[48]? = some (Value.ref wa)) (h_fs_acts : fs[49]? = some (Value.int 0)) (h_fs_guilds : fs[12]? = some (Value.ref gu)) (h_fs_bank : fs[34]? = some (Value.int 0)) (h_f_al_20 : f_al 20 = 0) (h_f_al_21 : f_al 21 = 0) (h_f_al_22 : f_al 22 = 0) (h_f_gu_0 : f_gu 0 = 0) : MI l g yX11_day cX11_day 2 (some .int) 4 0 0 [.ref h0] [(h0, .inr (11, fs)), (al, .inl (gI g, 24, .inl f_al)), (wa, .inl (gI g, 984, .inl f_wa)), (gu, .inl (gI g, 2, .inl f_gu))] (fun r W' => 0 = r ∧ W' = []) := by
  refine MIof (by decide) (Nat.le_of_ble_eq_true rfl) ?_
  intro p e s m below meth c A ls H locs hcx hA hP hD hS hl
  obtain ⟨hx, hb, hml, hr, hlocks, hown, hts, hE, hnm⟩ := id hcx
  have hown : s.vm.findClass RX11 = some m.cls := hown
  have hK := hE.1
  have hl : lv_has ls 2 [(0, .ref h0)] := hl
  refine lv_aload_n hx hb dX11_day_0 rfl (lv_at hl 0 rfl) ?_
  refine va_get (D := g.1) (ci := 11) (v := Value.ref al) (C := RX11) (T := TX11) (N := 69) hx hb hts inlX11 hown hK hP 0 rfl rfl 46 (by decide) (hts _ q13_17) (fun _ h9 => h9) h_fs_all dX11_day_1 ?_
  refine lv_bipush (v := 22) hx hb dX11_day_4 (by decide) ?_
  refine ia_ld hx hb hK hP 1 1 rfl rfl (22) rfl (by decide) (by decide) dX11_day_6 ?_
  refine lv_tope (y := 0) h_f_al_22 ?_
  refine lv_sipush (v := 999) hx hb dX11_day_7 (by decide) ?_
  refine lv_icmp_ne (tgt := 15) hx hb dX11_day_10 (by decide) (fun _ => ?_) (fun c1 => absurd c1 (by decide))
  refine lv_aload_n hx hb dX11_day_15 rfl (lv_at hl 0 rfl) ?_
  refine kV (wc := [(h0, .inr (11, fs)), (al, .inl (gI g, 24, .inl f_al)), (wa, .inl (gI g, 984, .inl f_wa))]) (wr := [(gu, .inl (gI g, 2, .inl f_gu))]) (rV (As := []) (rest := []) (meth2 := "") hcx (c_X11_keepAct (hl_fs) (h_fs_all) (h_fs_was) (h_fs_acts) H.size) (gdV q42_3 q42_4 q42_5 q1_5 q42_6) dvX11_keepAct ⟨Nat.le_of_ble_eq_true rfl, Nat.le_of_ble_eq_true rfl⟩ (hP.sub [0, 1, 2] rfl) (hD.sub [0, 1, 2] (by decide) rfl) (va_recv hK hP (ci := 11) (q0 := 0) rfl rfl) rfl hl.1 rfl (Nat.le_of_ble_eq_true rfl) dX11_day_16 ⟨Nat.le_of_ble_eq_true rfl, Nat.le_of_ble_eq_true rfl⟩) hP hD hS hA [0, 1, 2] [3] rfl rfl (by decide) (by decide) (fun W' H locs hw hP hD hS => ?_)
  obtain ⟨f2, rfl⟩ := hw
  have hP : va_P g.1 vwCl [(gu, .inl (gI g, 2, .inl f_gu)), (h0, .inr (11, ((fs.set 49 (.int 1)).set 50 (.int 0)))), (al, .inl (gI g, 24, .inl f_al)), (wa, .inl (gI g, 984, .inl f2))] H := hP
  have hD : va_D A [(gu, .inl (gI g, 2, .inl f_gu)), (h0, .inr (11, ((fs.set 49 (.int 1)).set 50 (.int 0)))), (al, .inl (gI g, 24, .inl f_al)), (wa, .inl (gI g, 984, .inl f2))] := hD
  refine lv_aload_n hx hb dX11_day_19 rfl (lv_at hl 0 rfl) ?_
  refine va_get (D := g.1) (ci := 11) (v := Value.ref al) (C := RX11) (T := TX11) (N := 69) hx hb hts inlX11 hown hK hP 1 rfl rfl 46 (by decide) (hts _ q13_17) (fun _ h9 => h9) (fs_ne (fs_ne h_fs_all (by decide)) (by decide)) dX11_day_20 ?_
  refine lv_bipush (v := 20) hx hb dX11_day_23 (by decide) ?_
  refine ia_ld hx hb hK hP 2 1 rfl rfl (20) rfl (by decide) (by decide) dX11_day_25 ?_
  refine lv_tope (y := 0) h_f_al_20 ?_
  refine lv_istore_n (lv' := [(1, .int 0), (0, .ref h0)]) hx hb dX11_day_26 rfl hl (by decide) rfl (fun ls hl => ?_)
  refine lv_aload_n hx hb dX11_day_27 rfl (lv_at hl 1 rfl) ?_
  refine va_get (D := g.1) (ci := 11) (v := Value.ref al) (C := RX11) (T := TX11) (N := 69) hx hb hts inlX11 hown hK hP 1 rfl rfl 46 (by decide) (hts _ q13_17) (fun _ h9 => h9) (fs_ne (fs_ne h_fs_all (by decide)) (by decide)) dX11_day_28 ?_
  refine lv_bipush (v := 20) hx hb dX11_day_31 (by decide) ?_
  refine lv_aload_n hx hb dX11_day_33 rfl (lv_at hl 1 rfl) ?_
  refine kI (wc := [(h0, .inr (11, ((fs.set 49 (.int 1)).set 50 (.int 0)))), (gu, .inl (gI g, 2, .inl f_gu))]) (wr := [(al, .inl (gI g, 24, .inl f_al)), (wa, .inl (gI g, 984, .inl f2))]) (rV (As := []) (rest := [.int 20, .ref al]) (meth2 := "") hcx (c_X11_full ((by simp [hl_fs])) ((fs_ne (fs_ne h_fs_guilds (by decide)) (by decide))) ((fs_ne (fs_ne h_fs_bank (by decide)) (by decide))) (h_f_gu_0) H.size) (gdV q15_6 q15_7 q15_8 q1_5 q15_9) dvX11_full ⟨Nat.le_of_ble_eq_true rfl, Nat.le_of_ble_eq_true rfl⟩ (hP.sub [1, 0] rfl) (hD.sub [1, 0] (by decide) rfl) (va_recv hK hP (ci := 11) (q0 := 1) rfl rfl) rfl hl.1 rfl (Nat.le_of_ble_eq_true rfl) dX11_day_34 ⟨Nat.le_of_ble_eq_true rfl, Nat.le_of_ble_eq_true rfl⟩) hP hD hS hA [1, 0] [2, 3] rfl rfl (by decide) (by decide) (fun r W' H locs hw hP hD hS => ?_)
  obtain ⟨rfl, rfl⟩ := hw
  have hP : va_P g.1 vwCl [(al, .inl (gI g, 24, .inl f_al)), (wa, .inl (gI g, 984, .inl f2)), (h0, .inr (11, ((fs.set 49 (.int 1)).set 50 (.int 0)))), (gu, .inl (gI g, 2, .inl f_gu))] H := hP
  have hD : va_D A [(al, .inl (gI g, 24, .inl f_al)), (wa, .inl (gI g, 984, .inl f2)), (h0, .inr (11, ((fs.set 49 (.int 1)).set 50 (.int 0)))), (gu, .inl (gI g, 2, .inl f_gu))] := hD
  refine ia_st hx hb hK hP hD hS 0 1 rfl rfl (20) rfl (by decide) (by decide) dX11_day_37 (fun f3 H locs ef3 hP hD hS => ?_)
  have hf3_20 : f3 20 = 0 := by rw [ef3]; exact pk_us
  have hf3_21 : f3 21 = 0 := by rw [ef3]; exact (pk_un (by decide)).trans h_f_al_21
  have hf3_22 : f3 22 = 0 := by rw [ef3]; exact (pk_un (by decide)).trans h_f_al_22
  have hP : va_P g.1 vwCl [(al, .inl (gI g, 24, .inl f3)), (wa, .inl (gI g, 984, .inl f2)), (h0, .inr (11, ((fs.set 49 (.int 1)).set 50 (.int 0)))), (gu, .inl (gI g, 2, .inl f_gu))] H := hP
  have hD : va_D A [(al, .inl (gI g, 24, .inl f3)), (wa, .inl (gI g, 984, .inl f2)), (h0, .inr (11, ((fs.set 49 (.int 1)).set 50 (.int 0)))), (gu, .inl (gI g, 2, .inl f_gu))] := hD
  refine lv_aload_n hx hb dX11_day_38 rfl (lv_at hl 1 rfl) ?_
  refine va_get (D := g.1) (ci := 11) (v := Value.ref al) (C := RX11) (T := TX11) (N := 69) hx hb hts inlX11 hown hK hP 2 rfl rfl 46 (by decide) (hts _ q13_17) (fun _ h9 => h9) (fs_ne (fs_ne h_fs_all (by decide)) (by decide)) dX11_day_39 ?_
  refine lv_bipush (v := 21) hx hb dX11_day_42 (by decide) ?_
  refine lv_iconst (v := 0) hx hb dX11_day_44 (by decide) ?_
  refine ia_st hx hb hK hP hD hS 0 1 rfl rfl (21) rfl (by decide) (by decide) dX11_day_45 (fun f4 H locs ef4 hP hD hS => ?_)
  have hf4_20 : f4 20 = 0 := by rw [ef4]; exact (pk_un (by decide)).trans hf3_20
  have hf4_21 : f4 21 = 0 := by rw [ef4]; exact pk_us
  have hf4_22 : f4 22 = 0 := by rw [ef4]; exact (pk_un (by decide)).trans hf3_22
  have hP : va_P g.1 vwCl [(al, .inl (gI g, 24, .inl f4)), (wa, .inl (gI g, 984, .inl f2)), (h0, .inr (11, ((fs.set 49 (.int 1)).set 50 (.int 0)))), (gu, .inl (gI g, 2, .inl f_gu))] H := hP
  have hD : va_D A [(al, .inl (gI g, 24, .inl f4)), (wa, .inl (gI g, 984, .inl f2)), (h0, .inr (11, ((fs.set 49 (.int 1)).set 50 (.int 0)))), (gu, .inl (gI g, 2, .inl f_gu))] := hD
  refine lv_aload_n hx hb dX11_day_46 rfl (lv_at hl 1 rfl) ?_
  refine va_get (D := g.1) (ci := 11) (v := Value.ref al) (C := RX11) (T := TX11) (N := 69) hx hb hts inlX11 hown hK hP 2 rfl rfl 46 (by decide) (hts _ q13_17) (fun _ h9 => h9) (fs_ne (fs_ne h_fs_all (by decide)) (by decide)) dX11_day_47 ?_
  refine lv_bipush (v := 22) hx hb dX11_day_50 (by decide) ?_
  refine lv_dup2_11 hx hb dX11_day_52 rfl rfl ?_
  refine ia_ld hx hb hK hP 0 1 rfl rfl (22) rfl (by decide) (by decide) dX11_day_53 ?_
  refine lv_tope (y := 0) hf4_22 ?_
  refine lv_iconst (v := 1) hx hb dX11_day_54 (by decide) ?_
  refine lv_iadd hx hb dX11_day_55 ?_
  refine lv_tope (y := 1) (by decide) ?_
  refine ia_st hx hb hK hP hD hS 0 1 rfl rfl (22) rfl (by decide) (by decide) dX11_day_56 (fun f5 H locs ef5 hP hD hS => ?_)
  have hf5_20 : f5 20 = 0 := by rw [ef5]; exact (pk_un (by decide)).trans hf4_20
  have hf5_21 : f5 21 = 0 := by rw [ef5]; exact (pk_un (by decide)).trans hf4_21
  have hf5_22 : f5 22 = 1 := by rw [ef5]; exact pk_us
  have hP : va_P g.1 vwCl [(al, .inl (gI g, 24, .inl f5)), (wa, .inl (gI g, 984, .inl f2)), (h0, .inr (11, ((fs.set 49 (.int 1)).set 50 (.int 0)))), (gu, .inl (gI g, 2, .inl f_gu))] H := hP
  have hD : va_D A [(al, .inl (gI g, 24, .inl f5)), (wa, .inl (gI g, 984, .inl f2)), (h0, .inr (11, ((fs.set 49 (.int 1)).set 50 (.int 0)))), (gu, .inl (gI g, 2, .inl f_gu))] := hD
  refine lv_iload_n hx hb dX11_day_57 rfl (lv_at hl 0 rfl) ?_
  have hP9 : va_P g.1 vwCl [] H := hP.sub [] rfl
  have hD9 : va_D A [] := hD.sub [] (by decide) rfl
  exact xi hx hb hr hlocks rfl hP9 hD9 hS ⟨rfl, rfl⟩ (Nat.le_of_ble_eq_true rfl) (Nat.le_of_ble_eq_true rfl) dX11_day_58

set_option maxHeartbeats 4000000 in
set_option maxRecDepth 100000 in
theorem c_X11_will {l : Launch} {g : Gx} {h0 al ke co : Nat} {p0 : Int32} {p1 : Int32} {fs : List Value} {f_al : Nat → Int32} {f_ke : Nat → Int32} {f_co : Nat → Int32} (hl_fs : fs.length = 69) (h_fs_all : fs[46]? = some (Value.ref al)) (h_fs_kept : fs[51]? = some (Value.ref ke)) (h_fs_corners : fs[11]? = some (Value.ref co)) (h_fs_bank : fs[34]? = some (Value.int 0)) (h_f_al_20 : f_al 20 = 0) (h_f_al_21 : f_al 21 = 0) (h_f_co_0 : f_co 0 = 0) : MI l g yX11_will cX11_will 5 (some .int) 3 0 0 [.ref h0, .int p0, .int p1] [(h0, .inr (11, fs)), (al, .inl (gI g, 24, .inl f_al)), (ke, .inl (gI g, 24, .inl f_ke)), (co, .inl (gI g, 2, .inl f_co))] (fun r W' => r = sp_will p0 p1 ∧ W' = []) := by
  refine MIof (by decide) (Nat.le_of_ble_eq_true rfl) ?_
  intro p e s m below meth c A ls H locs hcx hA hP hD hS hl
  obtain ⟨hx, hb, hml, hr, hlocks, hown, hts, hE, hnm⟩ := id hcx
  have hown : s.vm.findClass RX11 = some m.cls := hown
  have hK := hE.1
  have hl : lv_has ls 5 [(0, .ref h0), (1, .int p0), (2, .int p1)] := hl
  refine lv_iload_n hx hb dX11_will_0 rfl (lv_at hl 1 rfl) ?_
  refine lv_iconst (v := 0) hx hb dX11_will_1 (by decide) ?_
  refine lv_bipush (v := 8) hx hb dX11_will_2 (by decide) ?_
  refine kI (wc := []) (wr := [(h0, .inr (11, fs)), (al, .inl (gI g, 24, .inl f_al)), (ke, .inl (gI g, 24, .inl f_ke)), (co, .inl (gI g, 2, .inl f_co))]) (rS (As := [.int p0, .int 0, .int 8]) (rest := []) hcx (c_X11_isIn H.size) (gdS q34_17 q34_18 q1_5 q34_19) dvX11_isIn.2 ⟨Nat.le_of_ble_eq_true rfl, Nat.le_of_ble_eq_true rfl⟩ (hP.sub [] rfl) (hD.sub [] (by decide) rfl) rfl hl.1 rfl (Nat.le_of_ble_eq_true rfl) dX11_will_4 ⟨Nat.le_of_ble_eq_true rfl, Nat.le_of_ble_eq_true rfl⟩) hP hD hS hA [] [0, 1, 2, 3] rfl rfl (by decide) (by decide) (fun r W' H locs hw hP hD hS => ?_)
  obtain ⟨⟨c2, rfl⟩ | ⟨⟨c2a, c2b⟩, rfl⟩, rfl⟩ := hw
  · have hP : va_P g.1 vwCl [(h0, .inr (11, fs)), (al, .inl (gI g, 24, .inl f_al)), (ke, .inl (gI g, 24, .inl f_ke)), (co, .inl (gI g, 2, .inl f_co))] H := hP
    have hD : va_D A [(h0, .inr (11, fs)), (al, .inl (gI g, 24, .inl f_al)), (ke, .inl (gI g, 24, .inl f_ke)), (co, .inl (gI g, 2, .inl f_co))] := hD
    refine lv_if_eq (tgt := 19) hx hb dX11_will_7 (by decide) (fun _ => ?_) (fun c3 => absurd (by decide) c3)
    refine lv_iconst (v := (-1)) hx hb dX11_will_19 (by decide) ?_
    have hP9 : va_P g.1 vwCl [] H := hP.sub [] rfl
    have hD9 : va_D A [] := hD.sub [] (by decide) rfl
    exact xi hx hb hr hlocks rfl hP9 hD9 hS ⟨(by rcases c2 with c2 | c2 <;> simp [sp_will, c2]), rfl⟩ (Nat.le_of_ble_eq_true rfl) (Nat.le_of_ble_eq_true rfl) dX11_will_20
  · have hP : va_P g.1 vwCl [(h0, .inr (11, fs)), (al, .inl (gI g, 24, .inl f_al)), (ke, .inl (gI g, 24, .inl f_ke)), (co, .inl (gI g, 2, .inl f_co))] H := hP
    have hD : va_D A [(h0, .inr (11, fs)), (al, .inl (gI g, 24, .inl f_al)), (ke, .inl (gI g, 24, .inl f_ke)), (co, .inl (gI g, 2, .inl f_co))] := hD
    refine lv_if_eq (tgt := 19) hx hb dX11_will_7 (by decide) (fun c4 => absurd c4 (by decide)) (fun _ => ?_)
    refine lv_iload_n hx hb dX11_will_10 rfl (lv_at hl 2 rfl) ?_
    refine lv_iconst (v := 0) hx hb dX11_will_11 (by decide) ?_
    refine lv_iconst (v := 1) hx hb dX11_will_12 (by decide) ?_
    refine kI (wc := []) (wr := [(h0, .inr (11, fs)), (al, .inl (gI g, 24, .inl f_al)), (ke, .inl (gI g, 24, .inl f_ke)), (co, .inl (gI g, 2, .inl f_co))]) (rS (As := [.int p1, .int 0, .int 1]) (rest := []) hcx (c_X11_isIn H.size) (gdS q34_17 q34_18 q1_5 q34_19) dvX11_isIn.2 ⟨Nat.le_of_ble_eq_true rfl, Nat.le_of_ble_eq_true rfl⟩ (hP.sub [] rfl) (hD.sub [] (by decide) rfl) rfl hl.1 rfl (Nat.le_of_ble_eq_true rfl) dX11_will_13 ⟨Nat.le_of_ble_eq_true rfl, Nat.le_of_ble_eq_true rfl⟩) hP hD hS hA [] [0, 1, 2, 3] rfl rfl (by decide) (by decide) (fun r W' H locs hw hP hD hS => ?_)
    obtain ⟨⟨c6, rfl⟩ | ⟨⟨c6a, c6b⟩, rfl⟩, rfl⟩ := hw
    · have hP : va_P g.1 vwCl [(h0, .inr (11, fs)), (al, .inl (gI g, 24, .inl f_al)), (ke, .inl (gI g, 24, .inl f_ke)), (co, .inl (gI g, 2, .inl f_co))] H := hP
      have hD : va_D A [(h0, .inr (11, fs)), (al, .inl (gI g, 24, .inl f_al)), (ke, .inl (gI g, 24, .inl f_ke)), (co, .inl (gI g, 2, .inl f_co))] := hD
      refine lv_if_ne (tgt := 21) hx hb dX11_will_16 (by decide) (fun c7 => absurd (by decide) c7) (fun _ => ?_)
      refine lv_iconst (v := (-1)) hx hb dX11_will_19 (by decide) ?_
      have hP9 : va_P g.1 vwCl [] H := hP.sub [] rfl
      have hD9 : va_D A [] := hD.sub [] (by decide) rfl
      exact xi hx hb hr hlocks rfl hP9 hD9 hS ⟨(by rcases c6 with c6 | c6 <;> simp [sp_will, c2a, c2b, c6]), rfl⟩ (Nat.le_of_ble_eq_true rfl) (Nat.le_of_ble_eq_true rfl) dX11_will_20
    · have hP : va_P g.1 vwCl [(h0, .inr (11, fs)), (al, .inl (gI g, 24, .inl f_al)), (ke, .inl (gI g, 24, .inl f_ke)), (co, .inl (gI g, 2, .inl f_co))] H := hP
      have hD : va_D A [(h0, .inr (11, fs)), (al, .inl (gI g, 24, .inl f_al)), (ke, .inl (gI g, 24, .inl f_ke)), (co, .inl (gI g, 2, .inl f_co))] := hD
      refine lv_if_ne (tgt := 21) hx hb dX11_will_16 (by decide) (fun _ => ?_) (fun c8 => absurd c8 (by decide))
      refine lv_aload_n hx hb dX11_will_21 rfl (lv_at hl 0 rfl) ?_
      refine kV (wc := [(h0, .inr (11, fs)), (al, .inl (gI g, 24, .inl f_al)), (ke, .inl (gI g, 24, .inl f_ke))]) (wr := [(co, .inl (gI g, 2, .inl f_co))]) (rV (As := []) (rest := []) (meth2 := "") hcx (c_X11_keepNow (hl_fs) (h_fs_all) (h_fs_kept) H.size) (gdV q47_9 q47_10 q47_11 q1_5 q47_12) dvX11_keepNow ⟨Nat.le_of_ble_eq_true rfl, Nat.le_of_ble_eq_true rfl⟩ (hP.sub [0, 1, 2] rfl) (hD.sub [0, 1, 2] (by decide) rfl) (va_recv hK hP (ci := 11) (q0 := 0) rfl rfl) rfl hl.1 rfl (Nat.le_of_ble_eq_true rfl) dX11_will_22 ⟨Nat.le_of_ble_eq_true rfl, Nat.le_of_ble_eq_true rfl⟩) hP hD hS hA [0, 1, 2] [3] rfl rfl (by decide) (by decide) (fun W' H locs hw hP hD hS => ?_)
      obtain ⟨f9, rfl⟩ := hw
      have hP : va_P g.1 vwCl [(co, .inl (gI g, 2, .inl f_co)), (h0, .inr (11, fs)), (al, .inl (gI g, 24, .inl f_al)), (ke, .inl (gI g, 24, .inl f9))] H := hP
      have hD : va_D A [(co, .inl (gI g, 2, .inl f_co)), (h0, .inr (11, fs)), (al, .inl (gI g, 24, .inl f_al)), (ke, .inl (gI g, 24, .inl f9))] := hD
      refine lv_iconst (v := 0) hx hb dX11_will_25 (by decide) ?_
      refine lv_istore_n (lv' := [(3, .int 0), (0, .ref h0), (1, .int p0), (2, .int p1)]) hx hb dX11_will_26 rfl hl (by decide) rfl (fun ls hl => ?_)
      refine lv_iconst (v := 0) hx hb dX11_will_27 (by decide) ?_
      refine lv_istore (lv' := [(4, .int 0), (3, .int 0), (0, .ref h0), (1, .int p0), (2, .int p1)]) hx hb dX11_will_28 hl (by decide) rfl (fun ls hl => ?_)
      refine lv_iload hx hb dX11_will_30 (lv_at hl 0 rfl) ?_
      refine lv_iload_n hx hb dX11_will_32 rfl (lv_at hl 3 rfl) ?_
      refine lv_icmp_ge (tgt := 74) hx hb dX11_will_33 (by decide) (fun c10 => ?_) (fun c10 => ?_)
      · refine lv_aload_n hx hb dX11_will_74 rfl (lv_at hl 2 rfl) ?_
        refine va_get (D := g.1) (ci := 11) (v := Value.ref al) (C := RX11) (T := TX11) (N := 69) hx hb hts inlX11 hown hK hP 1 rfl rfl 46 (by decide) (hts _ q13_17) (fun _ h9 => h9) h_fs_all dX11_will_75 ?_
        refine lv_bipush (v := 20) hx hb dX11_will_78 (by decide) ?_
        refine ia_ld hx hb hK hP 2 1 rfl rfl (20) rfl (by decide) (by decide) dX11_will_80 ?_
        refine lv_tope (y := 0) h_f_al_20 ?_
        refine lv_istore_n (lv' := [(3, .int 0), (4, .int 0), (0, .ref h0), (1, .int p0), (2, .int p1)]) hx hb dX11_will_81 rfl hl (by decide) rfl (fun ls hl => ?_)
        refine lv_aload_n hx hb dX11_will_82 rfl (lv_at hl 2 rfl) ?_
        refine kV (wc := [(h0, .inr (11, fs)), (al, .inl (gI g, 24, .inl f_al)), (ke, .inl (gI g, 24, .inl f9))]) (wr := [(co, .inl (gI g, 2, .inl f_co))]) (rV (As := []) (rest := []) (meth2 := "") hcx (c_X11_bringBack (hl_fs) (h_fs_all) (h_fs_kept) H.size) (gdV q47_13 q47_14 q47_15 q1_5 q47_16) dvX11_bringBack ⟨Nat.le_of_ble_eq_true rfl, Nat.le_of_ble_eq_true rfl⟩ (hP.sub [1, 2, 3] rfl) (hD.sub [1, 2, 3] (by decide) rfl) (va_recv hK hP (ci := 11) (q0 := 1) rfl rfl) rfl hl.1 rfl (Nat.le_of_ble_eq_true rfl) dX11_will_83 ⟨Nat.le_of_ble_eq_true rfl, Nat.le_of_ble_eq_true rfl⟩) hP hD hS hA [1, 2, 3] [0] rfl rfl (by decide) (by decide) (fun W' H locs hw hP hD hS => ?_)
        obtain ⟨f11, rfl⟩ := hw
        have hP : va_P g.1 vwCl [(co, .inl (gI g, 2, .inl f_co)), (h0, .inr (11, fs)), (al, .inl (gI g, 24, .inl f11)), (ke, .inl (gI g, 24, .inl f9))] H := hP
        have hD : va_D A [(co, .inl (gI g, 2, .inl f_co)), (h0, .inr (11, fs)), (al, .inl (gI g, 24, .inl f11)), (ke, .inl (gI g, 24, .inl f9))] := hD
        refine lv_iload_n hx hb dX11_will_86 rfl (lv_at hl 0 rfl) ?_
        have hP9 : va_P g.1 vwCl [] H := hP.sub [] rfl
        have hD9 : va_D A [] := hD.sub [] (by decide) rfl
        exact xi hx hb hr hlocks rfl hP9 hD9 hS ⟨(by simp [sp_will, c2a, c2b, c6a, c6b, c10]), rfl⟩ (Nat.le_of_ble_eq_true rfl) (Nat.le_of_ble_eq_true rfl) dX11_will_87
      · refine lv_aload_n hx hb dX11_will_36 rfl (lv_at hl 2 rfl) ?_
        refine va_get (D := g.1) (ci := 11) (v := Value.ref al) (C := RX11) (T := TX11) (N := 69) hx hb hts inlX11 hown hK hP 1 rfl rfl 46 (by decide) (hts _ q13_17) (fun _ h9 => h9) h_fs_all dX11_will_37 ?_
        refine lv_bipush (v := 21) hx hb dX11_will_40 (by decide) ?_
        refine ia_ld hx hb hK hP 2 1 rfl rfl (21) rfl (by decide) (by decide) dX11_will_42 ?_
        refine lv_tope (y := 0) h_f_al_21 ?_
        refine lv_aload_n hx hb dX11_will_43 rfl (lv_at hl 2 rfl) ?_
        refine kI (wc := [(h0, .inr (11, fs)), (co, .inl (gI g, 2, .inl f_co))]) (wr := [(al, .inl (gI g, 24, .inl f_al)), (ke, .inl (gI g, 24, .inl f9))]) (rV (As := []) (rest := [.int 0]) (meth2 := "") hcx (c_X11_ways (hl_fs) (h_fs_corners) (h_fs_bank) (h_f_co_0) H.size) (gdV q36_17 q36_18 q36_19 q1_5 q36_20) dvX11_ways ⟨Nat.le_of_ble_eq_true rfl, Nat.le_of_ble_eq_true rfl⟩ (hP.sub [1, 0] rfl) (hD.sub [1, 0] (by decide) rfl) (va_recv hK hP (ci := 11) (q0 := 1) rfl rfl) rfl hl.1 rfl (Nat.le_of_ble_eq_true rfl) dX11_will_44 ⟨Nat.le_of_ble_eq_true rfl, Nat.le_of_ble_eq_true rfl⟩) hP hD hS hA [1, 0] [2, 3] rfl rfl (by decide) (by decide) (fun r W' H locs hw hP hD hS => ?_)
        obtain ⟨rfl, rfl⟩ := hw
        have hP : va_P g.1 vwCl [(al, .inl (gI g, 24, .inl f_al)), (ke, .inl (gI g, 24, .inl f9)), (h0, .inr (11, fs)), (co, .inl (gI g, 2, .inl f_co))] H := hP
        have hD : va_D A [(al, .inl (gI g, 24, .inl f_al)), (ke, .inl (gI g, 24, .inl f9)), (h0, .inr (11, fs)), (co, .inl (gI g, 2, .inl f_co))] := hD
        refine lv_icmp_ge (tgt := 74) hx hb dX11_will_47 (by decide) (fun _ => ?_) (fun c12 => absurd (by decide) c12)
        refine lv_aload_n hx hb dX11_will_74 rfl (lv_at hl 2 rfl) ?_
        refine va_get (D := g.1) (ci := 11) (v := Value.ref al) (C := RX11) (T := TX11) (N := 69) hx hb hts inlX11 hown hK hP 2 rfl rfl 46 (by decide) (hts _ q13_17) (fun _ h9 => h9) h_fs_all dX11_will_75 ?_
        refine lv_bipush (v := 20) hx hb dX11_will_78 (by decide) ?_
        refine ia_ld hx hb hK hP 0 1 rfl rfl (20) rfl (by decide) (by decide) dX11_will_80 ?_
        refine lv_tope (y := 0) h_f_al_20 ?_
        refine lv_istore_n (lv' := [(3, .int 0), (4, .int 0), (0, .ref h0), (1, .int p0), (2, .int p1)]) hx hb dX11_will_81 rfl hl (by decide) rfl (fun ls hl => ?_)
        refine lv_aload_n hx hb dX11_will_82 rfl (lv_at hl 2 rfl) ?_
        refine kV (wc := [(h0, .inr (11, fs)), (al, .inl (gI g, 24, .inl f_al)), (ke, .inl (gI g, 24, .inl f9))]) (wr := [(co, .inl (gI g, 2, .inl f_co))]) (rV (As := []) (rest := []) (meth2 := "") hcx (c_X11_bringBack (hl_fs) (h_fs_all) (h_fs_kept) H.size) (gdV q47_13 q47_14 q47_15 q1_5 q47_16) dvX11_bringBack ⟨Nat.le_of_ble_eq_true rfl, Nat.le_of_ble_eq_true rfl⟩ (hP.sub [2, 0, 1] rfl) (hD.sub [2, 0, 1] (by decide) rfl) (va_recv hK hP (ci := 11) (q0 := 2) rfl rfl) rfl hl.1 rfl (Nat.le_of_ble_eq_true rfl) dX11_will_83 ⟨Nat.le_of_ble_eq_true rfl, Nat.le_of_ble_eq_true rfl⟩) hP hD hS hA [2, 0, 1] [3] rfl rfl (by decide) (by decide) (fun W' H locs hw hP hD hS => ?_)
        obtain ⟨f13, rfl⟩ := hw
        have hP : va_P g.1 vwCl [(co, .inl (gI g, 2, .inl f_co)), (h0, .inr (11, fs)), (al, .inl (gI g, 24, .inl f13)), (ke, .inl (gI g, 24, .inl f9))] H := hP
        have hD : va_D A [(co, .inl (gI g, 2, .inl f_co)), (h0, .inr (11, fs)), (al, .inl (gI g, 24, .inl f13)), (ke, .inl (gI g, 24, .inl f9))] := hD
        refine lv_iload_n hx hb dX11_will_86 rfl (lv_at hl 0 rfl) ?_
        have hP9 : va_P g.1 vwCl [] H := hP.sub [] rfl
        have hD9 : va_D A [] := hD.sub [] (by decide) rfl
        exact xi hx hb hr hlocks rfl hP9 hD9 hS ⟨(by simp [sp_will, c2a, c2b, c6a, c6b, c10]), rfl⟩ (Nat.le_of_ble_eq_true rfl) (Nat.le_of_ble_eq_true rfl) dX11_will_87

set_option maxHeartbeats 4000000 in
set_option maxRecDepth 100000 in
theorem c_X11_largest {l : Launch} {g : Gx} {h0 al ke fe co gu : Nat} {fs : List Value} {f_al : Nat → Int32} {f_ke : Nat → Int32} {f_fe : Nat → Int32} {f_co : Nat → Int32} {f_gu : Nat → Int32} (hl_fs : fs.length = 69) (h_fs_all : fs[46]? = some (Value.ref al)) (h_fs_kept : fs[51]? = some (Value.ref ke)) (h_fs_fell : fs[53]? = some (Value.ref fe)) (h_fs_corners : fs[11]? = some (Value.ref co)) (h_fs_guilds : fs[12]? = some (Value.ref gu)) (h_fs_bank : fs[34]? = some (Value.int 0)) (h_f_al_20 : f_al 20 = 0) (h_f_al_21 : f_al 21 = 0) (h_f_co_0 : f_co 0 = 0) (h_f_gu_0 : f_gu 0 = 0) : MI l g yX11_largest cX11_largest 5 (some .int) 5 0 0 [.ref h0] [(h0, .inr (11, fs)), (al, .inl (gI g, 24, .inl f_al)), (ke, .inl (gI g, 24, .inl f_ke)), (fe, .inl (gI g, 8, .inl f_fe)), (co, .inl (gI g, 2, .inl f_co)), (gu, .inl (gI g, 2, .inl f_gu))] (fun r W' => 0 = r ∧ W' = []) := by
  refine MIof (by decide) (Nat.le_of_ble_eq_true rfl) ?_
  intro p e s m below meth c A ls H locs hcx hA hP hD hS hl
  obtain ⟨hx, hb, hml, hr, hlocks, hown, hts, hE, hnm⟩ := id hcx
  have hown : s.vm.findClass RX11 = some m.cls := hown
  have hK := hE.1
  have hl : lv_has ls 5 [(0, .ref h0)] := hl
  refine lv_aload_n hx hb dX11_largest_0 rfl (lv_at hl 0 rfl) ?_
  refine lv_iconst (v := 0) hx hb dX11_largest_1 (by decide) ?_
  refine va_put (D := g.1) (ci := 11) (v := Value.int 0) (ty := .int) (C := RX11) (T := TX11) (N := 69) hx hb hts inlX11 tyX11 tyX11_ok nmX11 hown hK hP hD hS 0 rfl rfl 54 (by decide) (hts _ q15_1) (fun _ h9 => h9) rfl (by decide +kernel) rfl rfl (by simp [hl_fs]) dX11_largest_2 (fun H locs hP hD hS => ?_)
  have hP : va_P g.1 vwCl [(h0, .inr (11, (fs.set 54 (.int 0)))), (al, .inl (gI g, 24, .inl f_al)), (ke, .inl (gI g, 24, .inl f_ke)), (fe, .inl (gI g, 8, .inl f_fe)), (co, .inl (gI g, 2, .inl f_co)), (gu, .inl (gI g, 2, .inl f_gu))] H := hP
  have hD : va_D A [(h0, .inr (11, (fs.set 54 (.int 0)))), (al, .inl (gI g, 24, .inl f_al)), (ke, .inl (gI g, 24, .inl f_ke)), (fe, .inl (gI g, 8, .inl f_fe)), (co, .inl (gI g, 2, .inl f_co)), (gu, .inl (gI g, 2, .inl f_gu))] := hD
  refine lv_iconst (v := (-1)) hx hb dX11_largest_5 (by decide) ?_
  refine lv_istore_n (lv' := [(1, .int (-1)), (0, .ref h0)]) hx hb dX11_largest_6 rfl hl (by decide) rfl (fun ls hl => ?_)
  refine lv_iconst (v := 0) hx hb dX11_largest_7 (by decide) ?_
  refine lv_istore_n (lv' := [(2, .int 0), (1, .int (-1)), (0, .ref h0)]) hx hb dX11_largest_8 rfl hl (by decide) rfl (fun ls hl => ?_)
  refine lv_iconst (v := 0) hx hb dX11_largest_9 (by decide) ?_
  refine lv_istore_n (lv' := [(3, .int 0), (2, .int 0), (1, .int (-1)), (0, .ref h0)]) hx hb dX11_largest_10 rfl hl (by decide) rfl (fun ls hl => ?_)
  refine lv_iload_n hx hb dX11_largest_11 rfl (lv_at hl 0 rfl) ?_
  refine lv_iconst (v := 4) hx hb dX11_largest_12 (by decide) ?_
  refine lv_aload_n hx hb dX11_largest_13 rfl (lv_at hl 3 rfl) ?_
  refine kI (wc := [(h0, .inr (11, (fs.set 54 (.int 0)))), (gu, .inl (gI g, 2, .inl f_gu))]) (wr := [(al, .inl (gI g, 24, .inl f_al)), (ke, .inl (gI g, 24, .inl f_ke)), (fe, .inl (gI g, 8, .inl f_fe)), (co, .inl (gI g, 2, .inl f_co))]) (rV (As := []) (rest := [.int 4, .int 0]) (meth2 := "") hcx (c_X11_many ((by simp [hl_fs])) ((fs_ne h_fs_guilds (by decide))) ((fs_ne h_fs_bank (by decide))) (h_f_gu_0) H.size) (gdV q15_2 q15_3 q15_4 q1_5 q15_5) dvX11_many ⟨Nat.le_of_ble_eq_true rfl, Nat.le_of_ble_eq_true rfl⟩ (hP.sub [0, 5] rfl) (hD.sub [0, 5] (by decide) rfl) (va_recv hK hP (ci := 11) (q0 := 0) rfl rfl) rfl hl.1 rfl (Nat.le_of_ble_eq_true rfl) dX11_largest_14 ⟨Nat.le_of_ble_eq_true rfl, Nat.le_of_ble_eq_true rfl⟩) hP hD hS hA [0, 5] [1, 2, 3, 4] rfl rfl (by decide) (by decide) (fun r W' H locs hw hP hD hS => ?_)
  obtain ⟨rfl, rfl⟩ := hw
  have hP : va_P g.1 vwCl [(al, .inl (gI g, 24, .inl f_al)), (ke, .inl (gI g, 24, .inl f_ke)), (fe, .inl (gI g, 8, .inl f_fe)), (co, .inl (gI g, 2, .inl f_co)), (h0, .inr (11, (fs.set 54 (.int 0)))), (gu, .inl (gI g, 2, .inl f_gu))] H := hP
  have hD : va_D A [(al, .inl (gI g, 24, .inl f_al)), (ke, .inl (gI g, 24, .inl f_ke)), (fe, .inl (gI g, 8, .inl f_fe)), (co, .inl (gI g, 2, .inl f_co)), (h0, .inr (11, (fs.set 54 (.int 0)))), (gu, .inl (gI g, 2, .inl f_gu))] := hD
  refine kI (wc := []) (wr := [(al, .inl (gI g, 24, .inl f_al)), (ke, .inl (gI g, 24, .inl f_ke)), (fe, .inl (gI g, 8, .inl f_fe)), (co, .inl (gI g, 2, .inl f_co)), (h0, .inr (11, (fs.set 54 (.int 0)))), (gu, .inl (gI g, 2, .inl f_gu))]) (rS (As := [.int 4, .int 0]) (rest := [.int 0]) hcx (c_X11_power_4 H.size) (gdS q51_14 q51_15 q1_5 q51_16) dvX11_power.2 ⟨Nat.le_of_ble_eq_true rfl, Nat.le_of_ble_eq_true rfl⟩ (hP.sub [] rfl) (hD.sub [] (by decide) rfl) rfl hl.1 rfl (Nat.le_of_ble_eq_true rfl) dX11_largest_17 ⟨Nat.le_of_ble_eq_true rfl, Nat.le_of_ble_eq_true rfl⟩) hP hD hS hA [] [0, 1, 2, 3, 4, 5] rfl rfl (by decide) (by decide) (fun r W' H locs hw hP hD hS => ?_)
  obtain ⟨rfl, rfl⟩ := hw
  have hP : va_P g.1 vwCl [(al, .inl (gI g, 24, .inl f_al)), (ke, .inl (gI g, 24, .inl f_ke)), (fe, .inl (gI g, 8, .inl f_fe)), (co, .inl (gI g, 2, .inl f_co)), (h0, .inr (11, (fs.set 54 (.int 0)))), (gu, .inl (gI g, 2, .inl f_gu))] H := hP
  have hD : va_D A [(al, .inl (gI g, 24, .inl f_al)), (ke, .inl (gI g, 24, .inl f_ke)), (fe, .inl (gI g, 8, .inl f_fe)), (co, .inl (gI g, 2, .inl f_co)), (h0, .inr (11, (fs.set 54 (.int 0)))), (gu, .inl (gI g, 2, .inl f_gu))] := hD
  refine lv_icmp_ge (tgt := 50) hx hb dX11_largest_20 (by decide) (fun c1 => absurd c1 (by decide)) (fun _ => ?_)
  refine lv_aload_n hx hb dX11_largest_23 rfl (lv_at hl 3 rfl) ?_
  refine lv_iload_n hx hb dX11_largest_24 rfl (lv_at hl 0 rfl) ?_
  refine kI (wc := [(h0, .inr (11, (fs.set 54 (.int 0)))), (al, .inl (gI g, 24, .inl f_al)), (ke, .inl (gI g, 24, .inl f_ke)), (fe, .inl (gI g, 8, .inl f_fe)), (co, .inl (gI g, 2, .inl f_co)), (gu, .inl (gI g, 2, .inl f_gu))]) (wr := []) (rV (As := [.int 0]) (rest := []) (meth2 := "") hcx (c_X11_clothBy ((by simp [hl_fs])) ((fs_ne h_fs_all (by decide))) ((fs_ne h_fs_kept (by decide))) ((fs_ne h_fs_fell (by decide))) ((fs_ne h_fs_corners (by decide))) ((fs_ne h_fs_guilds (by decide))) ((fs_ne h_fs_bank (by decide))) (h_f_al_20) (h_f_al_21) (h_f_co_0) (h_f_gu_0) H.size) (gdV q51_17 q51_18 q51_19 q1_5 q51_20) dvX11_clothBy ⟨Nat.le_of_ble_eq_true rfl, Nat.le_of_ble_eq_true rfl⟩ (hP.sub [4, 0, 1, 2, 3, 5] rfl) (hD.sub [4, 0, 1, 2, 3, 5] (by decide) rfl) (va_recv hK hP (ci := 11) (q0 := 4) rfl rfl) rfl hl.1 rfl (Nat.le_of_ble_eq_true rfl) dX11_largest_25 ⟨Nat.le_of_ble_eq_true rfl, Nat.le_of_ble_eq_true rfl⟩) hP hD hS hA [4, 0, 1, 2, 3, 5] [] rfl rfl (by decide) (by decide) (fun r W' H locs hw hP hD hS => ?_)
  obtain ⟨rfl, f2, f3, f4, rfl⟩ := hw
  have hP : va_P g.1 vwCl [(h0, .inr (11, (fs.set 54 (.int 0)))), (al, .inl (gI g, 24, .inl f2)), (ke, .inl (gI g, 24, .inl f3)), (fe, .inl (gI g, 8, .inl f4)), (co, .inl (gI g, 2, .inl f_co)), (gu, .inl (gI g, 2, .inl f_gu))] H := hP
  have hD : va_D A [(h0, .inr (11, (fs.set 54 (.int 0)))), (al, .inl (gI g, 24, .inl f2)), (ke, .inl (gI g, 24, .inl f3)), (fe, .inl (gI g, 8, .inl f4)), (co, .inl (gI g, 2, .inl f_co)), (gu, .inl (gI g, 2, .inl f_gu))] := hD
  refine lv_istore (lv' := [(4, .int 0), (3, .int 0), (2, .int 0), (1, .int (-1)), (0, .ref h0)]) hx hb dX11_largest_28 hl (by decide) rfl (fun ls hl => ?_)
  refine lv_iload hx hb dX11_largest_30 (lv_at hl 0 rfl) ?_
  refine lv_iload_n hx hb dX11_largest_32 rfl (lv_at hl 3 rfl) ?_
  refine lv_icmp_gt (tgt := 39) hx hb dX11_largest_33 (by decide) (fun _ => ?_) (fun c5 => absurd (by decide) c5)
  refine lv_iload hx hb dX11_largest_39 (lv_at hl 0 rfl) ?_
  refine lv_istore_n (lv' := [(1, .int 0), (4, .int 0), (3, .int 0), (2, .int 0), (0, .ref h0)]) hx hb dX11_largest_41 rfl hl (by decide) rfl (fun ls hl => ?_)
  refine lv_iload_n hx hb dX11_largest_42 rfl (lv_at hl 2 rfl) ?_
  refine lv_istore_n (lv' := [(2, .int 0), (1, .int 0), (4, .int 0), (3, .int 0), (0, .ref h0)]) hx hb dX11_largest_43 rfl hl (by decide) rfl (fun ls hl => ?_)
  refine lv_iinc (v := 1) (lv' := [(3, .int 1), (2, .int 0), (1, .int 0), (4, .int 0), (0, .ref h0)]) hx hb dX11_largest_44 hl (k := 3) rfl (by decide) (by decide) rfl (fun ls hl => ?_)
  refine lv_goto (tgt := 11) hx hb dX11_largest_47 (by decide) ?_
  refine lv_iload_n hx hb dX11_largest_11 rfl (lv_at hl 0 rfl) ?_
  refine lv_iconst (v := 4) hx hb dX11_largest_12 (by decide) ?_
  refine lv_aload_n hx hb dX11_largest_13 rfl (lv_at hl 4 rfl) ?_
  refine kI (wc := [(h0, .inr (11, (fs.set 54 (.int 0)))), (gu, .inl (gI g, 2, .inl f_gu))]) (wr := [(al, .inl (gI g, 24, .inl f2)), (ke, .inl (gI g, 24, .inl f3)), (fe, .inl (gI g, 8, .inl f4)), (co, .inl (gI g, 2, .inl f_co))]) (rV (As := []) (rest := [.int 4, .int 1]) (meth2 := "") hcx (c_X11_many ((by simp [hl_fs])) ((fs_ne h_fs_guilds (by decide))) ((fs_ne h_fs_bank (by decide))) (h_f_gu_0) H.size) (gdV q15_2 q15_3 q15_4 q1_5 q15_5) dvX11_many ⟨Nat.le_of_ble_eq_true rfl, Nat.le_of_ble_eq_true rfl⟩ (hP.sub [0, 5] rfl) (hD.sub [0, 5] (by decide) rfl) (va_recv hK hP (ci := 11) (q0 := 0) rfl rfl) rfl hl.1 rfl (Nat.le_of_ble_eq_true rfl) dX11_largest_14 ⟨Nat.le_of_ble_eq_true rfl, Nat.le_of_ble_eq_true rfl⟩) hP hD hS hA [0, 5] [1, 2, 3, 4] rfl rfl (by decide) (by decide) (fun r W' H locs hw hP hD hS => ?_)
  obtain ⟨rfl, rfl⟩ := hw
  have hP : va_P g.1 vwCl [(al, .inl (gI g, 24, .inl f2)), (ke, .inl (gI g, 24, .inl f3)), (fe, .inl (gI g, 8, .inl f4)), (co, .inl (gI g, 2, .inl f_co)), (h0, .inr (11, (fs.set 54 (.int 0)))), (gu, .inl (gI g, 2, .inl f_gu))] H := hP
  have hD : va_D A [(al, .inl (gI g, 24, .inl f2)), (ke, .inl (gI g, 24, .inl f3)), (fe, .inl (gI g, 8, .inl f4)), (co, .inl (gI g, 2, .inl f_co)), (h0, .inr (11, (fs.set 54 (.int 0)))), (gu, .inl (gI g, 2, .inl f_gu))] := hD
  refine kI (wc := []) (wr := [(al, .inl (gI g, 24, .inl f2)), (ke, .inl (gI g, 24, .inl f3)), (fe, .inl (gI g, 8, .inl f4)), (co, .inl (gI g, 2, .inl f_co)), (h0, .inr (11, (fs.set 54 (.int 0)))), (gu, .inl (gI g, 2, .inl f_gu))]) (rS (As := [.int 4, .int 0]) (rest := [.int 1]) hcx (c_X11_power_4 H.size) (gdS q51_14 q51_15 q1_5 q51_16) dvX11_power.2 ⟨Nat.le_of_ble_eq_true rfl, Nat.le_of_ble_eq_true rfl⟩ (hP.sub [] rfl) (hD.sub [] (by decide) rfl) rfl hl.1 rfl (Nat.le_of_ble_eq_true rfl) dX11_largest_17 ⟨Nat.le_of_ble_eq_true rfl, Nat.le_of_ble_eq_true rfl⟩) hP hD hS hA [] [0, 1, 2, 3, 4, 5] rfl rfl (by decide) (by decide) (fun r W' H locs hw hP hD hS => ?_)
  obtain ⟨rfl, rfl⟩ := hw
  have hP : va_P g.1 vwCl [(al, .inl (gI g, 24, .inl f2)), (ke, .inl (gI g, 24, .inl f3)), (fe, .inl (gI g, 8, .inl f4)), (co, .inl (gI g, 2, .inl f_co)), (h0, .inr (11, (fs.set 54 (.int 0)))), (gu, .inl (gI g, 2, .inl f_gu))] H := hP
  have hD : va_D A [(al, .inl (gI g, 24, .inl f2)), (ke, .inl (gI g, 24, .inl f3)), (fe, .inl (gI g, 8, .inl f4)), (co, .inl (gI g, 2, .inl f_co)), (h0, .inr (11, (fs.set 54 (.int 0)))), (gu, .inl (gI g, 2, .inl f_gu))] := hD
  refine lv_icmp_ge (tgt := 50) hx hb dX11_largest_20 (by decide) (fun _ => ?_) (fun c6 => absurd (by decide) c6)
  refine lv_iload_n hx hb dX11_largest_50 rfl (lv_at hl 2 rfl) ?_
  refine lv_if_ge (tgt := 56) hx hb dX11_largest_51 (by decide) (fun _ => ?_) (fun c7 => absurd (by decide) c7)
  refine lv_iconst (v := 0) hx hb dX11_largest_56 (by decide) ?_
  refine lv_istore_n (lv' := [(3, .int 0), (2, .int 0), (1, .int 0), (4, .int 0), (0, .ref h0)]) hx hb dX11_largest_57 rfl hl (by decide) rfl (fun ls hl => ?_)
  refine lv_iload_n hx hb dX11_largest_58 rfl (lv_at hl 0 rfl) ?_
  refine lv_aload_n hx hb dX11_largest_59 rfl (lv_at hl 4 rfl) ?_
  refine kI (wc := [(h0, .inr (11, (fs.set 54 (.int 0)))), (gu, .inl (gI g, 2, .inl f_gu))]) (wr := [(al, .inl (gI g, 24, .inl f2)), (ke, .inl (gI g, 24, .inl f3)), (fe, .inl (gI g, 8, .inl f4)), (co, .inl (gI g, 2, .inl f_co))]) (rV (As := []) (rest := [.int 0]) (meth2 := "") hcx (c_X11_many ((by simp [hl_fs])) ((fs_ne h_fs_guilds (by decide))) ((fs_ne h_fs_bank (by decide))) (h_f_gu_0) H.size) (gdV q15_2 q15_3 q15_4 q1_5 q15_5) dvX11_many ⟨Nat.le_of_ble_eq_true rfl, Nat.le_of_ble_eq_true rfl⟩ (hP.sub [4, 5] rfl) (hD.sub [4, 5] (by decide) rfl) (va_recv hK hP (ci := 11) (q0 := 4) rfl rfl) rfl hl.1 rfl (Nat.le_of_ble_eq_true rfl) dX11_largest_60 ⟨Nat.le_of_ble_eq_true rfl, Nat.le_of_ble_eq_true rfl⟩) hP hD hS hA [4, 5] [0, 1, 2, 3] rfl rfl (by decide) (by decide) (fun r W' H locs hw hP hD hS => ?_)
  obtain ⟨rfl, rfl⟩ := hw
  have hP : va_P g.1 vwCl [(al, .inl (gI g, 24, .inl f2)), (ke, .inl (gI g, 24, .inl f3)), (fe, .inl (gI g, 8, .inl f4)), (co, .inl (gI g, 2, .inl f_co)), (h0, .inr (11, (fs.set 54 (.int 0)))), (gu, .inl (gI g, 2, .inl f_gu))] H := hP
  have hD : va_D A [(al, .inl (gI g, 24, .inl f2)), (ke, .inl (gI g, 24, .inl f3)), (fe, .inl (gI g, 8, .inl f4)), (co, .inl (gI g, 2, .inl f_co)), (h0, .inr (11, (fs.set 54 (.int 0)))), (gu, .inl (gI g, 2, .inl f_gu))] := hD
  refine lv_icmp_ge (tgt := 96) hx hb dX11_largest_63 (by decide) (fun _ => ?_) (fun c8 => absurd (by decide) c8)
  refine lv_aload_n hx hb dX11_largest_96 rfl (lv_at hl 4 rfl) ?_
  refine lv_aload_n hx hb dX11_largest_97 rfl (lv_at hl 4 rfl) ?_
  refine kI (wc := [(h0, .inr (11, (fs.set 54 (.int 0)))), (gu, .inl (gI g, 2, .inl f_gu))]) (wr := [(al, .inl (gI g, 24, .inl f2)), (ke, .inl (gI g, 24, .inl f3)), (fe, .inl (gI g, 8, .inl f4)), (co, .inl (gI g, 2, .inl f_co))]) (rV (As := []) (rest := [.ref h0]) (meth2 := "") hcx (c_X11_many ((by simp [hl_fs])) ((fs_ne h_fs_guilds (by decide))) ((fs_ne h_fs_bank (by decide))) (h_f_gu_0) H.size) (gdV q15_2 q15_3 q15_4 q1_5 q15_5) dvX11_many ⟨Nat.le_of_ble_eq_true rfl, Nat.le_of_ble_eq_true rfl⟩ (hP.sub [4, 5] rfl) (hD.sub [4, 5] (by decide) rfl) (va_recv hK hP (ci := 11) (q0 := 4) rfl rfl) rfl hl.1 rfl (Nat.le_of_ble_eq_true rfl) dX11_largest_98 ⟨Nat.le_of_ble_eq_true rfl, Nat.le_of_ble_eq_true rfl⟩) hP hD hS hA [4, 5] [0, 1, 2, 3] rfl rfl (by decide) (by decide) (fun r W' H locs hw hP hD hS => ?_)
  obtain ⟨rfl, rfl⟩ := hw
  have hP : va_P g.1 vwCl [(al, .inl (gI g, 24, .inl f2)), (ke, .inl (gI g, 24, .inl f3)), (fe, .inl (gI g, 8, .inl f4)), (co, .inl (gI g, 2, .inl f_co)), (h0, .inr (11, (fs.set 54 (.int 0)))), (gu, .inl (gI g, 2, .inl f_gu))] H := hP
  have hD : va_D A [(al, .inl (gI g, 24, .inl f2)), (ke, .inl (gI g, 24, .inl f3)), (fe, .inl (gI g, 8, .inl f4)), (co, .inl (gI g, 2, .inl f_co)), (h0, .inr (11, (fs.set 54 (.int 0)))), (gu, .inl (gI g, 2, .inl f_gu))] := hD
  refine va_put (D := g.1) (ci := 11) (v := Value.int 0) (ty := .int) (C := RX11) (T := TX11) (N := 69) hx hb hts inlX11 tyX11 tyX11_ok nmX11 hown hK hP hD hS 4 rfl rfl 54 (by decide) (hts _ q15_1) (fun _ h9 => h9) rfl (by decide +kernel) rfl rfl (by simp [hl_fs]) dX11_largest_101 (fun H locs hP hD hS => ?_)
  have hP : va_P g.1 vwCl [(al, .inl (gI g, 24, .inl f2)), (ke, .inl (gI g, 24, .inl f3)), (fe, .inl (gI g, 8, .inl f4)), (co, .inl (gI g, 2, .inl f_co)), (h0, .inr (11, ((fs.set 54 (.int 0)).set 54 (.int 0)))), (gu, .inl (gI g, 2, .inl f_gu))] H := hP
  have hD : va_D A [(al, .inl (gI g, 24, .inl f2)), (ke, .inl (gI g, 24, .inl f3)), (fe, .inl (gI g, 8, .inl f4)), (co, .inl (gI g, 2, .inl f_co)), (h0, .inr (11, ((fs.set 54 (.int 0)).set 54 (.int 0)))), (gu, .inl (gI g, 2, .inl f_gu))] := hD
  refine lv_iload_n hx hb dX11_largest_104 rfl (lv_at hl 2 rfl) ?_
  have hP9 : va_P g.1 vwCl [] H := hP.sub [] rfl
  have hD9 : va_D A [] := hD.sub [] (by decide) rfl
  exact xi hx hb hr hlocks rfl hP9 hD9 hS ⟨rfl, rfl⟩ (Nat.le_of_ble_eq_true rfl) (Nat.le_of_ble_eq_true rfl) dX11_largest_105

set_option maxHeartbeats 4000000 in
set_option maxRecDepth 100000 in
theorem c_X11_street {l : Launch} {g : Gx} {h0 al ke fe co gu : Nat} {fs : List Value} {f_al : Nat → Int32} {f_ke : Nat → Int32} {f_fe : Nat → Int32} {f_co : Nat → Int32} {f_gu : Nat → Int32} (hl_fs : fs.length = 69) (h_fs_all : fs[46]? = some (Value.ref al)) (h_fs_kept : fs[51]? = some (Value.ref ke)) (h_fs_fell : fs[53]? = some (Value.ref fe)) (h_fs_corners : fs[11]? = some (Value.ref co)) (h_fs_guilds : fs[12]? = some (Value.ref gu)) (h_fs_bank : fs[34]? = some (Value.int 0)) (h_f_al_20 : f_al 20 = 0) (h_f_al_21 : f_al 21 = 0) (h_f_co_0 : f_co 0 = 0) (h_f_gu_0 : f_gu 0 = 0) : MI l g yX11_street cX11_street 6 (some .int) 5 0 0 [.ref h0] [(h0, .inr (11, fs)), (al, .inl (gI g, 24, .inl f_al)), (ke, .inl (gI g, 24, .inl f_ke)), (fe, .inl (gI g, 8, .inl f_fe)), (co, .inl (gI g, 2, .inl f_co)), (gu, .inl (gI g, 2, .inl f_gu))] (fun r W' => 0 = r ∧ W' = []) := by
  refine MIof (by decide) (Nat.le_of_ble_eq_true rfl) ?_
  intro p e s m below meth c A ls H locs hcx hA hP hD hS hl
  obtain ⟨hx, hb, hml, hr, hlocks, hown, hts, hE, hnm⟩ := id hcx
  have hown : s.vm.findClass RX11 = some m.cls := hown
  have hK := hE.1
  have hl : lv_has ls 6 [(0, .ref h0)] := hl
  refine lv_iconst (v := (-1)) hx hb dX11_street_0 (by decide) ?_
  refine lv_istore_n (lv' := [(1, .int (-1)), (0, .ref h0)]) hx hb dX11_street_1 rfl hl (by decide) rfl (fun ls hl => ?_)
  refine lv_iconst (v := 0) hx hb dX11_street_2 (by decide) ?_
  refine lv_istore_n (lv' := [(2, .int 0), (1, .int (-1)), (0, .ref h0)]) hx hb dX11_street_3 rfl hl (by decide) rfl (fun ls hl => ?_)
  refine lv_aload_n hx hb dX11_street_4 rfl (lv_at hl 2 rfl) ?_
  refine kV (wc := [(h0, .inr (11, fs)), (al, .inl (gI g, 24, .inl f_al)), (ke, .inl (gI g, 24, .inl f_ke))]) (wr := [(fe, .inl (gI g, 8, .inl f_fe)), (co, .inl (gI g, 2, .inl f_co)), (gu, .inl (gI g, 2, .inl f_gu))]) (rV (As := []) (rest := []) (meth2 := "") hcx (c_X11_keepNow (hl_fs) (h_fs_all) (h_fs_kept) H.size) (gdV q47_9 q47_10 q47_11 q1_5 q47_12) dvX11_keepNow ⟨Nat.le_of_ble_eq_true rfl, Nat.le_of_ble_eq_true rfl⟩ (hP.sub [0, 1, 2] rfl) (hD.sub [0, 1, 2] (by decide) rfl) (va_recv hK hP (ci := 11) (q0 := 0) rfl rfl) rfl hl.1 rfl (Nat.le_of_ble_eq_true rfl) dX11_street_5 ⟨Nat.le_of_ble_eq_true rfl, Nat.le_of_ble_eq_true rfl⟩) hP hD hS hA [0, 1, 2] [3, 4, 5] rfl rfl (by decide) (by decide) (fun W' H locs hw hP hD hS => ?_)
  obtain ⟨f1, rfl⟩ := hw
  have hP : va_P g.1 vwCl [(fe, .inl (gI g, 8, .inl f_fe)), (co, .inl (gI g, 2, .inl f_co)), (gu, .inl (gI g, 2, .inl f_gu)), (h0, .inr (11, fs)), (al, .inl (gI g, 24, .inl f_al)), (ke, .inl (gI g, 24, .inl f1))] H := hP
  have hD : va_D A [(fe, .inl (gI g, 8, .inl f_fe)), (co, .inl (gI g, 2, .inl f_co)), (gu, .inl (gI g, 2, .inl f_gu)), (h0, .inr (11, fs)), (al, .inl (gI g, 24, .inl f_al)), (ke, .inl (gI g, 24, .inl f1))] := hD
  refine lv_iconst (v := 0) hx hb dX11_street_8 (by decide) ?_
  refine lv_istore_n (lv' := [(3, .int 0), (2, .int 0), (1, .int (-1)), (0, .ref h0)]) hx hb dX11_street_9 rfl hl (by decide) rfl (fun ls hl => ?_)
  refine lv_iload_n hx hb dX11_street_10 rfl (lv_at hl 0 rfl) ?_
  refine lv_aload_n hx hb dX11_street_11 rfl (lv_at hl 3 rfl) ?_
  refine kI (wc := [(h0, .inr (11, fs)), (gu, .inl (gI g, 2, .inl f_gu))]) (wr := [(fe, .inl (gI g, 8, .inl f_fe)), (co, .inl (gI g, 2, .inl f_co)), (al, .inl (gI g, 24, .inl f_al)), (ke, .inl (gI g, 24, .inl f1))]) (rV (As := []) (rest := [.int 0]) (meth2 := "") hcx (c_X11_many (hl_fs) (h_fs_guilds) (h_fs_bank) (h_f_gu_0) H.size) (gdV q15_2 q15_3 q15_4 q1_5 q15_5) dvX11_many ⟨Nat.le_of_ble_eq_true rfl, Nat.le_of_ble_eq_true rfl⟩ (hP.sub [3, 2] rfl) (hD.sub [3, 2] (by decide) rfl) (va_recv hK hP (ci := 11) (q0 := 3) rfl rfl) rfl hl.1 rfl (Nat.le_of_ble_eq_true rfl) dX11_street_12 ⟨Nat.le_of_ble_eq_true rfl, Nat.le_of_ble_eq_true rfl⟩) hP hD hS hA [3, 2] [0, 1, 4, 5] rfl rfl (by decide) (by decide) (fun r W' H locs hw hP hD hS => ?_)
  obtain ⟨rfl, rfl⟩ := hw
  have hP : va_P g.1 vwCl [(fe, .inl (gI g, 8, .inl f_fe)), (co, .inl (gI g, 2, .inl f_co)), (al, .inl (gI g, 24, .inl f_al)), (ke, .inl (gI g, 24, .inl f1)), (h0, .inr (11, fs)), (gu, .inl (gI g, 2, .inl f_gu))] H := hP
  have hD : va_D A [(fe, .inl (gI g, 8, .inl f_fe)), (co, .inl (gI g, 2, .inl f_co)), (al, .inl (gI g, 24, .inl f_al)), (ke, .inl (gI g, 24, .inl f1)), (h0, .inr (11, fs)), (gu, .inl (gI g, 2, .inl f_gu))] := hD
  refine lv_aload_n hx hb dX11_street_15 rfl (lv_at hl 3 rfl) ?_
  refine kI (wc := [(h0, .inr (11, fs)), (gu, .inl (gI g, 2, .inl f_gu))]) (wr := [(fe, .inl (gI g, 8, .inl f_fe)), (co, .inl (gI g, 2, .inl f_co)), (al, .inl (gI g, 24, .inl f_al)), (ke, .inl (gI g, 24, .inl f1))]) (rV (As := []) (rest := [.int 0, .int 0]) (meth2 := "") hcx (c_X11_many (hl_fs) (h_fs_guilds) (h_fs_bank) (h_f_gu_0) H.size) (gdV q15_2 q15_3 q15_4 q1_5 q15_5) dvX11_many ⟨Nat.le_of_ble_eq_true rfl, Nat.le_of_ble_eq_true rfl⟩ (hP.sub [4, 5] rfl) (hD.sub [4, 5] (by decide) rfl) (va_recv hK hP (ci := 11) (q0 := 4) rfl rfl) rfl hl.1 rfl (Nat.le_of_ble_eq_true rfl) dX11_street_16 ⟨Nat.le_of_ble_eq_true rfl, Nat.le_of_ble_eq_true rfl⟩) hP hD hS hA [4, 5] [0, 1, 2, 3] rfl rfl (by decide) (by decide) (fun r W' H locs hw hP hD hS => ?_)
  obtain ⟨rfl, rfl⟩ := hw
  have hP : va_P g.1 vwCl [(fe, .inl (gI g, 8, .inl f_fe)), (co, .inl (gI g, 2, .inl f_co)), (al, .inl (gI g, 24, .inl f_al)), (ke, .inl (gI g, 24, .inl f1)), (h0, .inr (11, fs)), (gu, .inl (gI g, 2, .inl f_gu))] H := hP
  have hD : va_D A [(fe, .inl (gI g, 8, .inl f_fe)), (co, .inl (gI g, 2, .inl f_co)), (al, .inl (gI g, 24, .inl f_al)), (ke, .inl (gI g, 24, .inl f1)), (h0, .inr (11, fs)), (gu, .inl (gI g, 2, .inl f_gu))] := hD
  refine kI (wc := []) (wr := [(fe, .inl (gI g, 8, .inl f_fe)), (co, .inl (gI g, 2, .inl f_co)), (al, .inl (gI g, 24, .inl f_al)), (ke, .inl (gI g, 24, .inl f1)), (h0, .inr (11, fs)), (gu, .inl (gI g, 2, .inl f_gu))]) (rS (As := [.int 0, .int 0]) (rest := [.int 0]) hcx (c_X11_power_0 H.size) (gdS q51_14 q51_15 q1_5 q51_16) dvX11_power.2 ⟨Nat.le_of_ble_eq_true rfl, Nat.le_of_ble_eq_true rfl⟩ (hP.sub [] rfl) (hD.sub [] (by decide) rfl) rfl hl.1 rfl (Nat.le_of_ble_eq_true rfl) dX11_street_19 ⟨Nat.le_of_ble_eq_true rfl, Nat.le_of_ble_eq_true rfl⟩) hP hD hS hA [] [0, 1, 2, 3, 4, 5] rfl rfl (by decide) (by decide) (fun r W' H locs hw hP hD hS => ?_)
  obtain ⟨rfl, rfl⟩ := hw
  have hP : va_P g.1 vwCl [(fe, .inl (gI g, 8, .inl f_fe)), (co, .inl (gI g, 2, .inl f_co)), (al, .inl (gI g, 24, .inl f_al)), (ke, .inl (gI g, 24, .inl f1)), (h0, .inr (11, fs)), (gu, .inl (gI g, 2, .inl f_gu))] H := hP
  have hD : va_D A [(fe, .inl (gI g, 8, .inl f_fe)), (co, .inl (gI g, 2, .inl f_co)), (al, .inl (gI g, 24, .inl f_al)), (ke, .inl (gI g, 24, .inl f1)), (h0, .inr (11, fs)), (gu, .inl (gI g, 2, .inl f_gu))] := hD
  refine lv_icmp_ge (tgt := 76) hx hb dX11_street_22 (by decide) (fun c2 => absurd c2 (by decide)) (fun _ => ?_)
  refine lv_aload_n hx hb dX11_street_25 rfl (lv_at hl 3 rfl) ?_
  refine lv_iload_n hx hb dX11_street_26 rfl (lv_at hl 0 rfl) ?_
  refine kI (wc := [(h0, .inr (11, fs)), (gu, .inl (gI g, 2, .inl f_gu))]) (wr := [(fe, .inl (gI g, 8, .inl f_fe)), (co, .inl (gI g, 2, .inl f_co)), (al, .inl (gI g, 24, .inl f_al)), (ke, .inl (gI g, 24, .inl f1))]) (rV (As := [.int 0]) (rest := []) (meth2 := "") hcx (c_X11_layOrder (hl_fs) (h_fs_guilds) (h_fs_bank) (h_f_gu_0) H.size) (gdV q53_13 q53_14 q53_15 q1_5 q53_16) dvX11_layOrder ⟨Nat.le_of_ble_eq_true rfl, Nat.le_of_ble_eq_true rfl⟩ (hP.sub [4, 5] rfl) (hD.sub [4, 5] (by decide) rfl) (va_recv hK hP (ci := 11) (q0 := 4) rfl rfl) rfl hl.1 rfl (Nat.le_of_ble_eq_true rfl) dX11_street_27 ⟨Nat.le_of_ble_eq_true rfl, Nat.le_of_ble_eq_true rfl⟩) hP hD hS hA [4, 5] [0, 1, 2, 3] rfl rfl (by decide) (by decide) (fun r W' H locs hw hP hD hS => ?_)
  obtain ⟨rfl, rfl⟩ := hw
  have hP : va_P g.1 vwCl [(fe, .inl (gI g, 8, .inl f_fe)), (co, .inl (gI g, 2, .inl f_co)), (al, .inl (gI g, 24, .inl f_al)), (ke, .inl (gI g, 24, .inl f1)), (h0, .inr (11, fs)), (gu, .inl (gI g, 2, .inl f_gu))] H := hP
  have hD : va_D A [(fe, .inl (gI g, 8, .inl f_fe)), (co, .inl (gI g, 2, .inl f_co)), (al, .inl (gI g, 24, .inl f_al)), (ke, .inl (gI g, 24, .inl f1)), (h0, .inr (11, fs)), (gu, .inl (gI g, 2, .inl f_gu))] := hD
  refine lv_istore (lv' := [(4, .int 1), (3, .int 0), (2, .int 0), (1, .int (-1)), (0, .ref h0)]) hx hb dX11_street_30 hl (by decide) rfl (fun ls hl => ?_)
  refine lv_iload hx hb dX11_street_32 (lv_at hl 0 rfl) ?_
  refine lv_if_eq (tgt := 49) hx hb dX11_street_34 (by decide) (fun c3 => absurd c3 (by decide)) (fun _ => ?_)
  refine lv_aload_n hx hb dX11_street_37 rfl (lv_at hl 4 rfl) ?_
  refine lv_iconst (v := 0) hx hb dX11_street_38 (by decide) ?_
  refine lv_iconst (v := 0) hx hb dX11_street_39 (by decide) ?_
  refine kI (wc := [(h0, .inr (11, fs)), (al, .inl (gI g, 24, .inl f_al)), (ke, .inl (gI g, 24, .inl f1)), (fe, .inl (gI g, 8, .inl f_fe)), (co, .inl (gI g, 2, .inl f_co))]) (wr := [(gu, .inl (gI g, 2, .inl f_gu))]) (rV (As := [.int 0, .int 0]) (rest := []) (meth2 := "") hcx (c_X11_upAtLast (hl_fs) (h_fs_all) (h_fs_kept) (h_fs_fell) (h_fs_corners) (h_fs_bank) (h_f_al_20) (h_f_al_21) (h_f_co_0) H.size) (gdV q48_12 q48_13 q48_14 q1_5 q48_15) dvX11_upAtLast ⟨Nat.le_of_ble_eq_true rfl, Nat.le_of_ble_eq_true rfl⟩ (hP.sub [4, 2, 3, 0, 1] rfl) (hD.sub [4, 2, 3, 0, 1] (by decide) rfl) (va_recv hK hP (ci := 11) (q0 := 4) rfl rfl) rfl hl.1 rfl (Nat.le_of_ble_eq_true rfl) dX11_street_40 ⟨Nat.le_of_ble_eq_true rfl, Nat.le_of_ble_eq_true rfl⟩) hP hD hS hA [4, 2, 3, 0, 1] [5] rfl rfl (by decide) (by decide) (fun r W' H locs hw hP hD hS => ?_)
  obtain ⟨rfl, f4, f5, rfl⟩ := hw
  have hP : va_P g.1 vwCl [(gu, .inl (gI g, 2, .inl f_gu)), (h0, .inr (11, fs)), (al, .inl (gI g, 24, .inl f4)), (ke, .inl (gI g, 24, .inl f1)), (fe, .inl (gI g, 8, .inl f5)), (co, .inl (gI g, 2, .inl f_co))] H := hP
  have hD : va_D A [(gu, .inl (gI g, 2, .inl f_gu)), (h0, .inr (11, fs)), (al, .inl (gI g, 24, .inl f4)), (ke, .inl (gI g, 24, .inl f1)), (fe, .inl (gI g, 8, .inl f5)), (co, .inl (gI g, 2, .inl f_co))] := hD
  refine kI (wc := []) (wr := [(gu, .inl (gI g, 2, .inl f_gu)), (h0, .inr (11, fs)), (al, .inl (gI g, 24, .inl f4)), (ke, .inl (gI g, 24, .inl f1)), (fe, .inl (gI g, 8, .inl f5)), (co, .inl (gI g, 2, .inl f_co))]) (rS (As := [.int 0]) (rest := []) hcx (c_X11_bitsOf H.size) (gdS q53_17 q53_18 q1_5 q53_19) dvX11_bitsOf.2 ⟨Nat.le_of_ble_eq_true rfl, Nat.le_of_ble_eq_true rfl⟩ (hP.sub [] rfl) (hD.sub [] (by decide) rfl) rfl hl.1 rfl (Nat.le_of_ble_eq_true rfl) dX11_street_43 ⟨Nat.le_of_ble_eq_true rfl, Nat.le_of_ble_eq_true rfl⟩) hP hD hS hA [] [0, 1, 2, 3, 4, 5] rfl rfl (by decide) (by decide) (fun r W' H locs hw hP hD hS => ?_)
  obtain ⟨rfl, rfl⟩ := hw
  have hP : va_P g.1 vwCl [(gu, .inl (gI g, 2, .inl f_gu)), (h0, .inr (11, fs)), (al, .inl (gI g, 24, .inl f4)), (ke, .inl (gI g, 24, .inl f1)), (fe, .inl (gI g, 8, .inl f5)), (co, .inl (gI g, 2, .inl f_co))] H := hP
  have hD : va_D A [(gu, .inl (gI g, 2, .inl f_gu)), (h0, .inr (11, fs)), (al, .inl (gI g, 24, .inl f4)), (ke, .inl (gI g, 24, .inl f1)), (fe, .inl (gI g, 8, .inl f5)), (co, .inl (gI g, 2, .inl f_co))] := hD
  refine lv_goto (tgt := 50) hx hb dX11_street_46 (by decide) ?_
  refine lv_istore (lv' := [(5, .int 0), (4, .int 1), (3, .int 0), (2, .int 0), (1, .int (-1)), (0, .ref h0)]) hx hb dX11_street_50 hl (by decide) rfl (fun ls hl => ?_)
  refine lv_aload_n hx hb dX11_street_52 rfl (lv_at hl 5 rfl) ?_
  refine kV (wc := [(h0, .inr (11, fs)), (al, .inl (gI g, 24, .inl f4)), (ke, .inl (gI g, 24, .inl f1))]) (wr := [(gu, .inl (gI g, 2, .inl f_gu)), (fe, .inl (gI g, 8, .inl f5)), (co, .inl (gI g, 2, .inl f_co))]) (rV (As := []) (rest := []) (meth2 := "") hcx (c_X11_bringBack (hl_fs) (h_fs_all) (h_fs_kept) H.size) (gdV q47_13 q47_14 q47_15 q1_5 q47_16) dvX11_bringBack ⟨Nat.le_of_ble_eq_true rfl, Nat.le_of_ble_eq_true rfl⟩ (hP.sub [1, 2, 3] rfl) (hD.sub [1, 2, 3] (by decide) rfl) (va_recv hK hP (ci := 11) (q0 := 1) rfl rfl) rfl hl.1 rfl (Nat.le_of_ble_eq_true rfl) dX11_street_53 ⟨Nat.le_of_ble_eq_true rfl, Nat.le_of_ble_eq_true rfl⟩) hP hD hS hA [1, 2, 3] [0, 4, 5] rfl rfl (by decide) (by decide) (fun W' H locs hw hP hD hS => ?_)
  obtain ⟨f6, rfl⟩ := hw
  have hP : va_P g.1 vwCl [(gu, .inl (gI g, 2, .inl f_gu)), (fe, .inl (gI g, 8, .inl f5)), (co, .inl (gI g, 2, .inl f_co)), (h0, .inr (11, fs)), (al, .inl (gI g, 24, .inl f6)), (ke, .inl (gI g, 24, .inl f1))] H := hP
  have hD : va_D A [(gu, .inl (gI g, 2, .inl f_gu)), (fe, .inl (gI g, 8, .inl f5)), (co, .inl (gI g, 2, .inl f_co)), (h0, .inr (11, fs)), (al, .inl (gI g, 24, .inl f6)), (ke, .inl (gI g, 24, .inl f1))] := hD
  refine lv_iload hx hb dX11_street_56 (lv_at hl 0 rfl) ?_
  refine lv_iload_n hx hb dX11_street_58 rfl (lv_at hl 4 rfl) ?_
  refine lv_icmp_gt (tgt := 65) hx hb dX11_street_59 (by decide) (fun _ => ?_) (fun c7 => absurd (by decide) c7)
  refine lv_iload hx hb dX11_street_65 (lv_at hl 0 rfl) ?_
  refine lv_istore_n (lv' := [(1, .int 0), (5, .int 0), (4, .int 1), (3, .int 0), (2, .int 0), (0, .ref h0)]) hx hb dX11_street_67 rfl hl (by decide) rfl (fun ls hl => ?_)
  refine lv_iload_n hx hb dX11_street_68 rfl (lv_at hl 3 rfl) ?_
  refine lv_istore_n (lv' := [(2, .int 0), (1, .int 0), (5, .int 0), (4, .int 1), (3, .int 0), (0, .ref h0)]) hx hb dX11_street_69 rfl hl (by decide) rfl (fun ls hl => ?_)
  refine lv_iinc (v := 1) (lv' := [(3, .int 1), (2, .int 0), (1, .int 0), (5, .int 0), (4, .int 1), (0, .ref h0)]) hx hb dX11_street_70 hl (k := 4) rfl (by decide) (by decide) rfl (fun ls hl => ?_)
  refine lv_goto (tgt := 10) hx hb dX11_street_73 (by decide) ?_
  refine lv_iload_n hx hb dX11_street_10 rfl (lv_at hl 0 rfl) ?_
  refine lv_aload_n hx hb dX11_street_11 rfl (lv_at hl 5 rfl) ?_
  refine kI (wc := [(h0, .inr (11, fs)), (gu, .inl (gI g, 2, .inl f_gu))]) (wr := [(fe, .inl (gI g, 8, .inl f5)), (co, .inl (gI g, 2, .inl f_co)), (al, .inl (gI g, 24, .inl f6)), (ke, .inl (gI g, 24, .inl f1))]) (rV (As := []) (rest := [.int 1]) (meth2 := "") hcx (c_X11_many (hl_fs) (h_fs_guilds) (h_fs_bank) (h_f_gu_0) H.size) (gdV q15_2 q15_3 q15_4 q1_5 q15_5) dvX11_many ⟨Nat.le_of_ble_eq_true rfl, Nat.le_of_ble_eq_true rfl⟩ (hP.sub [3, 0] rfl) (hD.sub [3, 0] (by decide) rfl) (va_recv hK hP (ci := 11) (q0 := 3) rfl rfl) rfl hl.1 rfl (Nat.le_of_ble_eq_true rfl) dX11_street_12 ⟨Nat.le_of_ble_eq_true rfl, Nat.le_of_ble_eq_true rfl⟩) hP hD hS hA [3, 0] [1, 2, 4, 5] rfl rfl (by decide) (by decide) (fun r W' H locs hw hP hD hS => ?_)
  obtain ⟨rfl, rfl⟩ := hw
  have hP : va_P g.1 vwCl [(fe, .inl (gI g, 8, .inl f5)), (co, .inl (gI g, 2, .inl f_co)), (al, .inl (gI g, 24, .inl f6)), (ke, .inl (gI g, 24, .inl f1)), (h0, .inr (11, fs)), (gu, .inl (gI g, 2, .inl f_gu))] H := hP
  have hD : va_D A [(fe, .inl (gI g, 8, .inl f5)), (co, .inl (gI g, 2, .inl f_co)), (al, .inl (gI g, 24, .inl f6)), (ke, .inl (gI g, 24, .inl f1)), (h0, .inr (11, fs)), (gu, .inl (gI g, 2, .inl f_gu))] := hD
  refine lv_aload_n hx hb dX11_street_15 rfl (lv_at hl 5 rfl) ?_
  refine kI (wc := [(h0, .inr (11, fs)), (gu, .inl (gI g, 2, .inl f_gu))]) (wr := [(fe, .inl (gI g, 8, .inl f5)), (co, .inl (gI g, 2, .inl f_co)), (al, .inl (gI g, 24, .inl f6)), (ke, .inl (gI g, 24, .inl f1))]) (rV (As := []) (rest := [.int 0, .int 1]) (meth2 := "") hcx (c_X11_many (hl_fs) (h_fs_guilds) (h_fs_bank) (h_f_gu_0) H.size) (gdV q15_2 q15_3 q15_4 q1_5 q15_5) dvX11_many ⟨Nat.le_of_ble_eq_true rfl, Nat.le_of_ble_eq_true rfl⟩ (hP.sub [4, 5] rfl) (hD.sub [4, 5] (by decide) rfl) (va_recv hK hP (ci := 11) (q0 := 4) rfl rfl) rfl hl.1 rfl (Nat.le_of_ble_eq_true rfl) dX11_street_16 ⟨Nat.le_of_ble_eq_true rfl, Nat.le_of_ble_eq_true rfl⟩) hP hD hS hA [4, 5] [0, 1, 2, 3] rfl rfl (by decide) (by decide) (fun r W' H locs hw hP hD hS => ?_)
  obtain ⟨rfl, rfl⟩ := hw
  have hP : va_P g.1 vwCl [(fe, .inl (gI g, 8, .inl f5)), (co, .inl (gI g, 2, .inl f_co)), (al, .inl (gI g, 24, .inl f6)), (ke, .inl (gI g, 24, .inl f1)), (h0, .inr (11, fs)), (gu, .inl (gI g, 2, .inl f_gu))] H := hP
  have hD : va_D A [(fe, .inl (gI g, 8, .inl f5)), (co, .inl (gI g, 2, .inl f_co)), (al, .inl (gI g, 24, .inl f6)), (ke, .inl (gI g, 24, .inl f1)), (h0, .inr (11, fs)), (gu, .inl (gI g, 2, .inl f_gu))] := hD
  refine kI (wc := []) (wr := [(fe, .inl (gI g, 8, .inl f5)), (co, .inl (gI g, 2, .inl f_co)), (al, .inl (gI g, 24, .inl f6)), (ke, .inl (gI g, 24, .inl f1)), (h0, .inr (11, fs)), (gu, .inl (gI g, 2, .inl f_gu))]) (rS (As := [.int 0, .int 0]) (rest := [.int 1]) hcx (c_X11_power_0 H.size) (gdS q51_14 q51_15 q1_5 q51_16) dvX11_power.2 ⟨Nat.le_of_ble_eq_true rfl, Nat.le_of_ble_eq_true rfl⟩ (hP.sub [] rfl) (hD.sub [] (by decide) rfl) rfl hl.1 rfl (Nat.le_of_ble_eq_true rfl) dX11_street_19 ⟨Nat.le_of_ble_eq_true rfl, Nat.le_of_ble_eq_true rfl⟩) hP hD hS hA [] [0, 1, 2, 3, 4, 5] rfl rfl (by decide) (by decide) (fun r W' H locs hw hP hD hS => ?_)
  obtain ⟨rfl, rfl⟩ := hw
  have hP : va_P g.1 vwCl [(fe, .inl (gI g, 8, .inl f5)), (co, .inl (gI g, 2, .inl f_co)), (al, .inl (gI g, 24, .inl f6)), (ke, .inl (gI g, 24, .inl f1)), (h0, .inr (11, fs)), (gu, .inl (gI g, 2, .inl f_gu))] H := hP
  have hD : va_D A [(fe, .inl (gI g, 8, .inl f5)), (co, .inl (gI g, 2, .inl f_co)), (al, .inl (gI g, 24, .inl f6)), (ke, .inl (gI g, 24, .inl f1)), (h0, .inr (11, fs)), (gu, .inl (gI g, 2, .inl f_gu))] := hD
  refine lv_icmp_ge (tgt := 76) hx hb dX11_street_22 (by decide) (fun _ => ?_) (fun c8 => absurd (by decide) c8)
  refine lv_iconst (v := 0) hx hb dX11_street_76 (by decide) ?_
  refine lv_istore_n (lv' := [(3, .int 0), (2, .int 0), (1, .int 0), (5, .int 0), (4, .int 1), (0, .ref h0)]) hx hb dX11_street_77 rfl hl (by decide) rfl (fun ls hl => ?_)
  refine lv_iload_n hx hb dX11_street_78 rfl (lv_at hl 0 rfl) ?_
  refine lv_aload_n hx hb dX11_street_79 rfl (lv_at hl 5 rfl) ?_
  refine kI (wc := [(h0, .inr (11, fs)), (gu, .inl (gI g, 2, .inl f_gu))]) (wr := [(fe, .inl (gI g, 8, .inl f5)), (co, .inl (gI g, 2, .inl f_co)), (al, .inl (gI g, 24, .inl f6)), (ke, .inl (gI g, 24, .inl f1))]) (rV (As := []) (rest := [.int 0]) (meth2 := "") hcx (c_X11_many (hl_fs) (h_fs_guilds) (h_fs_bank) (h_f_gu_0) H.size) (gdV q15_2 q15_3 q15_4 q1_5 q15_5) dvX11_many ⟨Nat.le_of_ble_eq_true rfl, Nat.le_of_ble_eq_true rfl⟩ (hP.sub [4, 5] rfl) (hD.sub [4, 5] (by decide) rfl) (va_recv hK hP (ci := 11) (q0 := 4) rfl rfl) rfl hl.1 rfl (Nat.le_of_ble_eq_true rfl) dX11_street_80 ⟨Nat.le_of_ble_eq_true rfl, Nat.le_of_ble_eq_true rfl⟩) hP hD hS hA [4, 5] [0, 1, 2, 3] rfl rfl (by decide) (by decide) (fun r W' H locs hw hP hD hS => ?_)
  obtain ⟨rfl, rfl⟩ := hw
  have hP : va_P g.1 vwCl [(fe, .inl (gI g, 8, .inl f5)), (co, .inl (gI g, 2, .inl f_co)), (al, .inl (gI g, 24, .inl f6)), (ke, .inl (gI g, 24, .inl f1)), (h0, .inr (11, fs)), (gu, .inl (gI g, 2, .inl f_gu))] H := hP
  have hD : va_D A [(fe, .inl (gI g, 8, .inl f5)), (co, .inl (gI g, 2, .inl f_co)), (al, .inl (gI g, 24, .inl f6)), (ke, .inl (gI g, 24, .inl f1)), (h0, .inr (11, fs)), (gu, .inl (gI g, 2, .inl f_gu))] := hD
  refine lv_icmp_ge (tgt := 120) hx hb dX11_street_83 (by decide) (fun _ => ?_) (fun c9 => absurd (by decide) c9)
  refine lv_aload_n hx hb dX11_street_120 rfl (lv_at hl 5 rfl) ?_
  refine lv_aload_n hx hb dX11_street_121 rfl (lv_at hl 5 rfl) ?_
  refine kI (wc := [(h0, .inr (11, fs)), (gu, .inl (gI g, 2, .inl f_gu))]) (wr := [(fe, .inl (gI g, 8, .inl f5)), (co, .inl (gI g, 2, .inl f_co)), (al, .inl (gI g, 24, .inl f6)), (ke, .inl (gI g, 24, .inl f1))]) (rV (As := []) (rest := [.ref h0]) (meth2 := "") hcx (c_X11_many (hl_fs) (h_fs_guilds) (h_fs_bank) (h_f_gu_0) H.size) (gdV q15_2 q15_3 q15_4 q1_5 q15_5) dvX11_many ⟨Nat.le_of_ble_eq_true rfl, Nat.le_of_ble_eq_true rfl⟩ (hP.sub [4, 5] rfl) (hD.sub [4, 5] (by decide) rfl) (va_recv hK hP (ci := 11) (q0 := 4) rfl rfl) rfl hl.1 rfl (Nat.le_of_ble_eq_true rfl) dX11_street_122 ⟨Nat.le_of_ble_eq_true rfl, Nat.le_of_ble_eq_true rfl⟩) hP hD hS hA [4, 5] [0, 1, 2, 3] rfl rfl (by decide) (by decide) (fun r W' H locs hw hP hD hS => ?_)
  obtain ⟨rfl, rfl⟩ := hw
  have hP : va_P g.1 vwCl [(fe, .inl (gI g, 8, .inl f5)), (co, .inl (gI g, 2, .inl f_co)), (al, .inl (gI g, 24, .inl f6)), (ke, .inl (gI g, 24, .inl f1)), (h0, .inr (11, fs)), (gu, .inl (gI g, 2, .inl f_gu))] H := hP
  have hD : va_D A [(fe, .inl (gI g, 8, .inl f5)), (co, .inl (gI g, 2, .inl f_co)), (al, .inl (gI g, 24, .inl f6)), (ke, .inl (gI g, 24, .inl f1)), (h0, .inr (11, fs)), (gu, .inl (gI g, 2, .inl f_gu))] := hD
  refine va_put (D := g.1) (ci := 11) (v := Value.int 0) (ty := .int) (C := RX11) (T := TX11) (N := 69) hx hb hts inlX11 tyX11 tyX11_ok nmX11 hown hK hP hD hS 4 rfl rfl 54 (by decide) (hts _ q15_1) (fun _ h9 => h9) rfl (by decide +kernel) rfl rfl (by simp [hl_fs]) dX11_street_125 (fun H locs hP hD hS => ?_)
  have hP : va_P g.1 vwCl [(fe, .inl (gI g, 8, .inl f5)), (co, .inl (gI g, 2, .inl f_co)), (al, .inl (gI g, 24, .inl f6)), (ke, .inl (gI g, 24, .inl f1)), (h0, .inr (11, (fs.set 54 (.int 0)))), (gu, .inl (gI g, 2, .inl f_gu))] H := hP
  have hD : va_D A [(fe, .inl (gI g, 8, .inl f5)), (co, .inl (gI g, 2, .inl f_co)), (al, .inl (gI g, 24, .inl f6)), (ke, .inl (gI g, 24, .inl f1)), (h0, .inr (11, (fs.set 54 (.int 0)))), (gu, .inl (gI g, 2, .inl f_gu))] := hD
  refine lv_iload_n hx hb dX11_street_128 rfl (lv_at hl 2 rfl) ?_
  have hP9 : va_P g.1 vwCl [] H := hP.sub [] rfl
  have hD9 : va_D A [] := hD.sub [] (by decide) rfl
  exact xi hx hb hr hlocks rfl hP9 hD9 hS ⟨rfl, rfl⟩ (Nat.le_of_ble_eq_true rfl) (Nat.le_of_ble_eq_true rfl) dX11_street_129

set_option maxHeartbeats 4000000 in
set_option maxRecDepth 100000 in
theorem c_X11_pairs {l : Launch} {g : Gx} {h0 gu le : Nat} {fs : List Value} {f_gu : Nat → Int32} {f_le : Nat → Int32} (hl_fs : fs.length = 69) (h_fs_least : fs[56]? = some (Value.ref le)) (h_fs_guilds : fs[12]? = some (Value.ref gu)) (h_fs_bank : fs[34]? = some (Value.int 0)) (h_f_gu_0 : f_gu 0 = 0) : MI l g yX11_pairs cX11_pairs 4 (some .int) 5 0 0 [.ref h0] [(h0, .inr (11, fs)), (gu, .inl (gI g, 2, .inl f_gu)), (le, .inl (gI g, 32, .inl f_le))] (fun r W' => 0 = r ∧ W' = []) := by
  refine MIof (by decide) (Nat.le_of_ble_eq_true rfl) ?_
  intro p e s m below meth c A ls H locs hcx hA hP hD hS hl
  obtain ⟨hx, hb, hml, hr, hlocks, hown, hts, hE, hnm⟩ := id hcx
  have hown : s.vm.findClass RX11 = some m.cls := hown
  have hK := hE.1
  have hl : lv_has ls 4 [(0, .ref h0)] := hl
  refine lv_aload_n hx hb dX11_pairs_0 rfl (lv_at hl 0 rfl) ?_
  refine va_get (D := g.1) (ci := 11) (v := Value.ref le) (C := RX11) (T := TX11) (N := 69) hx hb hts inlX11 hown hK hP 0 rfl rfl 56 (by decide) (hts _ q14_0) (fun _ h9 => h9) h_fs_least dX11_pairs_1 ?_
  refine lv_iconst (v := 0) hx hb dX11_pairs_4 (by decide) ?_
  refine lv_iconst (v := 0) hx hb dX11_pairs_5 (by decide) ?_
  refine ia_st hx hb hK hP hD hS 2 1 rfl rfl (0) rfl (by decide) (by decide) dX11_pairs_6 (fun f1 H locs ef1 hP hD hS => ?_)
  have hf1_0 : f1 0 = 0 := by rw [ef1]; exact pk_us
  have hP : va_P g.1 vwCl [(h0, .inr (11, fs)), (gu, .inl (gI g, 2, .inl f_gu)), (le, .inl (gI g, 32, .inl f1))] H := hP
  have hD : va_D A [(h0, .inr (11, fs)), (gu, .inl (gI g, 2, .inl f_gu)), (le, .inl (gI g, 32, .inl f1))] := hD
  refine lv_aload_n hx hb dX11_pairs_7 rfl (lv_at hl 0 rfl) ?_
  refine kV (wc := [(h0, .inr (11, fs)), (gu, .inl (gI g, 2, .inl f_gu))]) (wr := [(le, .inl (gI g, 32, .inl f1))]) (rV (As := []) (rest := []) (meth2 := "") hcx (c_X11_layPairs (hl_fs) (h_fs_guilds) (h_fs_bank) (h_f_gu_0) H.size) (gdV q56_14 q56_15 q56_16 q1_5 q56_17) dvX11_layPairs ⟨Nat.le_of_ble_eq_true rfl, Nat.le_of_ble_eq_true rfl⟩ (hP.sub [0, 1] rfl) (hD.sub [0, 1] (by decide) rfl) (va_recv hK hP (ci := 11) (q0 := 0) rfl rfl) rfl hl.1 rfl (Nat.le_of_ble_eq_true rfl) dX11_pairs_8 ⟨Nat.le_of_ble_eq_true rfl, Nat.le_of_ble_eq_true rfl⟩) hP hD hS hA [0, 1] [2] rfl rfl (by decide) (by decide) (fun W' H locs hw hP hD hS => ?_)
  obtain rfl := hw
  have hP : va_P g.1 vwCl [(le, .inl (gI g, 32, .inl f1)), (h0, .inr (11, fs)), (gu, .inl (gI g, 2, .inl f_gu))] H := hP
  have hD : va_D A [(le, .inl (gI g, 32, .inl f1)), (h0, .inr (11, fs)), (gu, .inl (gI g, 2, .inl f_gu))] := hD
  refine lv_aload_n hx hb dX11_pairs_11 rfl (lv_at hl 0 rfl) ?_
  refine kI (wc := [(h0, .inr (11, fs)), (gu, .inl (gI g, 2, .inl f_gu))]) (wr := [(le, .inl (gI g, 32, .inl f1))]) (rV (As := []) (rest := []) (meth2 := "") hcx (c_X11_full (hl_fs) (h_fs_guilds) (h_fs_bank) (h_f_gu_0) H.size) (gdV q15_6 q15_7 q15_8 q1_5 q15_9) dvX11_full ⟨Nat.le_of_ble_eq_true rfl, Nat.le_of_ble_eq_true rfl⟩ (hP.sub [1, 2] rfl) (hD.sub [1, 2] (by decide) rfl) (va_recv hK hP (ci := 11) (q0 := 1) rfl rfl) rfl hl.1 rfl (Nat.le_of_ble_eq_true rfl) dX11_pairs_12 ⟨Nat.le_of_ble_eq_true rfl, Nat.le_of_ble_eq_true rfl⟩) hP hD hS hA [1, 2] [0] rfl rfl (by decide) (by decide) (fun r W' H locs hw hP hD hS => ?_)
  obtain ⟨rfl, rfl⟩ := hw
  have hP : va_P g.1 vwCl [(le, .inl (gI g, 32, .inl f1)), (h0, .inr (11, fs)), (gu, .inl (gI g, 2, .inl f_gu))] H := hP
  have hD : va_D A [(le, .inl (gI g, 32, .inl f1)), (h0, .inr (11, fs)), (gu, .inl (gI g, 2, .inl f_gu))] := hD
  refine lv_istore_n (lv' := [(1, .int 0), (0, .ref h0)]) hx hb dX11_pairs_15 rfl hl (by decide) rfl (fun ls hl => ?_)
  refine lv_iload_n hx hb dX11_pairs_16 rfl (lv_at hl 0 rfl) ?_
  refine lv_if_eq (tgt := 83) hx hb dX11_pairs_17 (by decide) (fun _ => ?_) (fun c2 => absurd (by decide) c2)
  refine lv_aload_n hx hb dX11_pairs_83 rfl (lv_at hl 1 rfl) ?_
  refine lv_aload_n hx hb dX11_pairs_84 rfl (lv_at hl 1 rfl) ?_
  refine kI (wc := [(h0, .inr (11, fs)), (gu, .inl (gI g, 2, .inl f_gu))]) (wr := [(le, .inl (gI g, 32, .inl f1))]) (rV (As := []) (rest := [.ref h0]) (meth2 := "") hcx (c_X11_many (hl_fs) (h_fs_guilds) (h_fs_bank) (h_f_gu_0) H.size) (gdV q15_2 q15_3 q15_4 q1_5 q15_5) dvX11_many ⟨Nat.le_of_ble_eq_true rfl, Nat.le_of_ble_eq_true rfl⟩ (hP.sub [1, 2] rfl) (hD.sub [1, 2] (by decide) rfl) (va_recv hK hP (ci := 11) (q0 := 1) rfl rfl) rfl hl.1 rfl (Nat.le_of_ble_eq_true rfl) dX11_pairs_85 ⟨Nat.le_of_ble_eq_true rfl, Nat.le_of_ble_eq_true rfl⟩) hP hD hS hA [1, 2] [0] rfl rfl (by decide) (by decide) (fun r W' H locs hw hP hD hS => ?_)
  obtain ⟨rfl, rfl⟩ := hw
  have hP : va_P g.1 vwCl [(le, .inl (gI g, 32, .inl f1)), (h0, .inr (11, fs)), (gu, .inl (gI g, 2, .inl f_gu))] H := hP
  have hD : va_D A [(le, .inl (gI g, 32, .inl f1)), (h0, .inr (11, fs)), (gu, .inl (gI g, 2, .inl f_gu))] := hD
  refine va_put (D := g.1) (ci := 11) (v := Value.int 0) (ty := .int) (C := RX11) (T := TX11) (N := 69) hx hb hts inlX11 tyX11 tyX11_ok nmX11 hown hK hP hD hS 1 rfl rfl 54 (by decide) (hts _ q15_1) (fun _ h9 => h9) rfl (by decide +kernel) rfl rfl (by simp [hl_fs]) dX11_pairs_88 (fun H locs hP hD hS => ?_)
  have hP : va_P g.1 vwCl [(le, .inl (gI g, 32, .inl f1)), (h0, .inr (11, (fs.set 54 (.int 0)))), (gu, .inl (gI g, 2, .inl f_gu))] H := hP
  have hD : va_D A [(le, .inl (gI g, 32, .inl f1)), (h0, .inr (11, (fs.set 54 (.int 0)))), (gu, .inl (gI g, 2, .inl f_gu))] := hD
  refine lv_aload_n hx hb dX11_pairs_91 rfl (lv_at hl 1 rfl) ?_
  refine va_get (D := g.1) (ci := 11) (v := Value.ref le) (C := RX11) (T := TX11) (N := 69) hx hb hts inlX11 hown hK hP 1 rfl rfl 56 (by decide) (hts _ q14_0) (fun _ h9 => h9) (fs_ne h_fs_least (by decide)) dX11_pairs_92 ?_
  refine lv_aload_n hx hb dX11_pairs_95 rfl (lv_at hl 1 rfl) ?_
  refine kI (wc := [(h0, .inr (11, (fs.set 54 (.int 0)))), (gu, .inl (gI g, 2, .inl f_gu))]) (wr := [(le, .inl (gI g, 32, .inl f1))]) (rV (As := []) (rest := [.ref le]) (meth2 := "") hcx (c_X11_full ((by simp [hl_fs])) ((fs_ne h_fs_guilds (by decide))) ((fs_ne h_fs_bank (by decide))) (h_f_gu_0) H.size) (gdV q15_6 q15_7 q15_8 q1_5 q15_9) dvX11_full ⟨Nat.le_of_ble_eq_true rfl, Nat.le_of_ble_eq_true rfl⟩ (hP.sub [1, 2] rfl) (hD.sub [1, 2] (by decide) rfl) (va_recv hK hP (ci := 11) (q0 := 1) rfl rfl) rfl hl.1 rfl (Nat.le_of_ble_eq_true rfl) dX11_pairs_96 ⟨Nat.le_of_ble_eq_true rfl, Nat.le_of_ble_eq_true rfl⟩) hP hD hS hA [1, 2] [0] rfl rfl (by decide) (by decide) (fun r W' H locs hw hP hD hS => ?_)
  obtain ⟨rfl, rfl⟩ := hw
  have hP : va_P g.1 vwCl [(le, .inl (gI g, 32, .inl f1)), (h0, .inr (11, (fs.set 54 (.int 0)))), (gu, .inl (gI g, 2, .inl f_gu))] H := hP
  have hD : va_D A [(le, .inl (gI g, 32, .inl f1)), (h0, .inr (11, (fs.set 54 (.int 0)))), (gu, .inl (gI g, 2, .inl f_gu))] := hD
  refine ia_ld hx hb hK hP 0 1 rfl rfl (0) rfl (by decide) (by decide) dX11_pairs_99 ?_
  refine lv_tope (y := 0) hf1_0 ?_
  have hP9 : va_P g.1 vwCl [] H := hP.sub [] rfl
  have hD9 : va_D A [] := hD.sub [] (by decide) rfl
  exact xi hx hb hr hlocks rfl hP9 hD9 hS ⟨rfl, rfl⟩ (Nat.le_of_ble_eq_true rfl) (Nat.le_of_ble_eq_true rfl) dX11_pairs_100

set_option maxHeartbeats 4000000 in
set_option maxRecDepth 100000 in
theorem c_X11_shield {l : Launch} {g : Gx} {h0 gu : Nat} {fs : List Value} {f_gu : Nat → Int32} (hl_fs : fs.length = 69) (h_fs_guilds : fs[12]? = some (Value.ref gu)) (h_fs_bank : fs[34]? = some (Value.int 0)) (h_f_gu_0 : f_gu 0 = 0) : MI l g yX11_shield cX11_shield 5 (some .int) 3 0 0 [.ref h0] [(h0, .inr (11, fs)), (gu, .inl (gI g, 2, .inl f_gu))] (fun r W' => (-1) = r ∧ W' = []) := by
  refine MIof (by decide) (Nat.le_of_ble_eq_true rfl) ?_
  intro p e s m below meth c A ls H locs hcx hA hP hD hS hl
  obtain ⟨hx, hb, hml, hr, hlocks, hown, hts, hE, hnm⟩ := id hcx
  have hown : s.vm.findClass RX11 = some m.cls := hown
  have hK := hE.1
  have hl : lv_has ls 5 [(0, .ref h0)] := hl
  refine lv_iconst (v := (-1)) hx hb dX11_shield_0 (by decide) ?_
  refine lv_istore_n (lv' := [(1, .int (-1)), (0, .ref h0)]) hx hb dX11_shield_1 rfl hl (by decide) rfl (fun ls hl => ?_)
  refine lv_iconst (v := 0) hx hb dX11_shield_2 (by decide) ?_
  refine lv_istore_n (lv' := [(2, .int 0), (1, .int (-1)), (0, .ref h0)]) hx hb dX11_shield_3 rfl hl (by decide) rfl (fun ls hl => ?_)
  refine lv_iconst (v := 0) hx hb dX11_shield_4 (by decide) ?_
  refine lv_istore_n (lv' := [(3, .int 0), (2, .int 0), (1, .int (-1)), (0, .ref h0)]) hx hb dX11_shield_5 rfl hl (by decide) rfl (fun ls hl => ?_)
  refine lv_iload_n hx hb dX11_shield_6 rfl (lv_at hl 0 rfl) ?_
  refine lv_aload_n hx hb dX11_shield_7 rfl (lv_at hl 3 rfl) ?_
  refine kI (wc := [(h0, .inr (11, fs)), (gu, .inl (gI g, 2, .inl f_gu))]) (wr := []) (rV (As := []) (rest := [.int 0]) (meth2 := "") hcx (c_X11_many (hl_fs) (h_fs_guilds) (h_fs_bank) (h_f_gu_0) H.size) (gdV q15_2 q15_3 q15_4 q1_5 q15_5) dvX11_many ⟨Nat.le_of_ble_eq_true rfl, Nat.le_of_ble_eq_true rfl⟩ (hP.sub [0, 1] rfl) (hD.sub [0, 1] (by decide) rfl) (va_recv hK hP (ci := 11) (q0 := 0) rfl rfl) rfl hl.1 rfl (Nat.le_of_ble_eq_true rfl) dX11_shield_8 ⟨Nat.le_of_ble_eq_true rfl, Nat.le_of_ble_eq_true rfl⟩) hP hD hS hA [0, 1] [] rfl rfl (by decide) (by decide) (fun r W' H locs hw hP hD hS => ?_)
  obtain ⟨rfl, rfl⟩ := hw
  have hP : va_P g.1 vwCl [(h0, .inr (11, fs)), (gu, .inl (gI g, 2, .inl f_gu))] H := hP
  have hD : va_D A [(h0, .inr (11, fs)), (gu, .inl (gI g, 2, .inl f_gu))] := hD
  refine lv_icmp_ge (tgt := 81) hx hb dX11_shield_11 (by decide) (fun _ => ?_) (fun c1 => absurd (by decide) c1)
  refine lv_iload_n hx hb dX11_shield_81 rfl (lv_at hl 2 rfl) ?_
  have hP9 : va_P g.1 vwCl [] H := hP.sub [] rfl
  have hD9 : va_D A [] := hD.sub [] (by decide) rfl
  exact xi hx hb hr hlocks rfl hP9 hD9 hS ⟨rfl, rfl⟩ (Nat.le_of_ble_eq_true rfl) (Nat.le_of_ble_eq_true rfl) dX11_shield_82

set_option maxHeartbeats 4000000 in
set_option maxRecDepth 100000 in
theorem c_X11_law {l : Launch} {g : Gx} {h0 al ke fe co gu : Nat} {p0 : Int32} {fs : List Value} {f_al : Nat → Int32} {f_ke : Nat → Int32} {f_fe : Nat → Int32} {f_co : Nat → Int32} {f_gu : Nat → Int32} (hl_fs : fs.length = 69) (h_fs_all : fs[46]? = some (Value.ref al)) (h_fs_kept : fs[51]? = some (Value.ref ke)) (h_fs_fell : fs[53]? = some (Value.ref fe)) (h_fs_corners : fs[11]? = some (Value.ref co)) (h_fs_guilds : fs[12]? = some (Value.ref gu)) (h_fs_bank : fs[34]? = some (Value.int 0)) (h_f_al_20 : f_al 20 = 0) (h_f_al_21 : f_al 21 = 0) (h_f_co_0 : f_co 0 = 0) (h_f_gu_0 : f_gu 0 = 0) : MI l g yX11_law cX11_law 3 (some .int) 4 0 0 [.ref h0, .int p0] [(h0, .inr (11, fs)), (al, .inl (gI g, 24, .inl f_al)), (ke, .inl (gI g, 24, .inl f_ke)), (fe, .inl (gI g, 8, .inl f_fe)), (co, .inl (gI g, 2, .inl f_co)), (gu, .inl (gI g, 2, .inl f_gu))] (fun r W' => r = sp_law p0 ∧ W' = []) := by
  refine MIof (by decide) (Nat.le_of_ble_eq_true rfl) ?_
  intro p e s m below meth c A ls H locs hcx hA hP hD hS hl
  obtain ⟨hx, hb, hml, hr, hlocks, hown, hts, hE, hnm⟩ := id hcx
  have hown : s.vm.findClass RX11 = some m.cls := hown
  have hK := hE.1
  have hl : lv_has ls 3 [(0, .ref h0), (1, .int p0)] := hl
  refine lv_iload_n hx hb dX11_law_0 rfl (lv_at hl 1 rfl) ?_
  refine lv_iconst (v := 0) hx hb dX11_law_1 (by decide) ?_
  refine lv_bipush (v := 20) hx hb dX11_law_2 (by decide) ?_
  refine kI (wc := []) (wr := [(h0, .inr (11, fs)), (al, .inl (gI g, 24, .inl f_al)), (ke, .inl (gI g, 24, .inl f_ke)), (fe, .inl (gI g, 8, .inl f_fe)), (co, .inl (gI g, 2, .inl f_co)), (gu, .inl (gI g, 2, .inl f_gu))]) (rS (As := [.int p0, .int 0, .int 20]) (rest := []) hcx (c_X11_isIn H.size) (gdS q34_17 q34_18 q1_5 q34_19) dvX11_isIn.2 ⟨Nat.le_of_ble_eq_true rfl, Nat.le_of_ble_eq_true rfl⟩ (hP.sub [] rfl) (hD.sub [] (by decide) rfl) rfl hl.1 rfl (Nat.le_of_ble_eq_true rfl) dX11_law_4 ⟨Nat.le_of_ble_eq_true rfl, Nat.le_of_ble_eq_true rfl⟩) hP hD hS hA [] [0, 1, 2, 3, 4, 5] rfl rfl (by decide) (by decide) (fun r W' H locs hw hP hD hS => ?_)
  obtain ⟨⟨c2, rfl⟩ | ⟨⟨c2a, c2b⟩, rfl⟩, rfl⟩ := hw
  · have hP : va_P g.1 vwCl [(h0, .inr (11, fs)), (al, .inl (gI g, 24, .inl f_al)), (ke, .inl (gI g, 24, .inl f_ke)), (fe, .inl (gI g, 8, .inl f_fe)), (co, .inl (gI g, 2, .inl f_co)), (gu, .inl (gI g, 2, .inl f_gu))] H := hP
    have hD : va_D A [(h0, .inr (11, fs)), (al, .inl (gI g, 24, .inl f_al)), (ke, .inl (gI g, 24, .inl f_ke)), (fe, .inl (gI g, 8, .inl f_fe)), (co, .inl (gI g, 2, .inl f_co)), (gu, .inl (gI g, 2, .inl f_gu))] := hD
    refine lv_if_ne (tgt := 12) hx hb dX11_law_7 (by decide) (fun c3 => absurd (by decide) c3) (fun _ => ?_)
    refine lv_iconst (v := (-1)) hx hb dX11_law_10 (by decide) ?_
    have hP9 : va_P g.1 vwCl [] H := hP.sub [] rfl
    have hD9 : va_D A [] := hD.sub [] (by decide) rfl
    exact xi hx hb hr hlocks rfl hP9 hD9 hS ⟨(by rcases c2 with c2 | c2 <;> simp [sp_law, c2]), rfl⟩ (Nat.le_of_ble_eq_true rfl) (Nat.le_of_ble_eq_true rfl) dX11_law_11
  · have hP : va_P g.1 vwCl [(h0, .inr (11, fs)), (al, .inl (gI g, 24, .inl f_al)), (ke, .inl (gI g, 24, .inl f_ke)), (fe, .inl (gI g, 8, .inl f_fe)), (co, .inl (gI g, 2, .inl f_co)), (gu, .inl (gI g, 2, .inl f_gu))] H := hP
    have hD : va_D A [(h0, .inr (11, fs)), (al, .inl (gI g, 24, .inl f_al)), (ke, .inl (gI g, 24, .inl f_ke)), (fe, .inl (gI g, 8, .inl f_fe)), (co, .inl (gI g, 2, .inl f_co)), (gu, .inl (gI g, 2, .inl f_gu))] := hD
    refine lv_if_ne (tgt := 12) hx hb dX11_law_7 (by decide) (fun _ => ?_) (fun c4 => absurd c4 (by decide))
    refine lv_aload_n hx hb dX11_law_12 rfl (lv_at hl 0 rfl) ?_
    refine kV (wc := [(h0, .inr (11, fs)), (al, .inl (gI g, 24, .inl f_al)), (ke, .inl (gI g, 24, .inl f_ke))]) (wr := [(fe, .inl (gI g, 8, .inl f_fe)), (co, .inl (gI g, 2, .inl f_co)), (gu, .inl (gI g, 2, .inl f_gu))]) (rV (As := []) (rest := []) (meth2 := "") hcx (c_X11_keepNow (hl_fs) (h_fs_all) (h_fs_kept) H.size) (gdV q47_9 q47_10 q47_11 q1_5 q47_12) dvX11_keepNow ⟨Nat.le_of_ble_eq_true rfl, Nat.le_of_ble_eq_true rfl⟩ (hP.sub [0, 1, 2] rfl) (hD.sub [0, 1, 2] (by decide) rfl) (va_recv hK hP (ci := 11) (q0 := 0) rfl rfl) rfl hl.1 rfl (Nat.le_of_ble_eq_true rfl) dX11_law_13 ⟨Nat.le_of_ble_eq_true rfl, Nat.le_of_ble_eq_true rfl⟩) hP hD hS hA [0, 1, 2] [3, 4, 5] rfl rfl (by decide) (by decide) (fun W' H locs hw hP hD hS => ?_)
    obtain ⟨f5, rfl⟩ := hw
    have hP : va_P g.1 vwCl [(fe, .inl (gI g, 8, .inl f_fe)), (co, .inl (gI g, 2, .inl f_co)), (gu, .inl (gI g, 2, .inl f_gu)), (h0, .inr (11, fs)), (al, .inl (gI g, 24, .inl f_al)), (ke, .inl (gI g, 24, .inl f5))] H := hP
    have hD : va_D A [(fe, .inl (gI g, 8, .inl f_fe)), (co, .inl (gI g, 2, .inl f_co)), (gu, .inl (gI g, 2, .inl f_gu)), (h0, .inr (11, fs)), (al, .inl (gI g, 24, .inl f_al)), (ke, .inl (gI g, 24, .inl f5))] := hD
    refine lv_iconst (v := 0) hx hb dX11_law_16 (by decide) ?_
    refine lv_istore_n (lv' := [(2, .int 0), (0, .ref h0), (1, .int p0)]) hx hb dX11_law_17 rfl hl (by decide) rfl (fun ls hl => ?_)
    refine lv_iload_n hx hb dX11_law_18 rfl (lv_at hl 0 rfl) ?_
    refine lv_aload_n hx hb dX11_law_19 rfl (lv_at hl 1 rfl) ?_
    refine kI (wc := [(h0, .inr (11, fs)), (gu, .inl (gI g, 2, .inl f_gu))]) (wr := [(fe, .inl (gI g, 8, .inl f_fe)), (co, .inl (gI g, 2, .inl f_co)), (al, .inl (gI g, 24, .inl f_al)), (ke, .inl (gI g, 24, .inl f5))]) (rV (As := []) (rest := [.int 0]) (meth2 := "") hcx (c_X11_many (hl_fs) (h_fs_guilds) (h_fs_bank) (h_f_gu_0) H.size) (gdV q15_2 q15_3 q15_4 q1_5 q15_5) dvX11_many ⟨Nat.le_of_ble_eq_true rfl, Nat.le_of_ble_eq_true rfl⟩ (hP.sub [3, 2] rfl) (hD.sub [3, 2] (by decide) rfl) (va_recv hK hP (ci := 11) (q0 := 3) rfl rfl) rfl hl.1 rfl (Nat.le_of_ble_eq_true rfl) dX11_law_20 ⟨Nat.le_of_ble_eq_true rfl, Nat.le_of_ble_eq_true rfl⟩) hP hD hS hA [3, 2] [0, 1, 4, 5] rfl rfl (by decide) (by decide) (fun r W' H locs hw hP hD hS => ?_)
    obtain ⟨rfl, rfl⟩ := hw
    have hP : va_P g.1 vwCl [(fe, .inl (gI g, 8, .inl f_fe)), (co, .inl (gI g, 2, .inl f_co)), (al, .inl (gI g, 24, .inl f_al)), (ke, .inl (gI g, 24, .inl f5)), (h0, .inr (11, fs)), (gu, .inl (gI g, 2, .inl f_gu))] H := hP
    have hD : va_D A [(fe, .inl (gI g, 8, .inl f_fe)), (co, .inl (gI g, 2, .inl f_co)), (al, .inl (gI g, 24, .inl f_al)), (ke, .inl (gI g, 24, .inl f5)), (h0, .inr (11, fs)), (gu, .inl (gI g, 2, .inl f_gu))] := hD
    refine lv_icmp_ge (tgt := 41) hx hb dX11_law_23 (by decide) (fun _ => ?_) (fun c6 => absurd (by decide) c6)
    refine lv_aload_n hx hb dX11_law_41 rfl (lv_at hl 1 rfl) ?_
    refine lv_iconst (v := 0) hx hb dX11_law_42 (by decide) ?_
    refine lv_iconst (v := 0) hx hb dX11_law_43 (by decide) ?_
    refine kI (wc := [(h0, .inr (11, fs)), (al, .inl (gI g, 24, .inl f_al)), (ke, .inl (gI g, 24, .inl f5)), (fe, .inl (gI g, 8, .inl f_fe)), (co, .inl (gI g, 2, .inl f_co))]) (wr := [(gu, .inl (gI g, 2, .inl f_gu))]) (rV (As := [.int 0, .int 0]) (rest := []) (meth2 := "") hcx (c_X11_upAtLast (hl_fs) (h_fs_all) (h_fs_kept) (h_fs_fell) (h_fs_corners) (h_fs_bank) (h_f_al_20) (h_f_al_21) (h_f_co_0) H.size) (gdV q48_12 q48_13 q48_14 q1_5 q48_15) dvX11_upAtLast ⟨Nat.le_of_ble_eq_true rfl, Nat.le_of_ble_eq_true rfl⟩ (hP.sub [4, 2, 3, 0, 1] rfl) (hD.sub [4, 2, 3, 0, 1] (by decide) rfl) (va_recv hK hP (ci := 11) (q0 := 4) rfl rfl) rfl hl.1 rfl (Nat.le_of_ble_eq_true rfl) dX11_law_44 ⟨Nat.le_of_ble_eq_true rfl, Nat.le_of_ble_eq_true rfl⟩) hP hD hS hA [4, 2, 3, 0, 1] [5] rfl rfl (by decide) (by decide) (fun r W' H locs hw hP hD hS => ?_)
    obtain ⟨rfl, f7, f8, rfl⟩ := hw
    have hP : va_P g.1 vwCl [(gu, .inl (gI g, 2, .inl f_gu)), (h0, .inr (11, fs)), (al, .inl (gI g, 24, .inl f7)), (ke, .inl (gI g, 24, .inl f5)), (fe, .inl (gI g, 8, .inl f8)), (co, .inl (gI g, 2, .inl f_co))] H := hP
    have hD : va_D A [(gu, .inl (gI g, 2, .inl f_gu)), (h0, .inr (11, fs)), (al, .inl (gI g, 24, .inl f7)), (ke, .inl (gI g, 24, .inl f5)), (fe, .inl (gI g, 8, .inl f8)), (co, .inl (gI g, 2, .inl f_co))] := hD
    refine kI (wc := []) (wr := [(gu, .inl (gI g, 2, .inl f_gu)), (h0, .inr (11, fs)), (al, .inl (gI g, 24, .inl f7)), (ke, .inl (gI g, 24, .inl f5)), (fe, .inl (gI g, 8, .inl f8)), (co, .inl (gI g, 2, .inl f_co))]) (rS (As := [.int 0]) (rest := []) hcx (c_X11_bitsOf H.size) (gdS q53_17 q53_18 q1_5 q53_19) dvX11_bitsOf.2 ⟨Nat.le_of_ble_eq_true rfl, Nat.le_of_ble_eq_true rfl⟩ (hP.sub [] rfl) (hD.sub [] (by decide) rfl) rfl hl.1 rfl (Nat.le_of_ble_eq_true rfl) dX11_law_47 ⟨Nat.le_of_ble_eq_true rfl, Nat.le_of_ble_eq_true rfl⟩) hP hD hS hA [] [0, 1, 2, 3, 4, 5] rfl rfl (by decide) (by decide) (fun r W' H locs hw hP hD hS => ?_)
    obtain ⟨rfl, rfl⟩ := hw
    have hP : va_P g.1 vwCl [(gu, .inl (gI g, 2, .inl f_gu)), (h0, .inr (11, fs)), (al, .inl (gI g, 24, .inl f7)), (ke, .inl (gI g, 24, .inl f5)), (fe, .inl (gI g, 8, .inl f8)), (co, .inl (gI g, 2, .inl f_co))] H := hP
    have hD : va_D A [(gu, .inl (gI g, 2, .inl f_gu)), (h0, .inr (11, fs)), (al, .inl (gI g, 24, .inl f7)), (ke, .inl (gI g, 24, .inl f5)), (fe, .inl (gI g, 8, .inl f8)), (co, .inl (gI g, 2, .inl f_co))] := hD
    have hP9 : va_P g.1 vwCl [] H := hP.sub [] rfl
    have hD9 : va_D A [] := hD.sub [] (by decide) rfl
    exact xi hx hb hr hlocks rfl hP9 hD9 hS ⟨(by simp [sp_law, c2a, c2b]), rfl⟩ (Nat.le_of_ble_eq_true rfl) (Nat.le_of_ble_eq_true rfl) dX11_law_50

set_option maxHeartbeats 4000000 in
set_option maxRecDepth 100000 in
theorem c_X11_worst {l : Launch} {g : Gx} {h0 al ke fe co : Nat} {fs : List Value} {f_al : Nat → Int32} {f_ke : Nat → Int32} {f_fe : Nat → Int32} {f_co : Nat → Int32} (hl_fs : fs.length = 69) (h_fs_all : fs[46]? = some (Value.ref al)) (h_fs_kept : fs[51]? = some (Value.ref ke)) (h_fs_fell : fs[53]? = some (Value.ref fe)) (h_fs_corners : fs[11]? = some (Value.ref co)) (h_fs_bank : fs[34]? = some (Value.int 0)) (h_f_al_20 : f_al 20 = 0) (h_f_al_21 : f_al 21 = 0) (h_f_co_0 : f_co 0 = 0) : MI l g yX11_worst cX11_worst 4 (some .int) 5 0 0 [.ref h0] [(h0, .inr (11, fs)), (al, .inl (gI g, 24, .inl f_al)), (ke, .inl (gI g, 24, .inl f_ke)), (fe, .inl (gI g, 8, .inl f_fe)), (co, .inl (gI g, 2, .inl f_co))] (fun r W' => (-1) = r ∧ W' = []) := by
  refine MIof (by decide) (Nat.le_of_ble_eq_true rfl) ?_
  intro p e s m below meth c A ls H locs hcx hA hP hD hS hl
  obtain ⟨hx, hb, hml, hr, hlocks, hown, hts, hE, hnm⟩ := id hcx
  have hown : s.vm.findClass RX11 = some m.cls := hown
  have hK := hE.1
  have hl : lv_has ls 4 [(0, .ref h0)] := hl
  refine lv_aload_n hx hb dX11_worst_0 rfl (lv_at hl 0 rfl) ?_
  refine kI (wc := [(h0, .inr (11, fs)), (al, .inl (gI g, 24, .inl f_al)), (ke, .inl (gI g, 24, .inl f_ke)), (fe, .inl (gI g, 8, .inl f_fe)), (co, .inl (gI g, 2, .inl f_co))]) (wr := []) (rV (As := []) (rest := []) (meth2 := "") hcx (c_X11_roundNow (hl_fs) (h_fs_all) (h_fs_kept) (h_fs_fell) (h_fs_corners) (h_fs_bank) (h_f_al_20) (h_f_al_21) (h_f_co_0) H.size) (gdV q48_8 q48_9 q48_10 q1_5 q48_11) dvX11_roundNow ⟨Nat.le_of_ble_eq_true rfl, Nat.le_of_ble_eq_true rfl⟩ (hP.sub [0, 1, 2, 3, 4] rfl) (hD.sub [0, 1, 2, 3, 4] (by decide) rfl) (va_recv hK hP (ci := 11) (q0 := 0) rfl rfl) rfl hl.1 rfl (Nat.le_of_ble_eq_true rfl) dX11_worst_1 ⟨Nat.le_of_ble_eq_true rfl, Nat.le_of_ble_eq_true rfl⟩) hP hD hS hA [0, 1, 2, 3, 4] [] rfl rfl (by decide) (by decide) (fun r W' H locs hw hP hD hS => ?_)
  obtain ⟨rfl, f1, f2, f3, rfl⟩ := hw
  have hP : va_P g.1 vwCl [(h0, .inr (11, fs)), (al, .inl (gI g, 24, .inl f1)), (ke, .inl (gI g, 24, .inl f2)), (fe, .inl (gI g, 8, .inl f3)), (co, .inl (gI g, 2, .inl f_co))] H := hP
  have hD : va_D A [(h0, .inr (11, fs)), (al, .inl (gI g, 24, .inl f1)), (ke, .inl (gI g, 24, .inl f2)), (fe, .inl (gI g, 8, .inl f3)), (co, .inl (gI g, 2, .inl f_co))] := hD
  refine lv_istore_n (lv' := [(1, .int 0), (0, .ref h0)]) hx hb dX11_worst_4 rfl hl (by decide) rfl (fun ls hl => ?_)
  refine lv_iconst (v := (-1)) hx hb dX11_worst_5 (by decide) ?_
  refine lv_istore_n (lv' := [(2, .int (-1)), (1, .int 0), (0, .ref h0)]) hx hb dX11_worst_6 rfl hl (by decide) rfl (fun ls hl => ?_)
  refine lv_iconst (v := 0) hx hb dX11_worst_7 (by decide) ?_
  refine lv_istore_n (lv' := [(3, .int 0), (2, .int (-1)), (1, .int 0), (0, .ref h0)]) hx hb dX11_worst_8 rfl hl (by decide) rfl (fun ls hl => ?_)
  refine lv_iload_n hx hb dX11_worst_9 rfl (lv_at hl 0 rfl) ?_
  refine lv_aload_n hx hb dX11_worst_10 rfl (lv_at hl 3 rfl) ?_
  refine kI (wc := [(h0, .inr (11, fs)), (co, .inl (gI g, 2, .inl f_co))]) (wr := [(al, .inl (gI g, 24, .inl f1)), (ke, .inl (gI g, 24, .inl f2)), (fe, .inl (gI g, 8, .inl f3))]) (rV (As := []) (rest := [.int 0]) (meth2 := "") hcx (c_X11_ways (hl_fs) (h_fs_corners) (h_fs_bank) (h_f_co_0) H.size) (gdV q36_17 q36_18 q36_19 q1_5 q36_20) dvX11_ways ⟨Nat.le_of_ble_eq_true rfl, Nat.le_of_ble_eq_true rfl⟩ (hP.sub [0, 4] rfl) (hD.sub [0, 4] (by decide) rfl) (va_recv hK hP (ci := 11) (q0 := 0) rfl rfl) rfl hl.1 rfl (Nat.le_of_ble_eq_true rfl) dX11_worst_11 ⟨Nat.le_of_ble_eq_true rfl, Nat.le_of_ble_eq_true rfl⟩) hP hD hS hA [0, 4] [1, 2, 3] rfl rfl (by decide) (by decide) (fun r W' H locs hw hP hD hS => ?_)
  obtain ⟨rfl, rfl⟩ := hw
  have hP : va_P g.1 vwCl [(al, .inl (gI g, 24, .inl f1)), (ke, .inl (gI g, 24, .inl f2)), (fe, .inl (gI g, 8, .inl f3)), (h0, .inr (11, fs)), (co, .inl (gI g, 2, .inl f_co))] H := hP
  have hD : va_D A [(al, .inl (gI g, 24, .inl f1)), (ke, .inl (gI g, 24, .inl f2)), (fe, .inl (gI g, 8, .inl f3)), (h0, .inr (11, fs)), (co, .inl (gI g, 2, .inl f_co))] := hD
  refine lv_icmp_ge (tgt := 59) hx hb dX11_worst_14 (by decide) (fun _ => ?_) (fun c4 => absurd (by decide) c4)
  refine lv_iload_n hx hb dX11_worst_59 rfl (lv_at hl 1 rfl) ?_
  have hP9 : va_P g.1 vwCl [] H := hP.sub [] rfl
  have hD9 : va_D A [] := hD.sub [] (by decide) rfl
  exact xi hx hb hr hlocks rfl hP9 hD9 hS ⟨rfl, rfl⟩ (Nat.le_of_ble_eq_true rfl) (Nat.le_of_ble_eq_true rfl) dX11_worst_60

set_option maxHeartbeats 4000000 in
set_option maxRecDepth 100000 in
theorem c_X11_narrow {l : Launch} {g : Gx} {h0 gu : Nat} {fs : List Value} {f_gu : Nat → Int32} (hl_fs : fs.length = 69) (h_fs_guilds : fs[12]? = some (Value.ref gu)) (h_fs_bank : fs[34]? = some (Value.int 0)) (h_f_gu_0 : f_gu 0 = 0) : MI l g yX11_narrow cX11_narrow 3 (some .int) 3 0 0 [.ref h0] [(h0, .inr (11, fs)), (gu, .inl (gI g, 2, .inl f_gu))] (fun r W' => 0 = r ∧ W' = []) := by
  refine MIof (by decide) (Nat.le_of_ble_eq_true rfl) ?_
  intro p e s m below meth c A ls H locs hcx hA hP hD hS hl
  obtain ⟨hx, hb, hml, hr, hlocks, hown, hts, hE, hnm⟩ := id hcx
  have hown : s.vm.findClass RX11 = some m.cls := hown
  have hK := hE.1
  have hl : lv_has ls 3 [(0, .ref h0)] := hl
  refine lv_iconst (v := 0) hx hb dX11_narrow_0 (by decide) ?_
  refine lv_istore_n (lv' := [(1, .int 0), (0, .ref h0)]) hx hb dX11_narrow_1 rfl hl (by decide) rfl (fun ls hl => ?_)
  refine lv_iconst (v := 0) hx hb dX11_narrow_2 (by decide) ?_
  refine lv_istore_n (lv' := [(2, .int 0), (1, .int 0), (0, .ref h0)]) hx hb dX11_narrow_3 rfl hl (by decide) rfl (fun ls hl => ?_)
  refine lv_iload_n hx hb dX11_narrow_4 rfl (lv_at hl 0 rfl) ?_
  refine lv_aload_n hx hb dX11_narrow_5 rfl (lv_at hl 2 rfl) ?_
  refine kI (wc := [(h0, .inr (11, fs)), (gu, .inl (gI g, 2, .inl f_gu))]) (wr := []) (rV (As := []) (rest := [.int 0]) (meth2 := "") hcx (c_X11_many (hl_fs) (h_fs_guilds) (h_fs_bank) (h_f_gu_0) H.size) (gdV q15_2 q15_3 q15_4 q1_5 q15_5) dvX11_many ⟨Nat.le_of_ble_eq_true rfl, Nat.le_of_ble_eq_true rfl⟩ (hP.sub [0, 1] rfl) (hD.sub [0, 1] (by decide) rfl) (va_recv hK hP (ci := 11) (q0 := 0) rfl rfl) rfl hl.1 rfl (Nat.le_of_ble_eq_true rfl) dX11_narrow_6 ⟨Nat.le_of_ble_eq_true rfl, Nat.le_of_ble_eq_true rfl⟩) hP hD hS hA [0, 1] [] rfl rfl (by decide) (by decide) (fun r W' H locs hw hP hD hS => ?_)
  obtain ⟨rfl, rfl⟩ := hw
  have hP : va_P g.1 vwCl [(h0, .inr (11, fs)), (gu, .inl (gI g, 2, .inl f_gu))] H := hP
  have hD : va_D A [(h0, .inr (11, fs)), (gu, .inl (gI g, 2, .inl f_gu))] := hD
  refine lv_icmp_ge (tgt := 69) hx hb dX11_narrow_9 (by decide) (fun _ => ?_) (fun c1 => absurd (by decide) c1)
  refine lv_iload_n hx hb dX11_narrow_69 rfl (lv_at hl 1 rfl) ?_
  have hP9 : va_P g.1 vwCl [] H := hP.sub [] rfl
  have hD9 : va_D A [] := hD.sub [] (by decide) rfl
  exact xi hx hb hr hlocks rfl hP9 hD9 hS ⟨rfl, rfl⟩ (Nat.le_of_ble_eq_true rfl) (Nat.le_of_ble_eq_true rfl) dX11_narrow_70

set_option maxHeartbeats 4000000 in
set_option maxRecDepth 100000 in
theorem c_X11_lies {l : Launch} {g : Gx} {h0 : Nat} {p0 : Int32} {fs : List Value} (hl_fs : fs.length = 69) (h_fs_laid : fs[54]? = some (Value.int 0)) : MI l g yX11_lies cX11_lies 2 (some .int) 3 0 0 [.ref h0, .int p0] [(h0, .inr (11, fs))] (fun r W' => (-2) = r ∧ W' = []) := by
  refine MIof (by decide) (Nat.le_of_ble_eq_true rfl) ?_
  intro p e s m below meth c A ls H locs hcx hA hP hD hS hl
  obtain ⟨hx, hb, hml, hr, hlocks, hown, hts, hE, hnm⟩ := id hcx
  have hown : s.vm.findClass RX11 = some m.cls := hown
  have hK := hE.1
  have hl : lv_has ls 2 [(0, .ref h0), (1, .int p0)] := hl
  refine lv_iload_n hx hb dX11_lies_0 rfl (lv_at hl 1 rfl) ?_
  refine lv_iconst (v := 0) hx hb dX11_lies_1 (by decide) ?_
  refine lv_aload_n hx hb dX11_lies_2 rfl (lv_at hl 0 rfl) ?_
  refine va_get (D := g.1) (ci := 11) (v := Value.int 0) (C := RX11) (T := TX11) (N := 69) hx hb hts inlX11 hown hK hP 0 rfl rfl 54 (by decide) (hts _ q15_1) (fun _ h9 => h9) h_fs_laid dX11_lies_3 ?_
  refine lv_iconst (v := 1) hx hb dX11_lies_6 (by decide) ?_
  refine lv_isub hx hb dX11_lies_7 ?_
  refine lv_tope (y := (-1)) (by decide) ?_
  refine kI (wc := []) (wr := [(h0, .inr (11, fs))]) (rS (As := [.int p0, .int 0, .int (-1)]) (rest := []) hcx (c_X11_isIn_none H.size) (gdS q34_17 q34_18 q1_5 q34_19) dvX11_isIn.2 ⟨Nat.le_of_ble_eq_true rfl, Nat.le_of_ble_eq_true rfl⟩ (hP.sub [] rfl) (hD.sub [] (by decide) rfl) rfl hl.1 rfl (Nat.le_of_ble_eq_true rfl) dX11_lies_8 ⟨Nat.le_of_ble_eq_true rfl, Nat.le_of_ble_eq_true rfl⟩) hP hD hS hA [] [0] rfl rfl (by decide) (by decide) (fun r W' H locs hw hP hD hS => ?_)
  obtain ⟨rfl, rfl⟩ := hw
  have hP : va_P g.1 vwCl [(h0, .inr (11, fs))] H := hP
  have hD : va_D A [(h0, .inr (11, fs))] := hD
  refine lv_if_eq (tgt := 23) hx hb dX11_lies_11 (by decide) (fun _ => ?_) (fun c1 => absurd (by decide) c1)
  refine lv_bipush (v := (-2)) hx hb dX11_lies_23 (by decide) ?_
  have hP9 : va_P g.1 vwCl [] H := hP.sub [] rfl
  have hD9 : va_D A [] := hD.sub [] (by decide) rfl
  exact xi hx hb hr hlocks rfl hP9 hD9 hS ⟨rfl, rfl⟩ (Nat.le_of_ble_eq_true rfl) (Nat.le_of_ble_eq_true rfl) dX11_lies_25

set_option maxHeartbeats 4000000 in
set_option maxRecDepth 100000 in
theorem c_X11_seen {l : Launch} {g : Gx} {h0 gu co : Nat} {p0 : Int32} {p1 : Int32} {p2 : Int32} {fs : List Value} {f_gu : Nat → Int32} {f_co : Nat → Int32} (hl_fs : fs.length = 69) (h_fs_guilds : fs[12]? = some (Value.ref gu)) (h_fs_corners : fs[11]? = some (Value.ref co)) (h_fs_bank : fs[34]? = some (Value.int 0)) (h_f_gu_0 : f_gu 0 = 0) (h_f_co_0 : f_co 0 = 0) : MI l g yX11_seen cX11_seen 4 (some .int) 4 0 0 [.ref h0, .int p0, .int p1, .int p2] [(h0, .inr (11, fs)), (gu, .inl (gI g, 2, .inl f_gu)), (co, .inl (gI g, 2, .inl f_co))] (fun r W' => (-1) = r ∧ W' = []) := by
  refine MIof (by decide) (Nat.le_of_ble_eq_true rfl) ?_
  intro p e s m below meth c A ls H locs hcx hA hP hD hS hl
  obtain ⟨hx, hb, hml, hr, hlocks, hown, hts, hE, hnm⟩ := id hcx
  have hown : s.vm.findClass RX11 = some m.cls := hown
  have hK := hE.1
  have hl : lv_has ls 4 [(0, .ref h0), (1, .int p0), (2, .int p1), (3, .int p2)] := hl
  refine lv_iload_n hx hb dX11_seen_0 rfl (lv_at hl 1 rfl) ?_
  refine lv_iconst (v := 0) hx hb dX11_seen_1 (by decide) ?_
  refine lv_aload_n hx hb dX11_seen_2 rfl (lv_at hl 0 rfl) ?_
  refine kI (wc := [(h0, .inr (11, fs)), (co, .inl (gI g, 2, .inl f_co))]) (wr := [(gu, .inl (gI g, 2, .inl f_gu))]) (rV (As := []) (rest := [.int 0, .int p0]) (meth2 := "") hcx (c_X11_ways (hl_fs) (h_fs_corners) (h_fs_bank) (h_f_co_0) H.size) (gdV q36_17 q36_18 q36_19 q1_5 q36_20) dvX11_ways ⟨Nat.le_of_ble_eq_true rfl, Nat.le_of_ble_eq_true rfl⟩ (hP.sub [0, 2] rfl) (hD.sub [0, 2] (by decide) rfl) (va_recv hK hP (ci := 11) (q0 := 0) rfl rfl) rfl hl.1 rfl (Nat.le_of_ble_eq_true rfl) dX11_seen_3 ⟨Nat.le_of_ble_eq_true rfl, Nat.le_of_ble_eq_true rfl⟩) hP hD hS hA [0, 2] [1] rfl rfl (by decide) (by decide) (fun r W' H locs hw hP hD hS => ?_)
  obtain ⟨rfl, rfl⟩ := hw
  have hP : va_P g.1 vwCl [(gu, .inl (gI g, 2, .inl f_gu)), (h0, .inr (11, fs)), (co, .inl (gI g, 2, .inl f_co))] H := hP
  have hD : va_D A [(gu, .inl (gI g, 2, .inl f_gu)), (h0, .inr (11, fs)), (co, .inl (gI g, 2, .inl f_co))] := hD
  refine kI (wc := []) (wr := [(gu, .inl (gI g, 2, .inl f_gu)), (h0, .inr (11, fs)), (co, .inl (gI g, 2, .inl f_co))]) (rS (As := [.int p0, .int 0, .int 0]) (rest := []) hcx (c_X11_isIn H.size) (gdS q34_17 q34_18 q1_5 q34_19) dvX11_isIn.2 ⟨Nat.le_of_ble_eq_true rfl, Nat.le_of_ble_eq_true rfl⟩ (hP.sub [] rfl) (hD.sub [] (by decide) rfl) rfl hl.1 rfl (Nat.le_of_ble_eq_true rfl) dX11_seen_6 ⟨Nat.le_of_ble_eq_true rfl, Nat.le_of_ble_eq_true rfl⟩) hP hD hS hA [] [0, 1, 2] rfl rfl (by decide) (by decide) (fun r W' H locs hw hP hD hS => ?_)
  obtain ⟨⟨c2, rfl⟩ | ⟨⟨c2a, c2b⟩, rfl⟩, rfl⟩ := hw
  · have hP : va_P g.1 vwCl [(gu, .inl (gI g, 2, .inl f_gu)), (h0, .inr (11, fs)), (co, .inl (gI g, 2, .inl f_co))] H := hP
    have hD : va_D A [(gu, .inl (gI g, 2, .inl f_gu)), (h0, .inr (11, fs)), (co, .inl (gI g, 2, .inl f_co))] := hD
    refine lv_if_eq (tgt := 29) hx hb dX11_seen_9 (by decide) (fun _ => ?_) (fun c3 => absurd (by decide) c3)
    refine lv_iconst (v := (-1)) hx hb dX11_seen_29 (by decide) ?_
    have hP9 : va_P g.1 vwCl [] H := hP.sub [] rfl
    have hD9 : va_D A [] := hD.sub [] (by decide) rfl
    exact xi hx hb hr hlocks rfl hP9 hD9 hS ⟨rfl, rfl⟩ (Nat.le_of_ble_eq_true rfl) (Nat.le_of_ble_eq_true rfl) dX11_seen_30
  · have hP : va_P g.1 vwCl [(gu, .inl (gI g, 2, .inl f_gu)), (h0, .inr (11, fs)), (co, .inl (gI g, 2, .inl f_co))] H := hP
    have hD : va_D A [(gu, .inl (gI g, 2, .inl f_gu)), (h0, .inr (11, fs)), (co, .inl (gI g, 2, .inl f_co))] := hD
    refine lv_if_eq (tgt := 29) hx hb dX11_seen_9 (by decide) (fun c4 => absurd c4 (by decide)) (fun _ => ?_)
    refine lv_aload_n hx hb dX11_seen_12 rfl (lv_at hl 0 rfl) ?_
    refine lv_iload_n hx hb dX11_seen_13 rfl (lv_at hl 2 rfl) ?_
    refine kI (wc := [(h0, .inr (11, fs)), (gu, .inl (gI g, 2, .inl f_gu))]) (wr := [(co, .inl (gI g, 2, .inl f_co))]) (rV (As := [.int p1]) (rest := []) (meth2 := "") hcx (c_X11_isGuild (hl_fs) (h_fs_guilds) (h_fs_bank) (h_f_gu_0) H.size) (gdV q34_13 q34_14 q34_15 q1_5 q34_16) dvX11_isGuild ⟨Nat.le_of_ble_eq_true rfl, Nat.le_of_ble_eq_true rfl⟩ (hP.sub [1, 0] rfl) (hD.sub [1, 0] (by decide) rfl) (va_recv hK hP (ci := 11) (q0 := 1) rfl rfl) rfl hl.1 rfl (Nat.le_of_ble_eq_true rfl) dX11_seen_14 ⟨Nat.le_of_ble_eq_true rfl, Nat.le_of_ble_eq_true rfl⟩) hP hD hS hA [1, 0] [2] rfl rfl (by decide) (by decide) (fun r W' H locs hw hP hD hS => ?_)
    obtain ⟨rfl, rfl⟩ := hw
    have hP : va_P g.1 vwCl [(co, .inl (gI g, 2, .inl f_co)), (h0, .inr (11, fs)), (gu, .inl (gI g, 2, .inl f_gu))] H := hP
    have hD : va_D A [(co, .inl (gI g, 2, .inl f_co)), (h0, .inr (11, fs)), (gu, .inl (gI g, 2, .inl f_gu))] := hD
    refine lv_if_eq (tgt := 29) hx hb dX11_seen_17 (by decide) (fun _ => ?_) (fun c5 => absurd (by decide) c5)
    refine lv_iconst (v := (-1)) hx hb dX11_seen_29 (by decide) ?_
    have hP9 : va_P g.1 vwCl [] H := hP.sub [] rfl
    have hD9 : va_D A [] := hD.sub [] (by decide) rfl
    exact xi hx hb hr hlocks rfl hP9 hD9 hS ⟨rfl, rfl⟩ (Nat.le_of_ble_eq_true rfl) (Nat.le_of_ble_eq_true rfl) dX11_seen_30

set_option maxHeartbeats 4000000 in
set_option maxRecDepth 100000 in
theorem c_X11_untell {l : Launch} {g : Gx} {h0 : Nat} {p0 : Int32} {fs : List Value} (hl_fs : fs.length = 69) (h_fs_seens : fs[65]? = some (Value.int 0)) : MI l g yX11_untell cX11_untell 2 (some .boolean) 3 0 0 [.ref h0, .int p0] [(h0, .inr (11, fs))] (fun r W' => 0 = r ∧ W' = []) := by
  refine MIof (by decide) (Nat.le_of_ble_eq_true rfl) ?_
  intro p e s m below meth c A ls H locs hcx hA hP hD hS hl
  obtain ⟨hx, hb, hml, hr, hlocks, hown, hts, hE, hnm⟩ := id hcx
  have hown : s.vm.findClass RX11 = some m.cls := hown
  have hK := hE.1
  have hl : lv_has ls 2 [(0, .ref h0), (1, .int p0)] := hl
  refine lv_iload_n hx hb dX11_untell_0 rfl (lv_at hl 1 rfl) ?_
  refine lv_iconst (v := 0) hx hb dX11_untell_1 (by decide) ?_
  refine lv_aload_n hx hb dX11_untell_2 rfl (lv_at hl 0 rfl) ?_
  refine va_get (D := g.1) (ci := 11) (v := Value.int 0) (C := RX11) (T := TX11) (N := 69) hx hb hts inlX11 hown hK hP 0 rfl rfl 65 (by decide) (hts _ q15_0) (fun _ h9 => h9) h_fs_seens dX11_untell_3 ?_
  refine lv_iconst (v := 1) hx hb dX11_untell_6 (by decide) ?_
  refine lv_isub hx hb dX11_untell_7 ?_
  refine lv_tope (y := (-1)) (by decide) ?_
  refine kI (wc := []) (wr := [(h0, .inr (11, fs))]) (rS (As := [.int p0, .int 0, .int (-1)]) (rest := []) hcx (c_X11_isIn_none H.size) (gdS q34_17 q34_18 q1_5 q34_19) dvX11_isIn.2 ⟨Nat.le_of_ble_eq_true rfl, Nat.le_of_ble_eq_true rfl⟩ (hP.sub [] rfl) (hD.sub [] (by decide) rfl) rfl hl.1 rfl (Nat.le_of_ble_eq_true rfl) dX11_untell_8 ⟨Nat.le_of_ble_eq_true rfl, Nat.le_of_ble_eq_true rfl⟩) hP hD hS hA [] [0] rfl rfl (by decide) (by decide) (fun r W' H locs hw hP hD hS => ?_)
  obtain ⟨rfl, rfl⟩ := hw
  have hP : va_P g.1 vwCl [(h0, .inr (11, fs))] H := hP
  have hD : va_D A [(h0, .inr (11, fs))] := hD
  refine lv_if_eq (tgt := 23) hx hb dX11_untell_11 (by decide) (fun _ => ?_) (fun c1 => absurd (by decide) c1)
  refine lv_iconst (v := 0) hx hb dX11_untell_23 (by decide) ?_
  have hP9 : va_P g.1 vwCl [] H := hP.sub [] rfl
  have hD9 : va_D A [] := hD.sub [] (by decide) rfl
  exact xi hx hb hr hlocks rfl hP9 hD9 hS ⟨rfl, rfl⟩ (Nat.le_of_ble_eq_true rfl) (Nat.le_of_ble_eq_true rfl) dX11_untell_24

set_option maxHeartbeats 4000000 in
set_option maxRecDepth 100000 in
theorem c_X11_later {l : Launch} {g : Gx} {h0 : Nat} {p0 : Int32} {fs : List Value} (hl_fs : fs.length = 69) (h_fs_time : fs[66]? = some (Value.int 0)) : MI l g yX11_later cX11_later 2 (some .int) 3 0 0 [.ref h0, .int p0] [(h0, .inr (11, fs))] (fun r W' => r = sp_later p0 ∧ W' = []) := by
  refine MIof (by decide) (Nat.le_of_ble_eq_true rfl) ?_
  intro p e s m below meth c A ls H locs hcx hA hP hD hS hl
  obtain ⟨hx, hb, hml, hr, hlocks, hown, hts, hE, hnm⟩ := id hcx
  have hown : s.vm.findClass RX11 = some m.cls := hown
  have hK := hE.1
  have hl : lv_has ls 2 [(0, .ref h0), (1, .int p0)] := hl
  refine lv_iload_n hx hb dX11_later_0 rfl (lv_at hl 1 rfl) ?_
  refine lv_iconst (v := 0) hx hb dX11_later_1 (by decide) ?_
  refine lv_sipush (v := 1000) hx hb dX11_later_2 (by decide) ?_
  refine kI (wc := []) (wr := [(h0, .inr (11, fs))]) (rS (As := [.int p0, .int 0, .int 1000]) (rest := []) hcx (c_X11_isIn H.size) (gdS q34_17 q34_18 q1_5 q34_19) dvX11_isIn.2 ⟨Nat.le_of_ble_eq_true rfl, Nat.le_of_ble_eq_true rfl⟩ (hP.sub [] rfl) (hD.sub [] (by decide) rfl) rfl hl.1 rfl (Nat.le_of_ble_eq_true rfl) dX11_later_5 ⟨Nat.le_of_ble_eq_true rfl, Nat.le_of_ble_eq_true rfl⟩) hP hD hS hA [] [0] rfl rfl (by decide) (by decide) (fun r W' H locs hw hP hD hS => ?_)
  obtain ⟨⟨c2, rfl⟩ | ⟨⟨c2a, c2b⟩, rfl⟩, rfl⟩ := hw
  · have hP : va_P g.1 vwCl [(h0, .inr (11, fs))] H := hP
    have hD : va_D A [(h0, .inr (11, fs))] := hD
    refine lv_if_eq (tgt := 23) hx hb dX11_later_8 (by decide) (fun _ => ?_) (fun c3 => absurd (by decide) c3)
    refine lv_iconst (v := (-1)) hx hb dX11_later_23 (by decide) ?_
    have hP9 : va_P g.1 vwCl [] H := hP.sub [] rfl
    have hD9 : va_D A [] := hD.sub [] (by decide) rfl
    exact xi hx hb hr hlocks rfl hP9 hD9 hS ⟨(by rcases c2 with c2 | c2 <;> simp [sp_later, c2]), rfl⟩ (Nat.le_of_ble_eq_true rfl) (Nat.le_of_ble_eq_true rfl) dX11_later_24
  · have hP : va_P g.1 vwCl [(h0, .inr (11, fs))] H := hP
    have hD : va_D A [(h0, .inr (11, fs))] := hD
    refine lv_if_eq (tgt := 23) hx hb dX11_later_8 (by decide) (fun c4 => absurd c4 (by decide)) (fun _ => ?_)
    refine lv_aload_n hx hb dX11_later_11 rfl (lv_at hl 0 rfl) ?_
    refine va_get (D := g.1) (ci := 11) (v := Value.int 0) (C := RX11) (T := TX11) (N := 69) hx hb hts inlX11 hown hK hP 0 rfl rfl 66 (by decide) (hts _ q62_7) (fun _ h9 => h9) h_fs_time dX11_later_12 ?_
    refine lv_iload_n hx hb dX11_later_15 rfl (lv_at hl 1 rfl) ?_
    refine lv_iadd hx hb dX11_later_16 ?_
    refine lv_tope (y := p0) (Int32.zero_add _) ?_
    refine lv_ldcw hx hb hown (hts _ q63_5) dX11_later_17 ?_
    refine lv_icmp_le (tgt := 25) hx hb dX11_later_20 (by decide) (fun _ => ?_) (fun c5 => absurd (Int32.le_trans (Int32.not_lt.mp c2b) (by decide)) c5)
    refine lv_aload_n hx hb dX11_later_25 rfl (lv_at hl 0 rfl) ?_
    refine lv_dup hx hb dX11_later_26 rfl ?_
    refine va_get (D := g.1) (ci := 11) (v := Value.int 0) (C := RX11) (T := TX11) (N := 69) hx hb hts inlX11 hown hK hP 0 rfl rfl 66 (by decide) (hts _ q62_7) (fun _ h9 => h9) h_fs_time dX11_later_27 ?_
    refine lv_iload_n hx hb dX11_later_30 rfl (lv_at hl 1 rfl) ?_
    refine lv_iadd hx hb dX11_later_31 ?_
    refine lv_tope (y := p0) (Int32.zero_add _) ?_
    refine va_put (D := g.1) (ci := 11) (v := Value.int p0) (ty := .int) (C := RX11) (T := TX11) (N := 69) hx hb hts inlX11 tyX11 tyX11_ok nmX11 hown hK hP hD hS 0 rfl rfl 66 (by decide) (hts _ q62_7) (fun _ h9 => h9) rfl (by decide +kernel) rfl rfl (by simp [hl_fs]) dX11_later_32 (fun H locs hP hD hS => ?_)
    have hP : va_P g.1 vwCl [(h0, .inr (11, (fs.set 66 (.int p0))))] H := hP
    have hD : va_D A [(h0, .inr (11, (fs.set 66 (.int p0))))] := hD
    refine lv_aload_n hx hb dX11_later_35 rfl (lv_at hl 0 rfl) ?_
    refine va_get (D := g.1) (ci := 11) (v := Value.int p0) (C := RX11) (T := TX11) (N := 69) hx hb hts inlX11 hown hK hP 0 rfl rfl 66 (by decide) (hts _ q62_7) (fun _ h9 => h9) (List.getElem?_set_self (by simp [hl_fs])) dX11_later_36 ?_
    have hP9 : va_P g.1 vwCl [] H := hP.sub [] rfl
    have hD9 : va_D A [] := hD.sub [] (by decide) rfl
    exact xi hx hb hr hlocks rfl hP9 hD9 hS ⟨(by simp [sp_later, c2a, c2b]), rfl⟩ (Nat.le_of_ble_eq_true rfl) (Nat.le_of_ble_eq_true rfl) dX11_later_39

set_option maxHeartbeats 4000000 in
set_option maxRecDepth 100000 in
theorem c_X11_fits {l : Launch} {g : Gx} {h0 gu : Nat} {p0 : Int32} {fs : List Value} {f_gu : Nat → Int32} (hl_fs : fs.length = 69) (h_fs_guilds : fs[12]? = some (Value.ref gu)) (h_fs_bank : fs[34]? = some (Value.int 0)) (h_f_gu_0 : f_gu 0 = 0) : MI l g yX11_fits cX11_fits 2 (some .int) 3 0 0 [.ref h0, .int p0] [(h0, .inr (11, fs)), (gu, .inl (gI g, 2, .inl f_gu))] (fun r W' => 0 = r ∧ W' = [(h0, .inr (11, fs)), (gu, .inl (gI g, 2, .inl f_gu))]) := by
  refine MIof (by decide) (Nat.le_of_ble_eq_true rfl) ?_
  intro p e s m below meth c A ls H locs hcx hA hP hD hS hl
  obtain ⟨hx, hb, hml, hr, hlocks, hown, hts, hE, hnm⟩ := id hcx
  have hown : s.vm.findClass RX11 = some m.cls := hown
  have hK := hE.1
  have hl : lv_has ls 2 [(0, .ref h0), (1, .int p0)] := hl
  refine lv_aload_n hx hb dX11_fits_0 rfl (lv_at hl 0 rfl) ?_
  refine kI (wc := [(h0, .inr (11, fs)), (gu, .inl (gI g, 2, .inl f_gu))]) (wr := []) (rV (As := []) (rest := []) (meth2 := "") hcx (c_X11_many (hl_fs) (h_fs_guilds) (h_fs_bank) (h_f_gu_0) H.size) (gdV q15_2 q15_3 q15_4 q1_5 q15_5) dvX11_many ⟨Nat.le_of_ble_eq_true rfl, Nat.le_of_ble_eq_true rfl⟩ (hP.sub [0, 1] rfl) (hD.sub [0, 1] (by decide) rfl) (va_recv hK hP (ci := 11) (q0 := 0) rfl rfl) rfl hl.1 rfl (Nat.le_of_ble_eq_true rfl) dX11_fits_1 ⟨Nat.le_of_ble_eq_true rfl, Nat.le_of_ble_eq_true rfl⟩) hP hD hS hA [0, 1] [] rfl rfl (by decide) (by decide) (fun r W' H locs hw hP hD hS => ?_)
  obtain ⟨rfl, rfl⟩ := hw
  have hP : va_P g.1 vwCl [(h0, .inr (11, fs)), (gu, .inl (gI g, 2, .inl f_gu))] H := hP
  have hD : va_D A [(h0, .inr (11, fs)), (gu, .inl (gI g, 2, .inl f_gu))] := hD
  refine lv_if_ne (tgt := 9) hx hb dX11_fits_4 (by decide) (fun c1 => absurd (by decide) c1) (fun _ => ?_)
  refine lv_iconst (v := 0) hx hb dX11_fits_7 (by decide) ?_
  exact xi hx hb hr hlocks rfl hP hD hS ⟨rfl, rfl⟩ (Nat.le_of_ble_eq_true rfl) (Nat.le_of_ble_eq_true rfl) dX11_fits_8

set_option maxHeartbeats 4000000 in
set_option maxRecDepth 100000 in
theorem c_X11_sure {l : Launch} {g : Gx} {h0 gu : Nat} {p0 : Int32} {p1 : Int32} {fs : List Value} {f_gu : Nat → Int32} (hl_fs : fs.length = 69) (h_fs_guilds : fs[12]? = some (Value.ref gu)) (h_fs_bank : fs[34]? = some (Value.int 0)) (h_f_gu_0 : f_gu 0 = 0) : MI l g yX11_sure cX11_sure 4 (some .int) 4 0 0 [.ref h0, .int p0, .int p1] [(h0, .inr (11, fs)), (gu, .inl (gI g, 2, .inl f_gu))] (fun r W' => (-1) = r ∧ W' = []) := by
  refine MIof (by decide) (Nat.le_of_ble_eq_true rfl) ?_
  intro p e s m below meth c A ls H locs hcx hA hP hD hS hl
  obtain ⟨hx, hb, hml, hr, hlocks, hown, hts, hE, hnm⟩ := id hcx
  have hown : s.vm.findClass RX11 = some m.cls := hown
  have hK := hE.1
  have hl : lv_has ls 4 [(0, .ref h0), (1, .int p0), (2, .int p1)] := hl
  refine lv_iload_n hx hb dX11_sure_0 rfl (lv_at hl 1 rfl) ?_
  refine lv_iconst (v := 0) hx hb dX11_sure_1 (by decide) ?_
  refine lv_iconst (v := 1) hx hb dX11_sure_2 (by decide) ?_
  refine kI (wc := []) (wr := [(h0, .inr (11, fs)), (gu, .inl (gI g, 2, .inl f_gu))]) (rS (As := [.int p0, .int 0, .int 1]) (rest := []) hcx (c_X11_isIn H.size) (gdS q34_17 q34_18 q1_5 q34_19) dvX11_isIn.2 ⟨Nat.le_of_ble_eq_true rfl, Nat.le_of_ble_eq_true rfl⟩ (hP.sub [] rfl) (hD.sub [] (by decide) rfl) rfl hl.1 rfl (Nat.le_of_ble_eq_true rfl) dX11_sure_3 ⟨Nat.le_of_ble_eq_true rfl, Nat.le_of_ble_eq_true rfl⟩) hP hD hS hA [] [0, 1] rfl rfl (by decide) (by decide) (fun r W' H locs hw hP hD hS => ?_)
  obtain ⟨⟨c2, rfl⟩ | ⟨⟨c2a, c2b⟩, rfl⟩, rfl⟩ := hw
  · have hP : va_P g.1 vwCl [(h0, .inr (11, fs)), (gu, .inl (gI g, 2, .inl f_gu))] H := hP
    have hD : va_D A [(h0, .inr (11, fs)), (gu, .inl (gI g, 2, .inl f_gu))] := hD
    refine lv_if_eq (tgt := 17) hx hb dX11_sure_6 (by decide) (fun _ => ?_) (fun c3 => absurd (by decide) c3)
    refine lv_iconst (v := (-1)) hx hb dX11_sure_17 (by decide) ?_
    have hP9 : va_P g.1 vwCl [] H := hP.sub [] rfl
    have hD9 : va_D A [] := hD.sub [] (by decide) rfl
    exact xi hx hb hr hlocks rfl hP9 hD9 hS ⟨rfl, rfl⟩ (Nat.le_of_ble_eq_true rfl) (Nat.le_of_ble_eq_true rfl) dX11_sure_18
  · have hP : va_P g.1 vwCl [(h0, .inr (11, fs)), (gu, .inl (gI g, 2, .inl f_gu))] H := hP
    have hD : va_D A [(h0, .inr (11, fs)), (gu, .inl (gI g, 2, .inl f_gu))] := hD
    refine lv_if_eq (tgt := 17) hx hb dX11_sure_6 (by decide) (fun c4 => absurd c4 (by decide)) (fun _ => ?_)
    refine lv_aload_n hx hb dX11_sure_9 rfl (lv_at hl 0 rfl) ?_
    refine lv_iload_n hx hb dX11_sure_10 rfl (lv_at hl 2 rfl) ?_
    refine kI (wc := [(h0, .inr (11, fs)), (gu, .inl (gI g, 2, .inl f_gu))]) (wr := []) (rV (As := [.int p1]) (rest := []) (meth2 := "") hcx (c_X11_fits (hl_fs) (h_fs_guilds) (h_fs_bank) (h_f_gu_0) H.size) (gdV q65_14 q64_6 q64_7 q1_5 q64_8) dvX11_fits ⟨Nat.le_of_ble_eq_true rfl, Nat.le_of_ble_eq_true rfl⟩ (hP.sub [0, 1] rfl) (hD.sub [0, 1] (by decide) rfl) (va_recv hK hP (ci := 11) (q0 := 0) rfl rfl) rfl hl.1 rfl (Nat.le_of_ble_eq_true rfl) dX11_sure_11 ⟨Nat.le_of_ble_eq_true rfl, Nat.le_of_ble_eq_true rfl⟩) hP hD hS hA [0, 1] [] rfl rfl (by decide) (by decide) (fun r W' H locs hw hP hD hS => ?_)
    obtain ⟨rfl, rfl⟩ := hw
    have hP : va_P g.1 vwCl [(h0, .inr (11, fs)), (gu, .inl (gI g, 2, .inl f_gu))] H := hP
    have hD : va_D A [(h0, .inr (11, fs)), (gu, .inl (gI g, 2, .inl f_gu))] := hD
    refine lv_if_ne (tgt := 19) hx hb dX11_sure_14 (by decide) (fun c5 => absurd (by decide) c5) (fun _ => ?_)
    refine lv_iconst (v := (-1)) hx hb dX11_sure_17 (by decide) ?_
    have hP9 : va_P g.1 vwCl [] H := hP.sub [] rfl
    have hD9 : va_D A [] := hD.sub [] (by decide) rfl
    exact xi hx hb hr hlocks rfl hP9 hD9 hS ⟨rfl, rfl⟩ (Nat.le_of_ble_eq_true rfl) (Nat.le_of_ble_eq_true rfl) dX11_sure_18

set_option maxHeartbeats 4000000 in
set_option maxRecDepth 100000 in
theorem c_X11_ask {l : Launch} {g : Gx} {h0 gu : Nat} {p0 : Int32} {p1 : Int32} {fs : List Value} {f_gu : Nat → Int32} (hl_fs : fs.length = 69) (h_fs_guilds : fs[12]? = some (Value.ref gu)) (h_fs_bank : fs[34]? = some (Value.int 0)) (h_f_gu_0 : f_gu 0 = 0) : MI l g yX11_ask cX11_ask 5 (some .int) 4 0 0 [.ref h0, .int p0, .int p1] [(h0, .inr (11, fs)), (gu, .inl (gI g, 2, .inl f_gu))] (fun r W' => (-1) = r ∧ W' = []) := by
  refine MIof (by decide) (Nat.le_of_ble_eq_true rfl) ?_
  intro p e s m below meth c A ls H locs hcx hA hP hD hS hl
  obtain ⟨hx, hb, hml, hr, hlocks, hown, hts, hE, hnm⟩ := id hcx
  have hown : s.vm.findClass RX11 = some m.cls := hown
  have hK := hE.1
  have hl : lv_has ls 5 [(0, .ref h0), (1, .int p0), (2, .int p1)] := hl
  refine lv_iload_n hx hb dX11_ask_0 rfl (lv_at hl 1 rfl) ?_
  refine lv_iconst (v := 0) hx hb dX11_ask_1 (by decide) ?_
  refine lv_iconst (v := 1) hx hb dX11_ask_2 (by decide) ?_
  refine kI (wc := []) (wr := [(h0, .inr (11, fs)), (gu, .inl (gI g, 2, .inl f_gu))]) (rS (As := [.int p0, .int 0, .int 1]) (rest := []) hcx (c_X11_isIn H.size) (gdS q34_17 q34_18 q1_5 q34_19) dvX11_isIn.2 ⟨Nat.le_of_ble_eq_true rfl, Nat.le_of_ble_eq_true rfl⟩ (hP.sub [] rfl) (hD.sub [] (by decide) rfl) rfl hl.1 rfl (Nat.le_of_ble_eq_true rfl) dX11_ask_3 ⟨Nat.le_of_ble_eq_true rfl, Nat.le_of_ble_eq_true rfl⟩) hP hD hS hA [] [0, 1] rfl rfl (by decide) (by decide) (fun r W' H locs hw hP hD hS => ?_)
  obtain ⟨⟨c2, rfl⟩ | ⟨⟨c2a, c2b⟩, rfl⟩, rfl⟩ := hw
  · have hP : va_P g.1 vwCl [(h0, .inr (11, fs)), (gu, .inl (gI g, 2, .inl f_gu))] H := hP
    have hD : va_D A [(h0, .inr (11, fs)), (gu, .inl (gI g, 2, .inl f_gu))] := hD
    refine lv_if_eq (tgt := 17) hx hb dX11_ask_6 (by decide) (fun _ => ?_) (fun c3 => absurd (by decide) c3)
    refine lv_iconst (v := (-1)) hx hb dX11_ask_17 (by decide) ?_
    have hP9 : va_P g.1 vwCl [] H := hP.sub [] rfl
    have hD9 : va_D A [] := hD.sub [] (by decide) rfl
    exact xi hx hb hr hlocks rfl hP9 hD9 hS ⟨rfl, rfl⟩ (Nat.le_of_ble_eq_true rfl) (Nat.le_of_ble_eq_true rfl) dX11_ask_18
  · have hP : va_P g.1 vwCl [(h0, .inr (11, fs)), (gu, .inl (gI g, 2, .inl f_gu))] H := hP
    have hD : va_D A [(h0, .inr (11, fs)), (gu, .inl (gI g, 2, .inl f_gu))] := hD
    refine lv_if_eq (tgt := 17) hx hb dX11_ask_6 (by decide) (fun c4 => absurd c4 (by decide)) (fun _ => ?_)
    refine lv_aload_n hx hb dX11_ask_9 rfl (lv_at hl 0 rfl) ?_
    refine lv_iload_n hx hb dX11_ask_10 rfl (lv_at hl 2 rfl) ?_
    refine kI (wc := [(h0, .inr (11, fs)), (gu, .inl (gI g, 2, .inl f_gu))]) (wr := []) (rV (As := [.int p1]) (rest := []) (meth2 := "") hcx (c_X11_fits (hl_fs) (h_fs_guilds) (h_fs_bank) (h_f_gu_0) H.size) (gdV q65_14 q64_6 q64_7 q1_5 q64_8) dvX11_fits ⟨Nat.le_of_ble_eq_true rfl, Nat.le_of_ble_eq_true rfl⟩ (hP.sub [0, 1] rfl) (hD.sub [0, 1] (by decide) rfl) (va_recv hK hP (ci := 11) (q0 := 0) rfl rfl) rfl hl.1 rfl (Nat.le_of_ble_eq_true rfl) dX11_ask_11 ⟨Nat.le_of_ble_eq_true rfl, Nat.le_of_ble_eq_true rfl⟩) hP hD hS hA [0, 1] [] rfl rfl (by decide) (by decide) (fun r W' H locs hw hP hD hS => ?_)
    obtain ⟨rfl, rfl⟩ := hw
    have hP : va_P g.1 vwCl [(h0, .inr (11, fs)), (gu, .inl (gI g, 2, .inl f_gu))] H := hP
    have hD : va_D A [(h0, .inr (11, fs)), (gu, .inl (gI g, 2, .inl f_gu))] := hD
    refine lv_if_ne (tgt := 19) hx hb dX11_ask_14 (by decide) (fun c5 => absurd (by decide) c5) (fun _ => ?_)
    refine lv_iconst (v := (-1)) hx hb dX11_ask_17 (by decide) ?_
    have hP9 : va_P g.1 vwCl [] H := hP.sub [] rfl
    have hD9 : va_D A [] := hD.sub [] (by decide) rfl
    exact xi hx hb hr hlocks rfl hP9 hD9 hS ⟨rfl, rfl⟩ (Nat.le_of_ble_eq_true rfl) (Nat.le_of_ble_eq_true rfl) dX11_ask_18

set_option maxHeartbeats 4000000 in
set_option maxRecDepth 100000 in
theorem c_X11_image_0 {l : Launch} {g : Gx} {h0 al ba ib : Nat} {fs : List Value} {f_al : Nat → Int32} {f_ba : Nat → Int32} {f_ib : Nat → Int32} (hl_fs : fs.length = 69) (h_fs_all : fs[46]? = some (Value.ref al)) (h_fs_boxAll : fs[67]? = some (Value.ref ba)) (h_fs_isBoxed : fs[68]? = some (Value.ref ib)) (h_f_al_22 : f_al 22 = 0) : MI l g yX11_image cX11_image 3 (some .int) 3 0 0 [.ref h0, .int 0] [(h0, .inr (11, fs)), (al, .inl (gI g, 24, .inl f_al)), (ba, .inl (gI g, 72, .inl f_ba)), (ib, .inl (gZ g, 3, .inl f_ib))] (fun r W' => 0 = r ∧ W' = []) := by
  refine MIof (by decide) (Nat.le_of_ble_eq_true rfl) ?_
  intro p e s m below meth c A ls H locs hcx hA hP hD hS hl
  obtain ⟨hx, hb, hml, hr, hlocks, hown, hts, hE, hnm⟩ := id hcx
  have hown : s.vm.findClass RX11 = some m.cls := hown
  have hK := hE.1
  have hl : lv_has ls 3 [(0, .ref h0), (1, .int 0)] := hl
  refine lv_iload_n hx hb dX11_image_0 rfl (lv_at hl 1 rfl) ?_
  refine lv_iconst (v := 0) hx hb dX11_image_1 (by decide) ?_
  refine lv_iconst (v := 2) hx hb dX11_image_2 (by decide) ?_
  refine kI (wc := []) (wr := [(h0, .inr (11, fs)), (al, .inl (gI g, 24, .inl f_al)), (ba, .inl (gI g, 72, .inl f_ba)), (ib, .inl (gZ g, 3, .inl f_ib))]) (rS (As := [.int 0, .int 0, .int 2]) (rest := []) hcx (c_X11_isIn_c0 H.size) (gdS q34_17 q34_18 q1_5 q34_19) dvX11_isIn.2 ⟨Nat.le_of_ble_eq_true rfl, Nat.le_of_ble_eq_true rfl⟩ (hP.sub [] rfl) (hD.sub [] (by decide) rfl) rfl hl.1 rfl (Nat.le_of_ble_eq_true rfl) dX11_image_3 ⟨Nat.le_of_ble_eq_true rfl, Nat.le_of_ble_eq_true rfl⟩) hP hD hS hA [] [0, 1, 2, 3] rfl rfl (by decide) (by decide) (fun r W' H locs hw hP hD hS => ?_)
  obtain ⟨rfl, rfl⟩ := hw
  have hP : va_P g.1 vwCl [(h0, .inr (11, fs)), (al, .inl (gI g, 24, .inl f_al)), (ba, .inl (gI g, 72, .inl f_ba)), (ib, .inl (gZ g, 3, .inl f_ib))] H := hP
  have hD : va_D A [(h0, .inr (11, fs)), (al, .inl (gI g, 24, .inl f_al)), (ba, .inl (gI g, 72, .inl f_ba)), (ib, .inl (gZ g, 3, .inl f_ib))] := hD
  refine lv_if_ne (tgt := 11) hx hb dX11_image_6 (by decide) (fun _ => ?_) (fun c1 => absurd c1 (by decide))
  refine lv_iconst (v := 0) hx hb dX11_image_11 (by decide) ?_
  refine lv_istore_n (lv' := [(2, .int 0), (0, .ref h0), (1, .int 0)]) hx hb dX11_image_12 rfl hl (by decide) rfl (fun ls hl => ?_)
  have loop3 : ∀ (n k : Nat), k + n = 24 → ∀ (H : Heap) (locs : List Loc) (ls : Array Slot) (f2 : Nat → Int32), va_P g.1 vwCl [(h0, .inr (11, fs)), (al, .inl (gI g, 24, .inl f_al)), (ba, .inl (gI g, 72, .inl f2)), (ib, .inl (gZ g, 3, .inl f_ib))] H → va_D A [(h0, .inr (11, fs)), (al, .inl (gI g, 24, .inl f_al)), (ba, .inl (gI g, 72, .inl f2)), (ib, .inl (gZ g, 3, .inl f_ib))] → va_S A s.heap H locs → lv_has ls 3 [(2, .int (nI k)), (0, .ref h0), (1, .int 0)] → W p l e (rmD 3 0 0) s m ([Value.ref h0, Value.int 0] : List Value).toArray below meth c H locs 0 0 (MQ below (QI g A (fun r W' => 0 = r ∧ W' = [])) ([Value.ref h0, Value.int 0] : List Value).toArray s 0 0 A) (F0 m 13 ls []) := by
    intro n
    induction n with
    | zero =>
      intro k hk H locs ls f2 hP hD hS hl
      obtain rfl : k = 24 := by omega
      refine lv_iload_n hx hb dX11_image_13 rfl (lv_at hl 0 rfl) ?_
      refine lv_bipush (v := 24) hx hb dX11_image_14 (by decide) ?_
      refine lv_icmp_ge (tgt := 42) hx hb dX11_image_16 (by decide) (fun _ => ?_) (fun c4 => absurd (by decide) c4)
      refine lv_aload_n hx hb dX11_image_42 rfl (lv_at hl 1 rfl) ?_
      refine va_get (D := g.1) (ci := 11) (v := Value.ref ib) (C := RX11) (T := TX11) (N := 69) hx hb hts inlX11 hown hK hP 0 rfl rfl 68 (by decide) (hts _ q14_10) (fun _ h9 => h9) h_fs_isBoxed dX11_image_43 ?_
      refine lv_iload_n hx hb dX11_image_46 rfl (lv_at hl 2 rfl) ?_
      refine lv_iconst (v := 1) hx hb dX11_image_47 (by decide) ?_
      refine za_st hx hb hK hP hD hS 3 3 rfl rfl (0) rfl (by decide) (by decide) rfl dX11_image_48 (fun f5 H locs ef5 hP hD hS => ?_)
      have hP : va_P g.1 vwCl [(h0, .inr (11, fs)), (al, .inl (gI g, 24, .inl f_al)), (ba, .inl (gI g, 72, .inl f2)), (ib, .inl (gZ g, 3, .inl f5))] H := hP
      have hD : va_D A [(h0, .inr (11, fs)), (al, .inl (gI g, 24, .inl f_al)), (ba, .inl (gI g, 72, .inl f2)), (ib, .inl (gZ g, 3, .inl f5))] := hD
      refine lv_aload_n hx hb dX11_image_49 rfl (lv_at hl 1 rfl) ?_
      refine va_get (D := g.1) (ci := 11) (v := Value.ref al) (C := RX11) (T := TX11) (N := 69) hx hb hts inlX11 hown hK hP 0 rfl rfl 46 (by decide) (hts _ q13_17) (fun _ h9 => h9) h_fs_all dX11_image_50 ?_
      refine lv_bipush (v := 22) hx hb dX11_image_53 (by decide) ?_
      refine ia_ld hx hb hK hP 1 1 rfl rfl (22) rfl (by decide) (by decide) dX11_image_55 ?_
      refine lv_tope (y := 0) h_f_al_22 ?_
      have hP9 : va_P g.1 vwCl [] H := hP.sub [] rfl
      have hD9 : va_D A [] := hD.sub [] (by decide) rfl
      exact xi hx hb hr hlocks rfl hP9 hD9 hS ⟨rfl, rfl⟩ (Nat.le_of_ble_eq_true rfl) (Nat.le_of_ble_eq_true rfl) dX11_image_56
    | succ n ih =>
      intro k hk H locs ls f2 hP hD hS hl
      have hkN : k < 24 := by omega
      refine lv_iload_n hx hb dX11_image_13 rfl (lv_at hl 0 rfl) ?_
      refine lv_bipush (v := 24) hx hb dX11_image_14 (by decide) ?_
      refine lv_icmp_ge (tgt := 42) hx hb dX11_image_16 (by decide) (fun c6 => absurd c6 (nI_ge (b := 24) hkN (by decide))) (fun _ => ?_)
      refine lv_aload_n hx hb dX11_image_19 rfl (lv_at hl 1 rfl) ?_
      refine va_get (D := g.1) (ci := 11) (v := Value.ref ba) (C := RX11) (T := TX11) (N := 69) hx hb hts inlX11 hown hK hP 0 rfl rfl 67 (by decide) (hts _ q14_9) (fun _ h9 => h9) h_fs_boxAll dX11_image_20 ?_
      refine lv_bipush (v := 24) hx hb dX11_image_23 (by decide) ?_
      refine lv_iload_n hx hb dX11_image_25 rfl (lv_at hl 2 rfl) ?_
      refine lv_imul hx hb dX11_image_26 ?_
      refine lv_tope (y := 0) (by decide) ?_
      refine lv_iload_n hx hb dX11_image_27 rfl (lv_at hl 0 rfl) ?_
      refine lv_iadd hx hb dX11_image_28 ?_
      refine lv_tope (y := (nI (0 + k))) (nI_add (0) (k)) ?_
      refine lv_aload_n hx hb dX11_image_29 rfl (lv_at hl 1 rfl) ?_
      refine va_get (D := g.1) (ci := 11) (v := Value.ref al) (C := RX11) (T := TX11) (N := 69) hx hb hts inlX11 hown hK hP 0 rfl rfl 46 (by decide) (hts _ q13_17) (fun _ h9 => h9) h_fs_all dX11_image_30 ?_
      refine lv_iload_n hx hb dX11_image_33 rfl (lv_at hl 0 rfl) ?_
      refine ia_ld hx hb hK hP 1 1 rfl rfl (k) rfl (by omega) (by decide) dX11_image_34 ?_
      refine lv_topi (fun x7 ex7 => ?_)
      refine ia_st hx hb hK hP hD hS 2 1 rfl rfl (0 + k) rfl (by omega) (by decide) dX11_image_35 (fun f8 H locs ef8 hP hD hS => ?_)
      have hP : va_P g.1 vwCl [(h0, .inr (11, fs)), (al, .inl (gI g, 24, .inl f_al)), (ba, .inl (gI g, 72, .inl f8)), (ib, .inl (gZ g, 3, .inl f_ib))] H := hP
      have hD : va_D A [(h0, .inr (11, fs)), (al, .inl (gI g, 24, .inl f_al)), (ba, .inl (gI g, 72, .inl f8)), (ib, .inl (gZ g, 3, .inl f_ib))] := hD
      refine lv_iinc (v := (nI (k + 1))) (lv' := [(2, .int (nI (k + 1))), (0, .ref h0), (1, .int 0)]) hx hb dX11_image_36 hl (k := 0) rfl (nI_1 _) (by decide) rfl (fun ls hl => ?_)
      refine lv_goto (tgt := 13) hx hb dX11_image_39 (by decide) ?_
      exact ih (k + 1) (by omega) H locs ls _ hP hD hS (lv_sub hl [0, 1, 2] rfl)
  exact loop3 24 0 rfl H locs ls _ hP hD hS hl

set_option maxHeartbeats 4000000 in
set_option maxRecDepth 100000 in
theorem c_X11_back_0 {l : Launch} {g : Gx} {h0 ib : Nat} {fs : List Value} {f_ib : Nat → Int32} (hl_fs : fs.length = 69) (h_fs_isBoxed : fs[68]? = some (Value.ref ib)) (h_f_ib_0 : f_ib 0 = 0) : MI l g yX11_back cX11_back 3 (some .int) 3 0 0 [.ref h0, .int 0] [(h0, .inr (11, fs)), (ib, .inl (gZ g, 3, .inl f_ib))] (fun r W' => (-1) = r ∧ W' = []) := by
  refine MIof (by decide) (Nat.le_of_ble_eq_true rfl) ?_
  intro p e s m below meth c A ls H locs hcx hA hP hD hS hl
  obtain ⟨hx, hb, hml, hr, hlocks, hown, hts, hE, hnm⟩ := id hcx
  have hown : s.vm.findClass RX11 = some m.cls := hown
  have hK := hE.1
  have hl : lv_has ls 3 [(0, .ref h0), (1, .int 0)] := hl
  refine lv_iload_n hx hb dX11_back_0 rfl (lv_at hl 1 rfl) ?_
  refine lv_iconst (v := 0) hx hb dX11_back_1 (by decide) ?_
  refine lv_iconst (v := 2) hx hb dX11_back_2 (by decide) ?_
  refine kI (wc := []) (wr := [(h0, .inr (11, fs)), (ib, .inl (gZ g, 3, .inl f_ib))]) (rS (As := [.int 0, .int 0, .int 2]) (rest := []) hcx (c_X11_isIn_c0 H.size) (gdS q34_17 q34_18 q1_5 q34_19) dvX11_isIn.2 ⟨Nat.le_of_ble_eq_true rfl, Nat.le_of_ble_eq_true rfl⟩ (hP.sub [] rfl) (hD.sub [] (by decide) rfl) rfl hl.1 rfl (Nat.le_of_ble_eq_true rfl) dX11_back_3 ⟨Nat.le_of_ble_eq_true rfl, Nat.le_of_ble_eq_true rfl⟩) hP hD hS hA [] [0, 1] rfl rfl (by decide) (by decide) (fun r W' H locs hw hP hD hS => ?_)
  obtain ⟨rfl, rfl⟩ := hw
  have hP : va_P g.1 vwCl [(h0, .inr (11, fs)), (ib, .inl (gZ g, 3, .inl f_ib))] H := hP
  have hD : va_D A [(h0, .inr (11, fs)), (ib, .inl (gZ g, 3, .inl f_ib))] := hD
  refine lv_if_eq (tgt := 18) hx hb dX11_back_6 (by decide) (fun c1 => absurd c1 (by decide)) (fun _ => ?_)
  refine lv_aload_n hx hb dX11_back_9 rfl (lv_at hl 0 rfl) ?_
  refine va_get (D := g.1) (ci := 11) (v := Value.ref ib) (C := RX11) (T := TX11) (N := 69) hx hb hts inlX11 hown hK hP 0 rfl rfl 68 (by decide) (hts _ q14_10) (fun _ h9 => h9) h_fs_isBoxed dX11_back_10 ?_
  refine lv_iload_n hx hb dX11_back_13 rfl (lv_at hl 1 rfl) ?_
  refine za_ld hx hb hK hP 1 3 rfl rfl (0) rfl (by decide) (by decide) dX11_back_14 ?_
  refine lv_tope (y := 0) h_f_ib_0 ?_
  refine lv_if_ne (tgt := 20) hx hb dX11_back_15 (by decide) (fun c2 => absurd (by decide) c2) (fun _ => ?_)
  refine lv_iconst (v := (-1)) hx hb dX11_back_18 (by decide) ?_
  have hP9 : va_P g.1 vwCl [] H := hP.sub [] rfl
  have hD9 : va_D A [] := hD.sub [] (by decide) rfl
  exact xi hx hb hr hlocks rfl hP9 hD9 hS ⟨rfl, rfl⟩ (Nat.le_of_ble_eq_true rfl) (Nat.le_of_ble_eq_true rfl) dX11_back_19

set_option maxHeartbeats 4000000 in
set_option maxRecDepth 100000 in
theorem c_X11_image_1 {l : Launch} {g : Gx} {h0 al ba ib : Nat} {fs : List Value} {f_al : Nat → Int32} {f_ba : Nat → Int32} {f_ib : Nat → Int32} (hl_fs : fs.length = 69) (h_fs_all : fs[46]? = some (Value.ref al)) (h_fs_boxAll : fs[67]? = some (Value.ref ba)) (h_fs_isBoxed : fs[68]? = some (Value.ref ib)) (h_f_al_22 : f_al 22 = 0) : MI l g yX11_image cX11_image 3 (some .int) 3 0 0 [.ref h0, .int 1] [(h0, .inr (11, fs)), (al, .inl (gI g, 24, .inl f_al)), (ba, .inl (gI g, 72, .inl f_ba)), (ib, .inl (gZ g, 3, .inl f_ib))] (fun r W' => 0 = r ∧ W' = []) := by
  refine MIof (by decide) (Nat.le_of_ble_eq_true rfl) ?_
  intro p e s m below meth c A ls H locs hcx hA hP hD hS hl
  obtain ⟨hx, hb, hml, hr, hlocks, hown, hts, hE, hnm⟩ := id hcx
  have hown : s.vm.findClass RX11 = some m.cls := hown
  have hK := hE.1
  have hl : lv_has ls 3 [(0, .ref h0), (1, .int 1)] := hl
  refine lv_iload_n hx hb dX11_image_0 rfl (lv_at hl 1 rfl) ?_
  refine lv_iconst (v := 0) hx hb dX11_image_1 (by decide) ?_
  refine lv_iconst (v := 2) hx hb dX11_image_2 (by decide) ?_
  refine kI (wc := []) (wr := [(h0, .inr (11, fs)), (al, .inl (gI g, 24, .inl f_al)), (ba, .inl (gI g, 72, .inl f_ba)), (ib, .inl (gZ g, 3, .inl f_ib))]) (rS (As := [.int 1, .int 0, .int 2]) (rest := []) hcx (c_X11_isIn_c1 H.size) (gdS q34_17 q34_18 q1_5 q34_19) dvX11_isIn.2 ⟨Nat.le_of_ble_eq_true rfl, Nat.le_of_ble_eq_true rfl⟩ (hP.sub [] rfl) (hD.sub [] (by decide) rfl) rfl hl.1 rfl (Nat.le_of_ble_eq_true rfl) dX11_image_3 ⟨Nat.le_of_ble_eq_true rfl, Nat.le_of_ble_eq_true rfl⟩) hP hD hS hA [] [0, 1, 2, 3] rfl rfl (by decide) (by decide) (fun r W' H locs hw hP hD hS => ?_)
  obtain ⟨rfl, rfl⟩ := hw
  have hP : va_P g.1 vwCl [(h0, .inr (11, fs)), (al, .inl (gI g, 24, .inl f_al)), (ba, .inl (gI g, 72, .inl f_ba)), (ib, .inl (gZ g, 3, .inl f_ib))] H := hP
  have hD : va_D A [(h0, .inr (11, fs)), (al, .inl (gI g, 24, .inl f_al)), (ba, .inl (gI g, 72, .inl f_ba)), (ib, .inl (gZ g, 3, .inl f_ib))] := hD
  refine lv_if_ne (tgt := 11) hx hb dX11_image_6 (by decide) (fun _ => ?_) (fun c1 => absurd c1 (by decide))
  refine lv_iconst (v := 0) hx hb dX11_image_11 (by decide) ?_
  refine lv_istore_n (lv' := [(2, .int 0), (0, .ref h0), (1, .int 1)]) hx hb dX11_image_12 rfl hl (by decide) rfl (fun ls hl => ?_)
  have loop3 : ∀ (n k : Nat), k + n = 24 → ∀ (H : Heap) (locs : List Loc) (ls : Array Slot) (f2 : Nat → Int32), va_P g.1 vwCl [(h0, .inr (11, fs)), (al, .inl (gI g, 24, .inl f_al)), (ba, .inl (gI g, 72, .inl f2)), (ib, .inl (gZ g, 3, .inl f_ib))] H → va_D A [(h0, .inr (11, fs)), (al, .inl (gI g, 24, .inl f_al)), (ba, .inl (gI g, 72, .inl f2)), (ib, .inl (gZ g, 3, .inl f_ib))] → va_S A s.heap H locs → lv_has ls 3 [(2, .int (nI k)), (0, .ref h0), (1, .int 1)] → W p l e (rmD 3 0 0) s m ([Value.ref h0, Value.int 1] : List Value).toArray below meth c H locs 0 0 (MQ below (QI g A (fun r W' => 0 = r ∧ W' = [])) ([Value.ref h0, Value.int 1] : List Value).toArray s 0 0 A) (F0 m 13 ls []) := by
    intro n
    induction n with
    | zero =>
      intro k hk H locs ls f2 hP hD hS hl
      obtain rfl : k = 24 := by omega
      refine lv_iload_n hx hb dX11_image_13 rfl (lv_at hl 0 rfl) ?_
      refine lv_bipush (v := 24) hx hb dX11_image_14 (by decide) ?_
      refine lv_icmp_ge (tgt := 42) hx hb dX11_image_16 (by decide) (fun _ => ?_) (fun c4 => absurd (by decide) c4)
      refine lv_aload_n hx hb dX11_image_42 rfl (lv_at hl 1 rfl) ?_
      refine va_get (D := g.1) (ci := 11) (v := Value.ref ib) (C := RX11) (T := TX11) (N := 69) hx hb hts inlX11 hown hK hP 0 rfl rfl 68 (by decide) (hts _ q14_10) (fun _ h9 => h9) h_fs_isBoxed dX11_image_43 ?_
      refine lv_iload_n hx hb dX11_image_46 rfl (lv_at hl 2 rfl) ?_
      refine lv_iconst (v := 1) hx hb dX11_image_47 (by decide) ?_
      refine za_st hx hb hK hP hD hS 3 3 rfl rfl (1) rfl (by decide) (by decide) rfl dX11_image_48 (fun f5 H locs ef5 hP hD hS => ?_)
      have hP : va_P g.1 vwCl [(h0, .inr (11, fs)), (al, .inl (gI g, 24, .inl f_al)), (ba, .inl (gI g, 72, .inl f2)), (ib, .inl (gZ g, 3, .inl f5))] H := hP
      have hD : va_D A [(h0, .inr (11, fs)), (al, .inl (gI g, 24, .inl f_al)), (ba, .inl (gI g, 72, .inl f2)), (ib, .inl (gZ g, 3, .inl f5))] := hD
      refine lv_aload_n hx hb dX11_image_49 rfl (lv_at hl 1 rfl) ?_
      refine va_get (D := g.1) (ci := 11) (v := Value.ref al) (C := RX11) (T := TX11) (N := 69) hx hb hts inlX11 hown hK hP 0 rfl rfl 46 (by decide) (hts _ q13_17) (fun _ h9 => h9) h_fs_all dX11_image_50 ?_
      refine lv_bipush (v := 22) hx hb dX11_image_53 (by decide) ?_
      refine ia_ld hx hb hK hP 1 1 rfl rfl (22) rfl (by decide) (by decide) dX11_image_55 ?_
      refine lv_tope (y := 0) h_f_al_22 ?_
      have hP9 : va_P g.1 vwCl [] H := hP.sub [] rfl
      have hD9 : va_D A [] := hD.sub [] (by decide) rfl
      exact xi hx hb hr hlocks rfl hP9 hD9 hS ⟨rfl, rfl⟩ (Nat.le_of_ble_eq_true rfl) (Nat.le_of_ble_eq_true rfl) dX11_image_56
    | succ n ih =>
      intro k hk H locs ls f2 hP hD hS hl
      have hkN : k < 24 := by omega
      refine lv_iload_n hx hb dX11_image_13 rfl (lv_at hl 0 rfl) ?_
      refine lv_bipush (v := 24) hx hb dX11_image_14 (by decide) ?_
      refine lv_icmp_ge (tgt := 42) hx hb dX11_image_16 (by decide) (fun c6 => absurd c6 (nI_ge (b := 24) hkN (by decide))) (fun _ => ?_)
      refine lv_aload_n hx hb dX11_image_19 rfl (lv_at hl 1 rfl) ?_
      refine va_get (D := g.1) (ci := 11) (v := Value.ref ba) (C := RX11) (T := TX11) (N := 69) hx hb hts inlX11 hown hK hP 0 rfl rfl 67 (by decide) (hts _ q14_9) (fun _ h9 => h9) h_fs_boxAll dX11_image_20 ?_
      refine lv_bipush (v := 24) hx hb dX11_image_23 (by decide) ?_
      refine lv_iload_n hx hb dX11_image_25 rfl (lv_at hl 2 rfl) ?_
      refine lv_imul hx hb dX11_image_26 ?_
      refine lv_tope (y := 24) (by decide) ?_
      refine lv_iload_n hx hb dX11_image_27 rfl (lv_at hl 0 rfl) ?_
      refine lv_iadd hx hb dX11_image_28 ?_
      refine lv_tope (y := (nI (24 + k))) (nI_add (24) (k)) ?_
      refine lv_aload_n hx hb dX11_image_29 rfl (lv_at hl 1 rfl) ?_
      refine va_get (D := g.1) (ci := 11) (v := Value.ref al) (C := RX11) (T := TX11) (N := 69) hx hb hts inlX11 hown hK hP 0 rfl rfl 46 (by decide) (hts _ q13_17) (fun _ h9 => h9) h_fs_all dX11_image_30 ?_
      refine lv_iload_n hx hb dX11_image_33 rfl (lv_at hl 0 rfl) ?_
      refine ia_ld hx hb hK hP 1 1 rfl rfl (k) rfl (by omega) (by decide) dX11_image_34 ?_
      refine lv_topi (fun x7 ex7 => ?_)
      refine ia_st hx hb hK hP hD hS 2 1 rfl rfl (24 + k) rfl (by omega) (by decide) dX11_image_35 (fun f8 H locs ef8 hP hD hS => ?_)
      have hP : va_P g.1 vwCl [(h0, .inr (11, fs)), (al, .inl (gI g, 24, .inl f_al)), (ba, .inl (gI g, 72, .inl f8)), (ib, .inl (gZ g, 3, .inl f_ib))] H := hP
      have hD : va_D A [(h0, .inr (11, fs)), (al, .inl (gI g, 24, .inl f_al)), (ba, .inl (gI g, 72, .inl f8)), (ib, .inl (gZ g, 3, .inl f_ib))] := hD
      refine lv_iinc (v := (nI (k + 1))) (lv' := [(2, .int (nI (k + 1))), (0, .ref h0), (1, .int 1)]) hx hb dX11_image_36 hl (k := 0) rfl (nI_1 _) (by decide) rfl (fun ls hl => ?_)
      refine lv_goto (tgt := 13) hx hb dX11_image_39 (by decide) ?_
      exact ih (k + 1) (by omega) H locs ls _ hP hD hS (lv_sub hl [0, 1, 2] rfl)
  exact loop3 24 0 rfl H locs ls _ hP hD hS hl

set_option maxHeartbeats 4000000 in
set_option maxRecDepth 100000 in
theorem c_X11_back_1 {l : Launch} {g : Gx} {h0 ib : Nat} {fs : List Value} {f_ib : Nat → Int32} (hl_fs : fs.length = 69) (h_fs_isBoxed : fs[68]? = some (Value.ref ib)) (h_f_ib_1 : f_ib 1 = 0) : MI l g yX11_back cX11_back 3 (some .int) 3 0 0 [.ref h0, .int 1] [(h0, .inr (11, fs)), (ib, .inl (gZ g, 3, .inl f_ib))] (fun r W' => (-1) = r ∧ W' = []) := by
  refine MIof (by decide) (Nat.le_of_ble_eq_true rfl) ?_
  intro p e s m below meth c A ls H locs hcx hA hP hD hS hl
  obtain ⟨hx, hb, hml, hr, hlocks, hown, hts, hE, hnm⟩ := id hcx
  have hown : s.vm.findClass RX11 = some m.cls := hown
  have hK := hE.1
  have hl : lv_has ls 3 [(0, .ref h0), (1, .int 1)] := hl
  refine lv_iload_n hx hb dX11_back_0 rfl (lv_at hl 1 rfl) ?_
  refine lv_iconst (v := 0) hx hb dX11_back_1 (by decide) ?_
  refine lv_iconst (v := 2) hx hb dX11_back_2 (by decide) ?_
  refine kI (wc := []) (wr := [(h0, .inr (11, fs)), (ib, .inl (gZ g, 3, .inl f_ib))]) (rS (As := [.int 1, .int 0, .int 2]) (rest := []) hcx (c_X11_isIn_c1 H.size) (gdS q34_17 q34_18 q1_5 q34_19) dvX11_isIn.2 ⟨Nat.le_of_ble_eq_true rfl, Nat.le_of_ble_eq_true rfl⟩ (hP.sub [] rfl) (hD.sub [] (by decide) rfl) rfl hl.1 rfl (Nat.le_of_ble_eq_true rfl) dX11_back_3 ⟨Nat.le_of_ble_eq_true rfl, Nat.le_of_ble_eq_true rfl⟩) hP hD hS hA [] [0, 1] rfl rfl (by decide) (by decide) (fun r W' H locs hw hP hD hS => ?_)
  obtain ⟨rfl, rfl⟩ := hw
  have hP : va_P g.1 vwCl [(h0, .inr (11, fs)), (ib, .inl (gZ g, 3, .inl f_ib))] H := hP
  have hD : va_D A [(h0, .inr (11, fs)), (ib, .inl (gZ g, 3, .inl f_ib))] := hD
  refine lv_if_eq (tgt := 18) hx hb dX11_back_6 (by decide) (fun c1 => absurd c1 (by decide)) (fun _ => ?_)
  refine lv_aload_n hx hb dX11_back_9 rfl (lv_at hl 0 rfl) ?_
  refine va_get (D := g.1) (ci := 11) (v := Value.ref ib) (C := RX11) (T := TX11) (N := 69) hx hb hts inlX11 hown hK hP 0 rfl rfl 68 (by decide) (hts _ q14_10) (fun _ h9 => h9) h_fs_isBoxed dX11_back_10 ?_
  refine lv_iload_n hx hb dX11_back_13 rfl (lv_at hl 1 rfl) ?_
  refine za_ld hx hb hK hP 1 3 rfl rfl (1) rfl (by decide) (by decide) dX11_back_14 ?_
  refine lv_tope (y := 0) h_f_ib_1 ?_
  refine lv_if_ne (tgt := 20) hx hb dX11_back_15 (by decide) (fun c2 => absurd (by decide) c2) (fun _ => ?_)
  refine lv_iconst (v := (-1)) hx hb dX11_back_18 (by decide) ?_
  have hP9 : va_P g.1 vwCl [] H := hP.sub [] rfl
  have hD9 : va_D A [] := hD.sub [] (by decide) rfl
  exact xi hx hb hr hlocks rfl hP9 hD9 hS ⟨rfl, rfl⟩ (Nat.le_of_ble_eq_true rfl) (Nat.le_of_ble_eq_true rfl) dX11_back_19

set_option maxHeartbeats 4000000 in
set_option maxRecDepth 100000 in
theorem c_X11_image_2 {l : Launch} {g : Gx} {h0 al ba ib : Nat} {fs : List Value} {f_al : Nat → Int32} {f_ba : Nat → Int32} {f_ib : Nat → Int32} (hl_fs : fs.length = 69) (h_fs_all : fs[46]? = some (Value.ref al)) (h_fs_boxAll : fs[67]? = some (Value.ref ba)) (h_fs_isBoxed : fs[68]? = some (Value.ref ib)) (h_f_al_22 : f_al 22 = 0) : MI l g yX11_image cX11_image 3 (some .int) 3 0 0 [.ref h0, .int 2] [(h0, .inr (11, fs)), (al, .inl (gI g, 24, .inl f_al)), (ba, .inl (gI g, 72, .inl f_ba)), (ib, .inl (gZ g, 3, .inl f_ib))] (fun r W' => 0 = r ∧ W' = []) := by
  refine MIof (by decide) (Nat.le_of_ble_eq_true rfl) ?_
  intro p e s m below meth c A ls H locs hcx hA hP hD hS hl
  obtain ⟨hx, hb, hml, hr, hlocks, hown, hts, hE, hnm⟩ := id hcx
  have hown : s.vm.findClass RX11 = some m.cls := hown
  have hK := hE.1
  have hl : lv_has ls 3 [(0, .ref h0), (1, .int 2)] := hl
  refine lv_iload_n hx hb dX11_image_0 rfl (lv_at hl 1 rfl) ?_
  refine lv_iconst (v := 0) hx hb dX11_image_1 (by decide) ?_
  refine lv_iconst (v := 2) hx hb dX11_image_2 (by decide) ?_
  refine kI (wc := []) (wr := [(h0, .inr (11, fs)), (al, .inl (gI g, 24, .inl f_al)), (ba, .inl (gI g, 72, .inl f_ba)), (ib, .inl (gZ g, 3, .inl f_ib))]) (rS (As := [.int 2, .int 0, .int 2]) (rest := []) hcx (c_X11_isIn_c2 H.size) (gdS q34_17 q34_18 q1_5 q34_19) dvX11_isIn.2 ⟨Nat.le_of_ble_eq_true rfl, Nat.le_of_ble_eq_true rfl⟩ (hP.sub [] rfl) (hD.sub [] (by decide) rfl) rfl hl.1 rfl (Nat.le_of_ble_eq_true rfl) dX11_image_3 ⟨Nat.le_of_ble_eq_true rfl, Nat.le_of_ble_eq_true rfl⟩) hP hD hS hA [] [0, 1, 2, 3] rfl rfl (by decide) (by decide) (fun r W' H locs hw hP hD hS => ?_)
  obtain ⟨rfl, rfl⟩ := hw
  have hP : va_P g.1 vwCl [(h0, .inr (11, fs)), (al, .inl (gI g, 24, .inl f_al)), (ba, .inl (gI g, 72, .inl f_ba)), (ib, .inl (gZ g, 3, .inl f_ib))] H := hP
  have hD : va_D A [(h0, .inr (11, fs)), (al, .inl (gI g, 24, .inl f_al)), (ba, .inl (gI g, 72, .inl f_ba)), (ib, .inl (gZ g, 3, .inl f_ib))] := hD
  refine lv_if_ne (tgt := 11) hx hb dX11_image_6 (by decide) (fun _ => ?_) (fun c1 => absurd c1 (by decide))
  refine lv_iconst (v := 0) hx hb dX11_image_11 (by decide) ?_
  refine lv_istore_n (lv' := [(2, .int 0), (0, .ref h0), (1, .int 2)]) hx hb dX11_image_12 rfl hl (by decide) rfl (fun ls hl => ?_)
  have loop3 : ∀ (n k : Nat), k + n = 24 → ∀ (H : Heap) (locs : List Loc) (ls : Array Slot) (f2 : Nat → Int32), va_P g.1 vwCl [(h0, .inr (11, fs)), (al, .inl (gI g, 24, .inl f_al)), (ba, .inl (gI g, 72, .inl f2)), (ib, .inl (gZ g, 3, .inl f_ib))] H → va_D A [(h0, .inr (11, fs)), (al, .inl (gI g, 24, .inl f_al)), (ba, .inl (gI g, 72, .inl f2)), (ib, .inl (gZ g, 3, .inl f_ib))] → va_S A s.heap H locs → lv_has ls 3 [(2, .int (nI k)), (0, .ref h0), (1, .int 2)] → W p l e (rmD 3 0 0) s m ([Value.ref h0, Value.int 2] : List Value).toArray below meth c H locs 0 0 (MQ below (QI g A (fun r W' => 0 = r ∧ W' = [])) ([Value.ref h0, Value.int 2] : List Value).toArray s 0 0 A) (F0 m 13 ls []) := by
    intro n
    induction n with
    | zero =>
      intro k hk H locs ls f2 hP hD hS hl
      obtain rfl : k = 24 := by omega
      refine lv_iload_n hx hb dX11_image_13 rfl (lv_at hl 0 rfl) ?_
      refine lv_bipush (v := 24) hx hb dX11_image_14 (by decide) ?_
      refine lv_icmp_ge (tgt := 42) hx hb dX11_image_16 (by decide) (fun _ => ?_) (fun c4 => absurd (by decide) c4)
      refine lv_aload_n hx hb dX11_image_42 rfl (lv_at hl 1 rfl) ?_
      refine va_get (D := g.1) (ci := 11) (v := Value.ref ib) (C := RX11) (T := TX11) (N := 69) hx hb hts inlX11 hown hK hP 0 rfl rfl 68 (by decide) (hts _ q14_10) (fun _ h9 => h9) h_fs_isBoxed dX11_image_43 ?_
      refine lv_iload_n hx hb dX11_image_46 rfl (lv_at hl 2 rfl) ?_
      refine lv_iconst (v := 1) hx hb dX11_image_47 (by decide) ?_
      refine za_st hx hb hK hP hD hS 3 3 rfl rfl (2) rfl (by decide) (by decide) rfl dX11_image_48 (fun f5 H locs ef5 hP hD hS => ?_)
      have hP : va_P g.1 vwCl [(h0, .inr (11, fs)), (al, .inl (gI g, 24, .inl f_al)), (ba, .inl (gI g, 72, .inl f2)), (ib, .inl (gZ g, 3, .inl f5))] H := hP
      have hD : va_D A [(h0, .inr (11, fs)), (al, .inl (gI g, 24, .inl f_al)), (ba, .inl (gI g, 72, .inl f2)), (ib, .inl (gZ g, 3, .inl f5))] := hD
      refine lv_aload_n hx hb dX11_image_49 rfl (lv_at hl 1 rfl) ?_
      refine va_get (D := g.1) (ci := 11) (v := Value.ref al) (C := RX11) (T := TX11) (N := 69) hx hb hts inlX11 hown hK hP 0 rfl rfl 46 (by decide) (hts _ q13_17) (fun _ h9 => h9) h_fs_all dX11_image_50 ?_
      refine lv_bipush (v := 22) hx hb dX11_image_53 (by decide) ?_
      refine ia_ld hx hb hK hP 1 1 rfl rfl (22) rfl (by decide) (by decide) dX11_image_55 ?_
      refine lv_tope (y := 0) h_f_al_22 ?_
      have hP9 : va_P g.1 vwCl [] H := hP.sub [] rfl
      have hD9 : va_D A [] := hD.sub [] (by decide) rfl
      exact xi hx hb hr hlocks rfl hP9 hD9 hS ⟨rfl, rfl⟩ (Nat.le_of_ble_eq_true rfl) (Nat.le_of_ble_eq_true rfl) dX11_image_56
    | succ n ih =>
      intro k hk H locs ls f2 hP hD hS hl
      have hkN : k < 24 := by omega
      refine lv_iload_n hx hb dX11_image_13 rfl (lv_at hl 0 rfl) ?_
      refine lv_bipush (v := 24) hx hb dX11_image_14 (by decide) ?_
      refine lv_icmp_ge (tgt := 42) hx hb dX11_image_16 (by decide) (fun c6 => absurd c6 (nI_ge (b := 24) hkN (by decide))) (fun _ => ?_)
      refine lv_aload_n hx hb dX11_image_19 rfl (lv_at hl 1 rfl) ?_
      refine va_get (D := g.1) (ci := 11) (v := Value.ref ba) (C := RX11) (T := TX11) (N := 69) hx hb hts inlX11 hown hK hP 0 rfl rfl 67 (by decide) (hts _ q14_9) (fun _ h9 => h9) h_fs_boxAll dX11_image_20 ?_
      refine lv_bipush (v := 24) hx hb dX11_image_23 (by decide) ?_
      refine lv_iload_n hx hb dX11_image_25 rfl (lv_at hl 2 rfl) ?_
      refine lv_imul hx hb dX11_image_26 ?_
      refine lv_tope (y := 48) (by decide) ?_
      refine lv_iload_n hx hb dX11_image_27 rfl (lv_at hl 0 rfl) ?_
      refine lv_iadd hx hb dX11_image_28 ?_
      refine lv_tope (y := (nI (48 + k))) (nI_add (48) (k)) ?_
      refine lv_aload_n hx hb dX11_image_29 rfl (lv_at hl 1 rfl) ?_
      refine va_get (D := g.1) (ci := 11) (v := Value.ref al) (C := RX11) (T := TX11) (N := 69) hx hb hts inlX11 hown hK hP 0 rfl rfl 46 (by decide) (hts _ q13_17) (fun _ h9 => h9) h_fs_all dX11_image_30 ?_
      refine lv_iload_n hx hb dX11_image_33 rfl (lv_at hl 0 rfl) ?_
      refine ia_ld hx hb hK hP 1 1 rfl rfl (k) rfl (by omega) (by decide) dX11_image_34 ?_
      refine lv_topi (fun x7 ex7 => ?_)
      refine ia_st hx hb hK hP hD hS 2 1 rfl rfl (48 + k) rfl (by omega) (by decide) dX11_image_35 (fun f8 H locs ef8 hP hD hS => ?_)
      have hP : va_P g.1 vwCl [(h0, .inr (11, fs)), (al, .inl (gI g, 24, .inl f_al)), (ba, .inl (gI g, 72, .inl f8)), (ib, .inl (gZ g, 3, .inl f_ib))] H := hP
      have hD : va_D A [(h0, .inr (11, fs)), (al, .inl (gI g, 24, .inl f_al)), (ba, .inl (gI g, 72, .inl f8)), (ib, .inl (gZ g, 3, .inl f_ib))] := hD
      refine lv_iinc (v := (nI (k + 1))) (lv' := [(2, .int (nI (k + 1))), (0, .ref h0), (1, .int 2)]) hx hb dX11_image_36 hl (k := 0) rfl (nI_1 _) (by decide) rfl (fun ls hl => ?_)
      refine lv_goto (tgt := 13) hx hb dX11_image_39 (by decide) ?_
      exact ih (k + 1) (by omega) H locs ls _ hP hD hS (lv_sub hl [0, 1, 2] rfl)
  exact loop3 24 0 rfl H locs ls _ hP hD hS hl

set_option maxHeartbeats 4000000 in
set_option maxRecDepth 100000 in
theorem c_X11_back_2 {l : Launch} {g : Gx} {h0 ib : Nat} {fs : List Value} {f_ib : Nat → Int32} (hl_fs : fs.length = 69) (h_fs_isBoxed : fs[68]? = some (Value.ref ib)) (h_f_ib_2 : f_ib 2 = 0) : MI l g yX11_back cX11_back 3 (some .int) 3 0 0 [.ref h0, .int 2] [(h0, .inr (11, fs)), (ib, .inl (gZ g, 3, .inl f_ib))] (fun r W' => (-1) = r ∧ W' = []) := by
  refine MIof (by decide) (Nat.le_of_ble_eq_true rfl) ?_
  intro p e s m below meth c A ls H locs hcx hA hP hD hS hl
  obtain ⟨hx, hb, hml, hr, hlocks, hown, hts, hE, hnm⟩ := id hcx
  have hown : s.vm.findClass RX11 = some m.cls := hown
  have hK := hE.1
  have hl : lv_has ls 3 [(0, .ref h0), (1, .int 2)] := hl
  refine lv_iload_n hx hb dX11_back_0 rfl (lv_at hl 1 rfl) ?_
  refine lv_iconst (v := 0) hx hb dX11_back_1 (by decide) ?_
  refine lv_iconst (v := 2) hx hb dX11_back_2 (by decide) ?_
  refine kI (wc := []) (wr := [(h0, .inr (11, fs)), (ib, .inl (gZ g, 3, .inl f_ib))]) (rS (As := [.int 2, .int 0, .int 2]) (rest := []) hcx (c_X11_isIn_c2 H.size) (gdS q34_17 q34_18 q1_5 q34_19) dvX11_isIn.2 ⟨Nat.le_of_ble_eq_true rfl, Nat.le_of_ble_eq_true rfl⟩ (hP.sub [] rfl) (hD.sub [] (by decide) rfl) rfl hl.1 rfl (Nat.le_of_ble_eq_true rfl) dX11_back_3 ⟨Nat.le_of_ble_eq_true rfl, Nat.le_of_ble_eq_true rfl⟩) hP hD hS hA [] [0, 1] rfl rfl (by decide) (by decide) (fun r W' H locs hw hP hD hS => ?_)
  obtain ⟨rfl, rfl⟩ := hw
  have hP : va_P g.1 vwCl [(h0, .inr (11, fs)), (ib, .inl (gZ g, 3, .inl f_ib))] H := hP
  have hD : va_D A [(h0, .inr (11, fs)), (ib, .inl (gZ g, 3, .inl f_ib))] := hD
  refine lv_if_eq (tgt := 18) hx hb dX11_back_6 (by decide) (fun c1 => absurd c1 (by decide)) (fun _ => ?_)
  refine lv_aload_n hx hb dX11_back_9 rfl (lv_at hl 0 rfl) ?_
  refine va_get (D := g.1) (ci := 11) (v := Value.ref ib) (C := RX11) (T := TX11) (N := 69) hx hb hts inlX11 hown hK hP 0 rfl rfl 68 (by decide) (hts _ q14_10) (fun _ h9 => h9) h_fs_isBoxed dX11_back_10 ?_
  refine lv_iload_n hx hb dX11_back_13 rfl (lv_at hl 1 rfl) ?_
  refine za_ld hx hb hK hP 1 3 rfl rfl (2) rfl (by decide) (by decide) dX11_back_14 ?_
  refine lv_tope (y := 0) h_f_ib_2 ?_
  refine lv_if_ne (tgt := 20) hx hb dX11_back_15 (by decide) (fun c2 => absurd (by decide) c2) (fun _ => ?_)
  refine lv_iconst (v := (-1)) hx hb dX11_back_18 (by decide) ?_
  have hP9 : va_P g.1 vwCl [] H := hP.sub [] rfl
  have hD9 : va_D A [] := hD.sub [] (by decide) rfl
  exact xi hx hb hr hlocks rfl hP9 hD9 hS ⟨rfl, rfl⟩ (Nat.le_of_ble_eq_true rfl) (Nat.le_of_ble_eq_true rfl) dX11_back_19

set_option maxHeartbeats 4000000 in
set_option maxRecDepth 100000 in
theorem c_X11_image_out {l : Launch} {g : Gx} {h0 : Nat} {p0 : Int32} {fs : List Value} (hl_fs : fs.length = 69) (ho : ¬ p0 = 0 ∧ ¬ p0 = 1 ∧ ¬ p0 = 2) : MI l g yX11_image cX11_image 3 (some .int) 3 0 0 [.ref h0, .int p0] [(h0, .inr (11, fs))] (fun r W' => (-1) = r ∧ W' = []) := by
  refine MIof (by decide) (Nat.le_of_ble_eq_true rfl) ?_
  intro p e s m below meth c A ls H locs hcx hA hP hD hS hl
  obtain ⟨hx, hb, hml, hr, hlocks, hown, hts, hE, hnm⟩ := id hcx
  have hown : s.vm.findClass RX11 = some m.cls := hown
  have hK := hE.1
  have hl : lv_has ls 3 [(0, .ref h0), (1, .int p0)] := hl
  refine lv_iload_n hx hb dX11_image_0 rfl (lv_at hl 1 rfl) ?_
  refine lv_iconst (v := 0) hx hb dX11_image_1 (by decide) ?_
  refine lv_iconst (v := 2) hx hb dX11_image_2 (by decide) ?_
  refine kI (wc := []) (wr := [(h0, .inr (11, fs))]) (rS (As := [.int p0, .int 0, .int 2]) (rest := []) hcx (c_X11_isIn H.size) (gdS q34_17 q34_18 q1_5 q34_19) dvX11_isIn.2 ⟨Nat.le_of_ble_eq_true rfl, Nat.le_of_ble_eq_true rfl⟩ (hP.sub [] rfl) (hD.sub [] (by decide) rfl) rfl hl.1 rfl (Nat.le_of_ble_eq_true rfl) dX11_image_3 ⟨Nat.le_of_ble_eq_true rfl, Nat.le_of_ble_eq_true rfl⟩) hP hD hS hA [] [0] rfl rfl (by decide) (by decide) (fun r W' H locs hw hP hD hS => ?_)
  obtain ⟨⟨c2, rfl⟩ | ⟨⟨c2a, c2b⟩, rfl⟩, rfl⟩ := hw
  · have hP : va_P g.1 vwCl [(h0, .inr (11, fs))] H := hP
    have hD : va_D A [(h0, .inr (11, fs))] := hD
    refine lv_if_ne (tgt := 11) hx hb dX11_image_6 (by decide) (fun c3 => absurd (by decide) c3) (fun _ => ?_)
    refine lv_iconst (v := (-1)) hx hb dX11_image_9 (by decide) ?_
    have hP9 : va_P g.1 vwCl [] H := hP.sub [] rfl
    have hD9 : va_D A [] := hD.sub [] (by decide) rfl
    exact xi hx hb hr hlocks rfl hP9 hD9 hS ⟨rfl, rfl⟩ (Nat.le_of_ble_eq_true rfl) (Nat.le_of_ble_eq_true rfl) dX11_image_10
  · have hP : va_P g.1 vwCl [(h0, .inr (11, fs))] H := hP
    have hD : va_D A [(h0, .inr (11, fs))] := hD
    exact (i_in3 ho c2a c2b).elim

set_option maxHeartbeats 4000000 in
set_option maxRecDepth 100000 in
theorem c_X11_back_out {l : Launch} {g : Gx} {h0 : Nat} {p0 : Int32} {fs : List Value} (hl_fs : fs.length = 69) (ho : ¬ p0 = 0 ∧ ¬ p0 = 1 ∧ ¬ p0 = 2) : MI l g yX11_back cX11_back 3 (some .int) 3 0 0 [.ref h0, .int p0] [(h0, .inr (11, fs))] (fun r W' => (-1) = r ∧ W' = []) := by
  refine MIof (by decide) (Nat.le_of_ble_eq_true rfl) ?_
  intro p e s m below meth c A ls H locs hcx hA hP hD hS hl
  obtain ⟨hx, hb, hml, hr, hlocks, hown, hts, hE, hnm⟩ := id hcx
  have hown : s.vm.findClass RX11 = some m.cls := hown
  have hK := hE.1
  have hl : lv_has ls 3 [(0, .ref h0), (1, .int p0)] := hl
  refine lv_iload_n hx hb dX11_back_0 rfl (lv_at hl 1 rfl) ?_
  refine lv_iconst (v := 0) hx hb dX11_back_1 (by decide) ?_
  refine lv_iconst (v := 2) hx hb dX11_back_2 (by decide) ?_
  refine kI (wc := []) (wr := [(h0, .inr (11, fs))]) (rS (As := [.int p0, .int 0, .int 2]) (rest := []) hcx (c_X11_isIn H.size) (gdS q34_17 q34_18 q1_5 q34_19) dvX11_isIn.2 ⟨Nat.le_of_ble_eq_true rfl, Nat.le_of_ble_eq_true rfl⟩ (hP.sub [] rfl) (hD.sub [] (by decide) rfl) rfl hl.1 rfl (Nat.le_of_ble_eq_true rfl) dX11_back_3 ⟨Nat.le_of_ble_eq_true rfl, Nat.le_of_ble_eq_true rfl⟩) hP hD hS hA [] [0] rfl rfl (by decide) (by decide) (fun r W' H locs hw hP hD hS => ?_)
  obtain ⟨⟨c2, rfl⟩ | ⟨⟨c2a, c2b⟩, rfl⟩, rfl⟩ := hw
  · have hP : va_P g.1 vwCl [(h0, .inr (11, fs))] H := hP
    have hD : va_D A [(h0, .inr (11, fs))] := hD
    refine lv_if_eq (tgt := 18) hx hb dX11_back_6 (by decide) (fun _ => ?_) (fun c3 => absurd (by decide) c3)
    refine lv_iconst (v := (-1)) hx hb dX11_back_18 (by decide) ?_
    have hP9 : va_P g.1 vwCl [] H := hP.sub [] rfl
    have hD9 : va_D A [] := hD.sub [] (by decide) rfl
    exact xi hx hb hr hlocks rfl hP9 hD9 hS ⟨rfl, rfl⟩ (Nat.le_of_ble_eq_true rfl) (Nat.le_of_ble_eq_true rfl) dX11_back_19
  · have hP : va_P g.1 vwCl [(h0, .inr (11, fs))] H := hP
    have hD : va_D A [(h0, .inr (11, fs))] := hD
    exact (i_in3 ho c2a c2b).elim

set_option maxHeartbeats 4000000 in
set_option maxRecDepth 100000 in
theorem c_X11_about {l : Launch} {g : Gx} {h0 gu co al un : Nat} {p0 : Int32} {fs : List Value} {f_gu : Nat → Int32} {f_co : Nat → Int32} {f_al : Nat → Int32} {f_un : Nat → Int32} (hl_fs : fs.length = 69) (h_fs_guilds : fs[12]? = some (Value.ref gu)) (h_fs_corners : fs[11]? = some (Value.ref co)) (h_fs_bank : fs[34]? = some (Value.int 0)) (h_fs_all : fs[46]? = some (Value.ref al)) (h_fs_acts : fs[49]? = some (Value.int 0)) (h_fs_undone : fs[50]? = some (Value.int 0)) (h_fs_seens : fs[65]? = some (Value.int 0)) (h_fs_time : fs[66]? = some (Value.int 0)) (h_fs_taped : fs[2]? = some (Value.int 0)) (h_fs_units : fs[14]? = some (Value.ref un)) (h_fs_laid : fs[54]? = some (Value.int 0)) (h_f_gu_0 : f_gu 0 = 0) (h_f_co_0 : f_co 0 = 0) (h_f_al_20 : f_al 20 = 0) (h_f_al_21 : f_al 21 = 0) (h_f_al_22 : f_al 22 = 0) (h_f_al_23 : f_al 23 = 0) (h_f_un_0 : f_un 0 = 0) : MI l g yX11_about cX11_about 2 (some .int) 3 0 0 [.ref h0, .int p0] [(h0, .inr (11, fs)), (gu, .inl (gI g, 2, .inl f_gu)), (co, .inl (gI g, 2, .inl f_co)), (al, .inl (gI g, 24, .inl f_al)), (un, .inl (gI g, 2, .inl f_un))] (fun r W' => r = sp_about p0 ∧ W' = []) := by
  refine MIof (by decide) (Nat.le_of_ble_eq_true rfl) ?_
  intro p e s m below meth c A ls H locs hcx hA hP hD hS hl
  obtain ⟨hx, hb, hml, hr, hlocks, hown, hts, hE, hnm⟩ := id hcx
  have hown : s.vm.findClass RX11 = some m.cls := hown
  have hK := hE.1
  have hl : lv_has ls 2 [(0, .ref h0), (1, .int p0)] := hl
  refine lv_iload_n hx hb dX11_about_0 rfl (lv_at hl 1 rfl) ?_
  by_cases c1 : p0 = 0
  · refine lv_tableIn (off := 67) (tgt := 68) hx hb dX11_about_1 (by rw [c1]; decide) (by rw [c1]; decide) (by rw [c1]; decide) (by decide) ?_
    refine lv_aload_n hx hb dX11_about_68 rfl (lv_at hl 0 rfl) ?_
    refine kI (wc := [(h0, .inr (11, fs)), (gu, .inl (gI g, 2, .inl f_gu))]) (wr := [(co, .inl (gI g, 2, .inl f_co)), (al, .inl (gI g, 24, .inl f_al)), (un, .inl (gI g, 2, .inl f_un))]) (rV (As := []) (rest := []) (meth2 := "") hcx (c_X11_many (hl_fs) (h_fs_guilds) (h_fs_bank) (h_f_gu_0) H.size) (gdV q15_2 q15_3 q15_4 q1_5 q15_5) dvX11_many ⟨Nat.le_of_ble_eq_true rfl, Nat.le_of_ble_eq_true rfl⟩ (hP.sub [0, 1] rfl) (hD.sub [0, 1] (by decide) rfl) (va_recv hK hP (ci := 11) (q0 := 0) rfl rfl) rfl hl.1 rfl (Nat.le_of_ble_eq_true rfl) dX11_about_69 ⟨Nat.le_of_ble_eq_true rfl, Nat.le_of_ble_eq_true rfl⟩) hP hD hS hA [0, 1] [2, 3, 4] rfl rfl (by decide) (by decide) (fun r W' H locs hw hP hD hS => ?_)
    obtain ⟨rfl, rfl⟩ := hw
    have hP : va_P g.1 vwCl [(co, .inl (gI g, 2, .inl f_co)), (al, .inl (gI g, 24, .inl f_al)), (un, .inl (gI g, 2, .inl f_un)), (h0, .inr (11, fs)), (gu, .inl (gI g, 2, .inl f_gu))] H := hP
    have hD : va_D A [(co, .inl (gI g, 2, .inl f_co)), (al, .inl (gI g, 24, .inl f_al)), (un, .inl (gI g, 2, .inl f_un)), (h0, .inr (11, fs)), (gu, .inl (gI g, 2, .inl f_gu))] := hD
    have hP9 : va_P g.1 vwCl [] H := hP.sub [] rfl
    have hD9 : va_D A [] := hD.sub [] (by decide) rfl
    exact xi hx hb hr hlocks rfl hP9 hD9 hS ⟨(by simp [sp_about, c1]), rfl⟩ (Nat.le_of_ble_eq_true rfl) (Nat.le_of_ble_eq_true rfl) dX11_about_72
  by_cases c2 : p0 = 1
  · refine lv_tableIn (off := 72) (tgt := 73) hx hb dX11_about_1 (by rw [c2]; decide) (by rw [c2]; decide) (by rw [c2]; decide) (by decide) ?_
    refine lv_aload_n hx hb dX11_about_73 rfl (lv_at hl 0 rfl) ?_
    refine kI (wc := [(h0, .inr (11, fs)), (co, .inl (gI g, 2, .inl f_co))]) (wr := [(gu, .inl (gI g, 2, .inl f_gu)), (al, .inl (gI g, 24, .inl f_al)), (un, .inl (gI g, 2, .inl f_un))]) (rV (As := []) (rest := []) (meth2 := "") hcx (c_X11_ways (hl_fs) (h_fs_corners) (h_fs_bank) (h_f_co_0) H.size) (gdV q36_17 q36_18 q36_19 q1_5 q36_20) dvX11_ways ⟨Nat.le_of_ble_eq_true rfl, Nat.le_of_ble_eq_true rfl⟩ (hP.sub [0, 2] rfl) (hD.sub [0, 2] (by decide) rfl) (va_recv hK hP (ci := 11) (q0 := 0) rfl rfl) rfl hl.1 rfl (Nat.le_of_ble_eq_true rfl) dX11_about_74 ⟨Nat.le_of_ble_eq_true rfl, Nat.le_of_ble_eq_true rfl⟩) hP hD hS hA [0, 2] [1, 3, 4] rfl rfl (by decide) (by decide) (fun r W' H locs hw hP hD hS => ?_)
    obtain ⟨rfl, rfl⟩ := hw
    have hP : va_P g.1 vwCl [(gu, .inl (gI g, 2, .inl f_gu)), (al, .inl (gI g, 24, .inl f_al)), (un, .inl (gI g, 2, .inl f_un)), (h0, .inr (11, fs)), (co, .inl (gI g, 2, .inl f_co))] H := hP
    have hD : va_D A [(gu, .inl (gI g, 2, .inl f_gu)), (al, .inl (gI g, 24, .inl f_al)), (un, .inl (gI g, 2, .inl f_un)), (h0, .inr (11, fs)), (co, .inl (gI g, 2, .inl f_co))] := hD
    have hP9 : va_P g.1 vwCl [] H := hP.sub [] rfl
    have hD9 : va_D A [] := hD.sub [] (by decide) rfl
    exact xi hx hb hr hlocks rfl hP9 hD9 hS ⟨(by simp [sp_about, c2]), rfl⟩ (Nat.le_of_ble_eq_true rfl) (Nat.le_of_ble_eq_true rfl) dX11_about_77
  by_cases c3 : p0 = 2
  · refine lv_tableIn (off := 77) (tgt := 78) hx hb dX11_about_1 (by rw [c3]; decide) (by rw [c3]; decide) (by rw [c3]; decide) (by decide) ?_
    refine lv_aload_n hx hb dX11_about_78 rfl (lv_at hl 0 rfl) ?_
    refine va_get (D := g.1) (ci := 11) (v := Value.ref al) (C := RX11) (T := TX11) (N := 69) hx hb hts inlX11 hown hK hP 0 rfl rfl 46 (by decide) (hts _ q13_17) (fun _ h9 => h9) h_fs_all dX11_about_79 ?_
    refine lv_bipush (v := 20) hx hb dX11_about_82 (by decide) ?_
    refine ia_ld hx hb hK hP 3 1 rfl rfl (20) rfl (by decide) (by decide) dX11_about_84 ?_
    refine lv_tope (y := 0) h_f_al_20 ?_
    have hP9 : va_P g.1 vwCl [] H := hP.sub [] rfl
    have hD9 : va_D A [] := hD.sub [] (by decide) rfl
    exact xi hx hb hr hlocks rfl hP9 hD9 hS ⟨(by simp [sp_about, c3]), rfl⟩ (Nat.le_of_ble_eq_true rfl) (Nat.le_of_ble_eq_true rfl) dX11_about_85
  by_cases c4 : p0 = 3
  · refine lv_tableIn (off := 85) (tgt := 86) hx hb dX11_about_1 (by rw [c4]; decide) (by rw [c4]; decide) (by rw [c4]; decide) (by decide) ?_
    refine lv_aload_n hx hb dX11_about_86 rfl (lv_at hl 0 rfl) ?_
    refine va_get (D := g.1) (ci := 11) (v := Value.ref al) (C := RX11) (T := TX11) (N := 69) hx hb hts inlX11 hown hK hP 0 rfl rfl 46 (by decide) (hts _ q13_17) (fun _ h9 => h9) h_fs_all dX11_about_87 ?_
    refine lv_bipush (v := 21) hx hb dX11_about_90 (by decide) ?_
    refine ia_ld hx hb hK hP 3 1 rfl rfl (21) rfl (by decide) (by decide) dX11_about_92 ?_
    refine lv_tope (y := 0) h_f_al_21 ?_
    have hP9 : va_P g.1 vwCl [] H := hP.sub [] rfl
    have hD9 : va_D A [] := hD.sub [] (by decide) rfl
    exact xi hx hb hr hlocks rfl hP9 hD9 hS ⟨(by simp [sp_about, c4]), rfl⟩ (Nat.le_of_ble_eq_true rfl) (Nat.le_of_ble_eq_true rfl) dX11_about_93
  by_cases c5 : p0 = 4
  · refine lv_tableIn (off := 93) (tgt := 94) hx hb dX11_about_1 (by rw [c5]; decide) (by rw [c5]; decide) (by rw [c5]; decide) (by decide) ?_
    refine lv_aload_n hx hb dX11_about_94 rfl (lv_at hl 0 rfl) ?_
    refine va_get (D := g.1) (ci := 11) (v := Value.ref al) (C := RX11) (T := TX11) (N := 69) hx hb hts inlX11 hown hK hP 0 rfl rfl 46 (by decide) (hts _ q13_17) (fun _ h9 => h9) h_fs_all dX11_about_95 ?_
    refine lv_bipush (v := 22) hx hb dX11_about_98 (by decide) ?_
    refine ia_ld hx hb hK hP 3 1 rfl rfl (22) rfl (by decide) (by decide) dX11_about_100 ?_
    refine lv_tope (y := 0) h_f_al_22 ?_
    have hP9 : va_P g.1 vwCl [] H := hP.sub [] rfl
    have hD9 : va_D A [] := hD.sub [] (by decide) rfl
    exact xi hx hb hr hlocks rfl hP9 hD9 hS ⟨(by simp [sp_about, c5]), rfl⟩ (Nat.le_of_ble_eq_true rfl) (Nat.le_of_ble_eq_true rfl) dX11_about_101
  by_cases c6 : p0 = 5
  · refine lv_tableIn (off := 101) (tgt := 102) hx hb dX11_about_1 (by rw [c6]; decide) (by rw [c6]; decide) (by rw [c6]; decide) (by decide) ?_
    refine lv_aload_n hx hb dX11_about_102 rfl (lv_at hl 0 rfl) ?_
    refine va_get (D := g.1) (ci := 11) (v := Value.ref al) (C := RX11) (T := TX11) (N := 69) hx hb hts inlX11 hown hK hP 0 rfl rfl 46 (by decide) (hts _ q13_17) (fun _ h9 => h9) h_fs_all dX11_about_103 ?_
    refine lv_bipush (v := 23) hx hb dX11_about_106 (by decide) ?_
    refine ia_ld hx hb hK hP 3 1 rfl rfl (23) rfl (by decide) (by decide) dX11_about_108 ?_
    refine lv_tope (y := 0) h_f_al_23 ?_
    have hP9 : va_P g.1 vwCl [] H := hP.sub [] rfl
    have hD9 : va_D A [] := hD.sub [] (by decide) rfl
    exact xi hx hb hr hlocks rfl hP9 hD9 hS ⟨(by simp [sp_about, c6]), rfl⟩ (Nat.le_of_ble_eq_true rfl) (Nat.le_of_ble_eq_true rfl) dX11_about_109
  by_cases c7 : p0 = 6
  · refine lv_tableIn (off := 109) (tgt := 110) hx hb dX11_about_1 (by rw [c7]; decide) (by rw [c7]; decide) (by rw [c7]; decide) (by decide) ?_
    refine lv_aload_n hx hb dX11_about_110 rfl (lv_at hl 0 rfl) ?_
    refine va_get (D := g.1) (ci := 11) (v := Value.int 0) (C := RX11) (T := TX11) (N := 69) hx hb hts inlX11 hown hK hP 0 rfl rfl 49 (by decide) (hts _ q14_22) (fun _ h9 => h9) h_fs_acts dX11_about_111 ?_
    have hP9 : va_P g.1 vwCl [] H := hP.sub [] rfl
    have hD9 : va_D A [] := hD.sub [] (by decide) rfl
    exact xi hx hb hr hlocks rfl hP9 hD9 hS ⟨(by simp [sp_about, c7]), rfl⟩ (Nat.le_of_ble_eq_true rfl) (Nat.le_of_ble_eq_true rfl) dX11_about_114
  by_cases c8 : p0 = 7
  · refine lv_tableIn (off := 114) (tgt := 115) hx hb dX11_about_1 (by rw [c8]; decide) (by rw [c8]; decide) (by rw [c8]; decide) (by decide) ?_
    refine lv_aload_n hx hb dX11_about_115 rfl (lv_at hl 0 rfl) ?_
    refine va_get (D := g.1) (ci := 11) (v := Value.int 0) (C := RX11) (T := TX11) (N := 69) hx hb hts inlX11 hown hK hP 0 rfl rfl 50 (by decide) (hts _ q14_23) (fun _ h9 => h9) h_fs_undone dX11_about_116 ?_
    have hP9 : va_P g.1 vwCl [] H := hP.sub [] rfl
    have hD9 : va_D A [] := hD.sub [] (by decide) rfl
    exact xi hx hb hr hlocks rfl hP9 hD9 hS ⟨(by simp [sp_about, c8]), rfl⟩ (Nat.le_of_ble_eq_true rfl) (Nat.le_of_ble_eq_true rfl) dX11_about_119
  by_cases c9 : p0 = 8
  · refine lv_tableIn (off := 119) (tgt := 120) hx hb dX11_about_1 (by rw [c9]; decide) (by rw [c9]; decide) (by rw [c9]; decide) (by decide) ?_
    refine lv_aload_n hx hb dX11_about_120 rfl (lv_at hl 0 rfl) ?_
    refine va_get (D := g.1) (ci := 11) (v := Value.int 0) (C := RX11) (T := TX11) (N := 69) hx hb hts inlX11 hown hK hP 0 rfl rfl 65 (by decide) (hts _ q15_0) (fun _ h9 => h9) h_fs_seens dX11_about_121 ?_
    have hP9 : va_P g.1 vwCl [] H := hP.sub [] rfl
    have hD9 : va_D A [] := hD.sub [] (by decide) rfl
    exact xi hx hb hr hlocks rfl hP9 hD9 hS ⟨(by simp [sp_about, c9]), rfl⟩ (Nat.le_of_ble_eq_true rfl) (Nat.le_of_ble_eq_true rfl) dX11_about_124
  by_cases c10 : p0 = 9
  · refine lv_tableIn (off := 124) (tgt := 125) hx hb dX11_about_1 (by rw [c10]; decide) (by rw [c10]; decide) (by rw [c10]; decide) (by decide) ?_
    refine lv_aload_n hx hb dX11_about_125 rfl (lv_at hl 0 rfl) ?_
    refine va_get (D := g.1) (ci := 11) (v := Value.int 0) (C := RX11) (T := TX11) (N := 69) hx hb hts inlX11 hown hK hP 0 rfl rfl 66 (by decide) (hts _ q62_7) (fun _ h9 => h9) h_fs_time dX11_about_126 ?_
    have hP9 : va_P g.1 vwCl [] H := hP.sub [] rfl
    have hD9 : va_D A [] := hD.sub [] (by decide) rfl
    exact xi hx hb hr hlocks rfl hP9 hD9 hS ⟨(by simp [sp_about, c10]), rfl⟩ (Nat.le_of_ble_eq_true rfl) (Nat.le_of_ble_eq_true rfl) dX11_about_129
  by_cases c11 : p0 = 10
  · refine lv_tableIn (off := 129) (tgt := 130) hx hb dX11_about_1 (by rw [c11]; decide) (by rw [c11]; decide) (by rw [c11]; decide) (by decide) ?_
    refine lv_aload_n hx hb dX11_about_130 rfl (lv_at hl 0 rfl) ?_
    refine va_get (D := g.1) (ci := 11) (v := Value.int 0) (C := RX11) (T := TX11) (N := 69) hx hb hts inlX11 hown hK hP 0 rfl rfl 2 (by decide) (hts _ q15_23) (fun _ h9 => h9) h_fs_taped dX11_about_131 ?_
    have hP9 : va_P g.1 vwCl [] H := hP.sub [] rfl
    have hD9 : va_D A [] := hD.sub [] (by decide) rfl
    exact xi hx hb hr hlocks rfl hP9 hD9 hS ⟨(by simp [sp_about, c11]), rfl⟩ (Nat.le_of_ble_eq_true rfl) (Nat.le_of_ble_eq_true rfl) dX11_about_134
  by_cases c12 : p0 = 11
  · refine lv_tableIn (off := 134) (tgt := 135) hx hb dX11_about_1 (by rw [c12]; decide) (by rw [c12]; decide) (by rw [c12]; decide) (by decide) ?_
    refine lv_aload_n hx hb dX11_about_135 rfl (lv_at hl 0 rfl) ?_
    refine va_get (D := g.1) (ci := 11) (v := Value.ref un) (C := RX11) (T := TX11) (N := 69) hx hb hts inlX11 hown hK hP 0 rfl rfl 14 (by decide) (hts _ q12_21) (fun _ h9 => h9) h_fs_units dX11_about_136 ?_
    refine lv_aload_n hx hb dX11_about_139 rfl (lv_at hl 0 rfl) ?_
    refine va_get (D := g.1) (ci := 11) (v := Value.int 0) (C := RX11) (T := TX11) (N := 69) hx hb hts inlX11 hown hK hP 0 rfl rfl 34 (by decide) (hts _ q14_21) (fun _ h9 => h9) h_fs_bank dX11_about_140 ?_
    refine ia_ld hx hb hK hP 4 1 rfl rfl (0) rfl (by decide) (by decide) dX11_about_143 ?_
    refine lv_tope (y := 0) h_f_un_0 ?_
    have hP9 : va_P g.1 vwCl [] H := hP.sub [] rfl
    have hD9 : va_D A [] := hD.sub [] (by decide) rfl
    exact xi hx hb hr hlocks rfl hP9 hD9 hS ⟨(by simp [sp_about, c12]), rfl⟩ (Nat.le_of_ble_eq_true rfl) (Nat.le_of_ble_eq_true rfl) dX11_about_144
  by_cases c13 : p0 = 12
  · refine lv_tableIn (off := 144) (tgt := 145) hx hb dX11_about_1 (by rw [c13]; decide) (by rw [c13]; decide) (by rw [c13]; decide) (by decide) ?_
    refine lv_aload_n hx hb dX11_about_145 rfl (lv_at hl 0 rfl) ?_
    refine va_get (D := g.1) (ci := 11) (v := Value.int 0) (C := RX11) (T := TX11) (N := 69) hx hb hts inlX11 hown hK hP 0 rfl rfl 54 (by decide) (hts _ q15_1) (fun _ h9 => h9) h_fs_laid dX11_about_146 ?_
    have hP9 : va_P g.1 vwCl [] H := hP.sub [] rfl
    have hD9 : va_D A [] := hD.sub [] (by decide) rfl
    exact xi hx hb hr hlocks rfl hP9 hD9 hS ⟨(by simp [sp_about, c13]), rfl⟩ (Nat.le_of_ble_eq_true rfl) (Nat.le_of_ble_eq_true rfl) dX11_about_149
  refine lv_tableOut (tgt := 150) hx hb dX11_about_1 (sw_out (hi := 12) (by decide) (fun v hv => match v, hv with | 0, _ => c1 | 1, _ => c2 | 2, _ => c3 | 3, _ => c4 | 4, _ => c5 | 5, _ => c6 | 6, _ => c7 | 7, _ => c8 | 8, _ => c9 | 9, _ => c10 | 10, _ => c11 | 11, _ => c12 | 12, _ => c13 | n + 13, h => absurd h (by omega))) (by decide) ?_
  refine lv_iconst (v := (-1)) hx hb dX11_about_150 (by decide) ?_
  have hP9 : va_P g.1 vwCl [] H := hP.sub [] rfl
  have hD9 : va_D A [] := hD.sub [] (by decide) rfl
  exact xi hx hb hr hlocks rfl hP9 hD9 hS ⟨(by simp [sp_about, c1, c2, c3, c4, c5, c6, c7, c8, c9, c10, c11, c12, c13]), rfl⟩ (Nat.le_of_ble_eq_true rfl) (Nat.le_of_ble_eq_true rfl) dX11_about_151

set_option maxHeartbeats 4000000 in
set_option maxRecDepth 100000 in
theorem c_X11_town {l : Launch} {g : Gx} {h0 kcorners kguilds kgusts kunits kdraw ktold al ib : Nat} {fs : List Value} {f_kcorners : Nat → Int32} {f_kguilds : Nat → Int32} {f_kgusts : Nat → Int32} {f_kunits : Nat → Int32} {f_kdraw : Nat → Int32} {f_ktold : Nat → Int32} {f_al : Nat → Int32} {f_ib : Nat → Int32} (hl_fs : fs.length = 69) (h_fs_taped : fs[2]? = some (Value.int 0)) (h_fs_bank : fs[34]? = some (Value.int 0)) (h_fs_all : fs[46]? = some (Value.ref al)) (h_fs_isBoxed : fs[68]? = some (Value.ref ib)) (h_fs_corners : fs[11]? = some (Value.ref kcorners)) (h_fs_guilds : fs[12]? = some (Value.ref kguilds)) (h_fs_gusts : fs[13]? = some (Value.ref kgusts)) (h_fs_units : fs[14]? = some (Value.ref kunits)) (h_fs_draw : fs[15]? = some (Value.ref kdraw)) (h_fs_told : fs[16]? = some (Value.ref ktold)) : MI l g yX11_town cX11_town 2 (some .int) 5 0 0 [.ref h0] [(h0, .inr (11, fs)), (kcorners, .inl (gI g, 2, .inl f_kcorners)), (kguilds, .inl (gI g, 2, .inl f_kguilds)), (kgusts, .inl (gI g, 2, .inl f_kgusts)), (kunits, .inl (gI g, 2, .inl f_kunits)), (kdraw, .inl (gI g, 2, .inl f_kdraw)), (ktold, .inl (gI g, 2, .inl f_ktold)), (al, .inl (gI g, 24, .inl f_al)), (ib, .inl (gZ g, 3, .inl f_ib))] (fun r W' => 0 = r ∧ W' = []) := by
  refine MIof (by decide) (Nat.le_of_ble_eq_true rfl) ?_
  intro p e s m below meth c A ls H locs hcx hA hP hD hS hl
  obtain ⟨hx, hb, hml, hr, hlocks, hown, hts, hE, hnm⟩ := id hcx
  have hown : s.vm.findClass RX11 = some m.cls := hown
  have hK := hE.1
  have hl : lv_has ls 2 [(0, .ref h0)] := hl
  refine lv_aload_n hx hb dX11_town_0 rfl (lv_at hl 0 rfl) ?_
  refine lv_iconst (v := 0) hx hb dX11_town_1 (by decide) ?_
  refine va_put (D := g.1) (ci := 11) (v := Value.int 0) (ty := .int) (C := RX11) (T := TX11) (N := 69) hx hb hts inlX11 tyX11 tyX11_ok nmX11 hown hK hP hD hS 0 rfl rfl 4 (by decide) (hts _ q25_18) (fun _ h9 => h9) rfl (by decide +kernel) rfl rfl (by simp [hl_fs]) dX11_town_2 (fun H locs hP hD hS => ?_)
  have hP : va_P g.1 vwCl [(h0, .inr (11, (fs.set 4 (.int 0)))), (kcorners, .inl (gI g, 2, .inl f_kcorners)), (kguilds, .inl (gI g, 2, .inl f_kguilds)), (kgusts, .inl (gI g, 2, .inl f_kgusts)), (kunits, .inl (gI g, 2, .inl f_kunits)), (kdraw, .inl (gI g, 2, .inl f_kdraw)), (ktold, .inl (gI g, 2, .inl f_ktold)), (al, .inl (gI g, 24, .inl f_al)), (ib, .inl (gZ g, 3, .inl f_ib))] H := hP
  have hD : va_D A [(h0, .inr (11, (fs.set 4 (.int 0)))), (kcorners, .inl (gI g, 2, .inl f_kcorners)), (kguilds, .inl (gI g, 2, .inl f_kguilds)), (kgusts, .inl (gI g, 2, .inl f_kgusts)), (kunits, .inl (gI g, 2, .inl f_kunits)), (kdraw, .inl (gI g, 2, .inl f_kdraw)), (ktold, .inl (gI g, 2, .inl f_ktold)), (al, .inl (gI g, 24, .inl f_al)), (ib, .inl (gZ g, 3, .inl f_ib))] := hD
  refine lv_aload_n hx hb dX11_town_5 rfl (lv_at hl 0 rfl) ?_
  refine lv_iconst (v := (-1)) hx hb dX11_town_6 (by decide) ?_
  refine va_put (D := g.1) (ci := 11) (v := Value.int (-1)) (ty := .int) (C := RX11) (T := TX11) (N := 69) hx hb hts inlX11 tyX11 tyX11_ok nmX11 hown hK hP hD hS 0 rfl rfl 5 (by decide) (hts _ q12_17) (fun _ h9 => h9) rfl (by decide +kernel) rfl rfl (by simp [hl_fs]) dX11_town_7 (fun H locs hP hD hS => ?_)
  have hP : va_P g.1 vwCl [(h0, .inr (11, ((fs.set 4 (.int 0)).set 5 (.int (-1))))), (kcorners, .inl (gI g, 2, .inl f_kcorners)), (kguilds, .inl (gI g, 2, .inl f_kguilds)), (kgusts, .inl (gI g, 2, .inl f_kgusts)), (kunits, .inl (gI g, 2, .inl f_kunits)), (kdraw, .inl (gI g, 2, .inl f_kdraw)), (ktold, .inl (gI g, 2, .inl f_ktold)), (al, .inl (gI g, 24, .inl f_al)), (ib, .inl (gZ g, 3, .inl f_ib))] H := hP
  have hD : va_D A [(h0, .inr (11, ((fs.set 4 (.int 0)).set 5 (.int (-1))))), (kcorners, .inl (gI g, 2, .inl f_kcorners)), (kguilds, .inl (gI g, 2, .inl f_kguilds)), (kgusts, .inl (gI g, 2, .inl f_kgusts)), (kunits, .inl (gI g, 2, .inl f_kunits)), (kdraw, .inl (gI g, 2, .inl f_kdraw)), (ktold, .inl (gI g, 2, .inl f_ktold)), (al, .inl (gI g, 24, .inl f_al)), (ib, .inl (gZ g, 3, .inl f_ib))] := hD
  refine lv_aload_n hx hb dX11_town_10 rfl (lv_at hl 0 rfl) ?_
  refine lv_aload_n hx hb dX11_town_11 rfl (lv_at hl 0 rfl) ?_
  refine va_get (D := g.1) (ci := 11) (v := Value.int 0) (C := RX11) (T := TX11) (N := 69) hx hb hts inlX11 hown hK hP 0 rfl rfl 2 (by decide) (hts _ q15_23) (fun _ h9 => h9) (fs_ne (fs_ne h_fs_taped (by decide)) (by decide)) dX11_town_12 ?_
  refine va_put (D := g.1) (ci := 11) (v := Value.int 0) (ty := .int) (C := RX11) (T := TX11) (N := 69) hx hb hts inlX11 tyX11 tyX11_ok nmX11 hown hK hP hD hS 0 rfl rfl 3 (by decide) (hts _ q25_19) (fun _ h9 => h9) rfl (by decide +kernel) rfl rfl (by simp [hl_fs]) dX11_town_15 (fun H locs hP hD hS => ?_)
  have hP : va_P g.1 vwCl [(h0, .inr (11, (((fs.set 4 (.int 0)).set 5 (.int (-1))).set 3 (.int 0)))), (kcorners, .inl (gI g, 2, .inl f_kcorners)), (kguilds, .inl (gI g, 2, .inl f_kguilds)), (kgusts, .inl (gI g, 2, .inl f_kgusts)), (kunits, .inl (gI g, 2, .inl f_kunits)), (kdraw, .inl (gI g, 2, .inl f_kdraw)), (ktold, .inl (gI g, 2, .inl f_ktold)), (al, .inl (gI g, 24, .inl f_al)), (ib, .inl (gZ g, 3, .inl f_ib))] H := hP
  have hD : va_D A [(h0, .inr (11, (((fs.set 4 (.int 0)).set 5 (.int (-1))).set 3 (.int 0)))), (kcorners, .inl (gI g, 2, .inl f_kcorners)), (kguilds, .inl (gI g, 2, .inl f_kguilds)), (kgusts, .inl (gI g, 2, .inl f_kgusts)), (kunits, .inl (gI g, 2, .inl f_kunits)), (kdraw, .inl (gI g, 2, .inl f_kdraw)), (ktold, .inl (gI g, 2, .inl f_ktold)), (al, .inl (gI g, 24, .inl f_al)), (ib, .inl (gZ g, 3, .inl f_ib))] := hD
  refine lv_iconst (v := 0) hx hb dX11_town_18 (by decide) ?_
  refine lv_istore_n (lv' := [(1, .int 0), (0, .ref h0)]) hx hb dX11_town_19 rfl hl (by decide) rfl (fun ls hl => ?_)
  refine lv_iload_n hx hb dX11_town_20 rfl (lv_at hl 0 rfl) ?_
  refine lv_aload_n hx hb dX11_town_21 rfl (lv_at hl 1 rfl) ?_
  refine va_get (D := g.1) (ci := 11) (v := Value.int 0) (C := RX11) (T := TX11) (N := 69) hx hb hts inlX11 hown hK hP 0 rfl rfl 3 (by decide) (hts _ q25_19) (fun _ h9 => h9) (List.getElem?_set_self (by simp [hl_fs])) dX11_town_22 ?_
  refine lv_icmp_ge (tgt := 46) hx hb dX11_town_25 (by decide) (fun _ => ?_) (fun c1 => absurd (by decide) c1)
  refine lv_aload_n hx hb dX11_town_46 rfl (lv_at hl 1 rfl) ?_
  refine lv_iconst (v := 0) hx hb dX11_town_47 (by decide) ?_
  refine va_put (D := g.1) (ci := 11) (v := Value.int 0) (ty := .int) (C := RX11) (T := TX11) (N := 69) hx hb hts inlX11 tyX11 tyX11_ok nmX11 hown hK hP hD hS 0 rfl rfl 2 (by decide) (hts _ q15_23) (fun _ h9 => h9) rfl (by decide +kernel) rfl rfl (by simp [hl_fs]) dX11_town_48 (fun H locs hP hD hS => ?_)
  have hP : va_P g.1 vwCl [(h0, .inr (11, ((((fs.set 4 (.int 0)).set 5 (.int (-1))).set 3 (.int 0)).set 2 (.int 0)))), (kcorners, .inl (gI g, 2, .inl f_kcorners)), (kguilds, .inl (gI g, 2, .inl f_kguilds)), (kgusts, .inl (gI g, 2, .inl f_kgusts)), (kunits, .inl (gI g, 2, .inl f_kunits)), (kdraw, .inl (gI g, 2, .inl f_kdraw)), (ktold, .inl (gI g, 2, .inl f_ktold)), (al, .inl (gI g, 24, .inl f_al)), (ib, .inl (gZ g, 3, .inl f_ib))] H := hP
  have hD : va_D A [(h0, .inr (11, ((((fs.set 4 (.int 0)).set 5 (.int (-1))).set 3 (.int 0)).set 2 (.int 0)))), (kcorners, .inl (gI g, 2, .inl f_kcorners)), (kguilds, .inl (gI g, 2, .inl f_kguilds)), (kgusts, .inl (gI g, 2, .inl f_kgusts)), (kunits, .inl (gI g, 2, .inl f_kunits)), (kdraw, .inl (gI g, 2, .inl f_kdraw)), (ktold, .inl (gI g, 2, .inl f_ktold)), (al, .inl (gI g, 24, .inl f_al)), (ib, .inl (gZ g, 3, .inl f_ib))] := hD
  refine lv_aload_n hx hb dX11_town_51 rfl (lv_at hl 1 rfl) ?_
  refine lv_iconst (v := 0) hx hb dX11_town_52 (by decide) ?_
  refine va_put (D := g.1) (ci := 11) (v := Value.int 0) (ty := .int) (C := RX11) (T := TX11) (N := 69) hx hb hts inlX11 tyX11 tyX11_ok nmX11 hown hK hP hD hS 0 rfl rfl 7 (by decide) (hts _ q25_20) (fun _ h9 => h9) rfl (by decide +kernel) rfl rfl (by simp [hl_fs]) dX11_town_53 (fun H locs hP hD hS => ?_)
  have hP : va_P g.1 vwCl [(h0, .inr (11, (((((fs.set 4 (.int 0)).set 5 (.int (-1))).set 3 (.int 0)).set 2 (.int 0)).set 7 (.int 0)))), (kcorners, .inl (gI g, 2, .inl f_kcorners)), (kguilds, .inl (gI g, 2, .inl f_kguilds)), (kgusts, .inl (gI g, 2, .inl f_kgusts)), (kunits, .inl (gI g, 2, .inl f_kunits)), (kdraw, .inl (gI g, 2, .inl f_kdraw)), (ktold, .inl (gI g, 2, .inl f_ktold)), (al, .inl (gI g, 24, .inl f_al)), (ib, .inl (gZ g, 3, .inl f_ib))] H := hP
  have hD : va_D A [(h0, .inr (11, (((((fs.set 4 (.int 0)).set 5 (.int (-1))).set 3 (.int 0)).set 2 (.int 0)).set 7 (.int 0)))), (kcorners, .inl (gI g, 2, .inl f_kcorners)), (kguilds, .inl (gI g, 2, .inl f_kguilds)), (kgusts, .inl (gI g, 2, .inl f_kgusts)), (kunits, .inl (gI g, 2, .inl f_kunits)), (kdraw, .inl (gI g, 2, .inl f_kdraw)), (ktold, .inl (gI g, 2, .inl f_ktold)), (al, .inl (gI g, 24, .inl f_al)), (ib, .inl (gZ g, 3, .inl f_ib))] := hD
  refine lv_aload_n hx hb dX11_town_56 rfl (lv_at hl 1 rfl) ?_
  refine lv_iconst (v := 1) hx hb dX11_town_57 (by decide) ?_
  refine lv_aload_n hx hb dX11_town_58 rfl (lv_at hl 1 rfl) ?_
  refine va_get (D := g.1) (ci := 11) (v := Value.int 0) (C := RX11) (T := TX11) (N := 69) hx hb hts inlX11 hown hK hP 0 rfl rfl 34 (by decide) (hts _ q14_21) (fun _ h9 => h9) (fs_ne (fs_ne (fs_ne (fs_ne (fs_ne h_fs_bank (by decide)) (by decide)) (by decide)) (by decide)) (by decide)) dX11_town_59 ?_
  refine lv_isub hx hb dX11_town_62 ?_
  refine lv_tope (y := 1) (by decide) ?_
  refine va_put (D := g.1) (ci := 11) (v := Value.int 1) (ty := .int) (C := RX11) (T := TX11) (N := 69) hx hb hts inlX11 tyX11 tyX11_ok nmX11 hown hK hP hD hS 0 rfl rfl 35 (by decide) (hts _ q14_15) (fun _ h9 => h9) rfl (by decide +kernel) rfl rfl (by simp [hl_fs]) dX11_town_63 (fun H locs hP hD hS => ?_)
  have hP : va_P g.1 vwCl [(h0, .inr (11, ((((((fs.set 4 (.int 0)).set 5 (.int (-1))).set 3 (.int 0)).set 2 (.int 0)).set 7 (.int 0)).set 35 (.int 1)))), (kcorners, .inl (gI g, 2, .inl f_kcorners)), (kguilds, .inl (gI g, 2, .inl f_kguilds)), (kgusts, .inl (gI g, 2, .inl f_kgusts)), (kunits, .inl (gI g, 2, .inl f_kunits)), (kdraw, .inl (gI g, 2, .inl f_kdraw)), (ktold, .inl (gI g, 2, .inl f_ktold)), (al, .inl (gI g, 24, .inl f_al)), (ib, .inl (gZ g, 3, .inl f_ib))] H := hP
  have hD : va_D A [(h0, .inr (11, ((((((fs.set 4 (.int 0)).set 5 (.int (-1))).set 3 (.int 0)).set 2 (.int 0)).set 7 (.int 0)).set 35 (.int 1)))), (kcorners, .inl (gI g, 2, .inl f_kcorners)), (kguilds, .inl (gI g, 2, .inl f_kguilds)), (kgusts, .inl (gI g, 2, .inl f_kgusts)), (kunits, .inl (gI g, 2, .inl f_kunits)), (kdraw, .inl (gI g, 2, .inl f_kdraw)), (ktold, .inl (gI g, 2, .inl f_ktold)), (al, .inl (gI g, 24, .inl f_al)), (ib, .inl (gZ g, 3, .inl f_ib))] := hD
  refine lv_aload_n hx hb dX11_town_66 rfl (lv_at hl 1 rfl) ?_
  refine kV (wc := [(h0, .inr (11, ((((((fs.set 4 (.int 0)).set 5 (.int (-1))).set 3 (.int 0)).set 2 (.int 0)).set 7 (.int 0)).set 35 (.int 1)))), (kcorners, .inl (gI g, 2, .inl f_kcorners)), (kguilds, .inl (gI g, 2, .inl f_kguilds)), (kgusts, .inl (gI g, 2, .inl f_kgusts)), (kunits, .inl (gI g, 2, .inl f_kunits)), (kdraw, .inl (gI g, 2, .inl f_kdraw)), (ktold, .inl (gI g, 2, .inl f_ktold))]) (wr := [(al, .inl (gI g, 24, .inl f_al)), (ib, .inl (gZ g, 3, .inl f_ib))]) (rV (As := []) (rest := []) (meth2 := "") hcx (c_X11_clearBank_1 ((by simp [hl_fs])) ((List.getElem?_set_self (by simp [hl_fs]))) ((fs_ne (fs_ne (fs_ne (fs_ne (fs_ne (fs_ne h_fs_corners (by decide)) (by decide)) (by decide)) (by decide)) (by decide)) (by decide))) ((fs_ne (fs_ne (fs_ne (fs_ne (fs_ne (fs_ne h_fs_guilds (by decide)) (by decide)) (by decide)) (by decide)) (by decide)) (by decide))) ((fs_ne (fs_ne (fs_ne (fs_ne (fs_ne (fs_ne h_fs_gusts (by decide)) (by decide)) (by decide)) (by decide)) (by decide)) (by decide))) ((fs_ne (fs_ne (fs_ne (fs_ne (fs_ne (fs_ne h_fs_units (by decide)) (by decide)) (by decide)) (by decide)) (by decide)) (by decide))) ((fs_ne (fs_ne (fs_ne (fs_ne (fs_ne (fs_ne h_fs_draw (by decide)) (by decide)) (by decide)) (by decide)) (by decide)) (by decide))) ((fs_ne (fs_ne (fs_ne (fs_ne (fs_ne (fs_ne h_fs_told (by decide)) (by decide)) (by decide)) (by decide)) (by decide)) (by decide))) H.size) (gdV q14_11 q14_12 q14_13 q1_5 q14_14) dvX11_clearBank ⟨Nat.le_of_ble_eq_true rfl, Nat.le_of_ble_eq_true rfl⟩ (hP.sub [0, 1, 2, 3, 4, 5, 6] rfl) (hD.sub [0, 1, 2, 3, 4, 5, 6] (by decide) rfl) (va_recv hK hP (ci := 11) (q0 := 0) rfl rfl) rfl hl.1 rfl (Nat.le_of_ble_eq_true rfl) dX11_town_67 ⟨Nat.le_of_ble_eq_true rfl, Nat.le_of_ble_eq_true rfl⟩) hP hD hS hA [0, 1, 2, 3, 4, 5, 6] [7, 8] rfl rfl (by decide) (by decide) (fun W' H locs hw hP hD hS => ?_)
  obtain ⟨f2, f3, f4, f5, f6, f7, rfl, hf8, hf9, hf10, hf11, hf12, hf13⟩ := hw
  have hP : va_P g.1 vwCl [(al, .inl (gI g, 24, .inl f_al)), (ib, .inl (gZ g, 3, .inl f_ib)), (h0, .inr (11, (((((((fs.set 4 (.int 0)).set 5 (.int (-1))).set 3 (.int 0)).set 2 (.int 0)).set 7 (.int 0)).set 35 (.int 1)).set 36 (.int 560)))), (kcorners, .inl (gI g, 2, .inl f2)), (kguilds, .inl (gI g, 2, .inl f3)), (kgusts, .inl (gI g, 2, .inl f4)), (kunits, .inl (gI g, 2, .inl f5)), (kdraw, .inl (gI g, 2, .inl f6)), (ktold, .inl (gI g, 2, .inl f7))] H := hP
  have hD : va_D A [(al, .inl (gI g, 24, .inl f_al)), (ib, .inl (gZ g, 3, .inl f_ib)), (h0, .inr (11, (((((((fs.set 4 (.int 0)).set 5 (.int (-1))).set 3 (.int 0)).set 2 (.int 0)).set 7 (.int 0)).set 35 (.int 1)).set 36 (.int 560)))), (kcorners, .inl (gI g, 2, .inl f2)), (kguilds, .inl (gI g, 2, .inl f3)), (kgusts, .inl (gI g, 2, .inl f4)), (kunits, .inl (gI g, 2, .inl f5)), (kdraw, .inl (gI g, 2, .inl f6)), (ktold, .inl (gI g, 2, .inl f7))] := hD
  refine lv_aload_n hx hb dX11_town_70 rfl (lv_at hl 1 rfl) ?_
  refine kV (wc := [(h0, .inr (11, (((((((fs.set 4 (.int 0)).set 5 (.int (-1))).set 3 (.int 0)).set 2 (.int 0)).set 7 (.int 0)).set 35 (.int 1)).set 36 (.int 560))))]) (wr := [(al, .inl (gI g, 24, .inl f_al)), (ib, .inl (gZ g, 3, .inl f_ib)), (kcorners, .inl (gI g, 2, .inl f2)), (kguilds, .inl (gI g, 2, .inl f3)), (kgusts, .inl (gI g, 2, .inl f4)), (kunits, .inl (gI g, 2, .inl f5)), (kdraw, .inl (gI g, 2, .inl f6)), (ktold, .inl (gI g, 2, .inl f7))]) (rV (As := []) (rest := []) (meth2 := "") hcx (c_X11_goOn ((by simp [hl_fs])) ((fs_ne (fs_ne (List.getElem?_set_self (by simp [hl_fs])) (by decide)) (by decide))) ((fs_ne (fs_ne (fs_ne (fs_ne (List.getElem?_set_self (by simp [hl_fs])) (by decide)) (by decide)) (by decide)) (by decide))) H.size) (gdV q25_22 q25_23 q26_0 q1_5 q26_1) dvX11_goOn ⟨Nat.le_of_ble_eq_true rfl, Nat.le_of_ble_eq_true rfl⟩ (hP.sub [2] rfl) (hD.sub [2] (by decide) rfl) (va_recv hK hP (ci := 11) (q0 := 2) rfl rfl) rfl hl.1 rfl (Nat.le_of_ble_eq_true rfl) dX11_town_71 ⟨Nat.le_of_ble_eq_true rfl, Nat.le_of_ble_eq_true rfl⟩) hP hD hS hA [2] [0, 1, 3, 4, 5, 6, 7, 8] rfl rfl (by decide) (by decide) (fun W' H locs hw hP hD hS => ?_)
  obtain rfl := hw
  have hP : va_P g.1 vwCl [(al, .inl (gI g, 24, .inl f_al)), (ib, .inl (gZ g, 3, .inl f_ib)), (kcorners, .inl (gI g, 2, .inl f2)), (kguilds, .inl (gI g, 2, .inl f3)), (kgusts, .inl (gI g, 2, .inl f4)), (kunits, .inl (gI g, 2, .inl f5)), (kdraw, .inl (gI g, 2, .inl f6)), (ktold, .inl (gI g, 2, .inl f7)), (h0, .inr (11, ((((((((((((fs.set 4 (.int 0)).set 5 (.int (-1))).set 3 (.int 0)).set 2 (.int 0)).set 7 (.int 0)).set 35 (.int 1)).set 36 (.int 560)).set 6 (.int 0)).set 7 (.int 1)).set 8 (.int 0)).set 6 (.int 0)).set 7 (.int 0))))] H := hP
  have hD : va_D A [(al, .inl (gI g, 24, .inl f_al)), (ib, .inl (gZ g, 3, .inl f_ib)), (kcorners, .inl (gI g, 2, .inl f2)), (kguilds, .inl (gI g, 2, .inl f3)), (kgusts, .inl (gI g, 2, .inl f4)), (kunits, .inl (gI g, 2, .inl f5)), (kdraw, .inl (gI g, 2, .inl f6)), (ktold, .inl (gI g, 2, .inl f7)), (h0, .inr (11, ((((((((((((fs.set 4 (.int 0)).set 5 (.int (-1))).set 3 (.int 0)).set 2 (.int 0)).set 7 (.int 0)).set 35 (.int 1)).set 36 (.int 560)).set 6 (.int 0)).set 7 (.int 1)).set 8 (.int 0)).set 6 (.int 0)).set 7 (.int 0))))] := hD
  refine lv_aload_n hx hb dX11_town_74 rfl (lv_at hl 1 rfl) ?_
  refine kI (wc := [(h0, .inr (11, ((((((((((((fs.set 4 (.int 0)).set 5 (.int (-1))).set 3 (.int 0)).set 2 (.int 0)).set 7 (.int 0)).set 35 (.int 1)).set 36 (.int 560)).set 6 (.int 0)).set 7 (.int 1)).set 8 (.int 0)).set 6 (.int 0)).set 7 (.int 0))))]) (wr := [(al, .inl (gI g, 24, .inl f_al)), (ib, .inl (gZ g, 3, .inl f_ib)), (kcorners, .inl (gI g, 2, .inl f2)), (kguilds, .inl (gI g, 2, .inl f3)), (kgusts, .inl (gI g, 2, .inl f4)), (kunits, .inl (gI g, 2, .inl f5)), (kdraw, .inl (gI g, 2, .inl f6)), (ktold, .inl (gI g, 2, .inl f7))]) (rV (As := []) (rest := []) (meth2 := "") hcx (c_X11_isGood ((by simp [hl_fs])) ((fs_ne (fs_ne (fs_ne (fs_ne (fs_ne (fs_ne (fs_ne (fs_ne (fs_ne (fs_ne (fs_ne (List.getElem?_set_self (by simp [hl_fs])) (by decide)) (by decide)) (by decide)) (by decide)) (by decide)) (by decide)) (by decide)) (by decide)) (by decide)) (by decide)) (by decide))) H.size) (gdV q27_15 q27_16 q27_17 q1_5 q27_18) dvX11_isGood ⟨Nat.le_of_ble_eq_true rfl, Nat.le_of_ble_eq_true rfl⟩ (hP.sub [8] rfl) (hD.sub [8] (by decide) rfl) (va_recv hK hP (ci := 11) (q0 := 8) rfl rfl) rfl hl.1 rfl (Nat.le_of_ble_eq_true rfl) dX11_town_75 ⟨Nat.le_of_ble_eq_true rfl, Nat.le_of_ble_eq_true rfl⟩) hP hD hS hA [8] [0, 1, 2, 3, 4, 5, 6, 7] rfl rfl (by decide) (by decide) (fun r W' H locs hw hP hD hS => ?_)
  obtain ⟨rfl, rfl⟩ := hw
  have hP : va_P g.1 vwCl [(al, .inl (gI g, 24, .inl f_al)), (ib, .inl (gZ g, 3, .inl f_ib)), (kcorners, .inl (gI g, 2, .inl f2)), (kguilds, .inl (gI g, 2, .inl f3)), (kgusts, .inl (gI g, 2, .inl f4)), (kunits, .inl (gI g, 2, .inl f5)), (kdraw, .inl (gI g, 2, .inl f6)), (ktold, .inl (gI g, 2, .inl f7)), (h0, .inr (11, ((((((((((((fs.set 4 (.int 0)).set 5 (.int (-1))).set 3 (.int 0)).set 2 (.int 0)).set 7 (.int 0)).set 35 (.int 1)).set 36 (.int 560)).set 6 (.int 0)).set 7 (.int 1)).set 8 (.int 0)).set 6 (.int 0)).set 7 (.int 0))))] H := hP
  have hD : va_D A [(al, .inl (gI g, 24, .inl f_al)), (ib, .inl (gZ g, 3, .inl f_ib)), (kcorners, .inl (gI g, 2, .inl f2)), (kguilds, .inl (gI g, 2, .inl f3)), (kgusts, .inl (gI g, 2, .inl f4)), (kunits, .inl (gI g, 2, .inl f5)), (kdraw, .inl (gI g, 2, .inl f6)), (ktold, .inl (gI g, 2, .inl f7)), (h0, .inr (11, ((((((((((((fs.set 4 (.int 0)).set 5 (.int (-1))).set 3 (.int 0)).set 2 (.int 0)).set 7 (.int 0)).set 35 (.int 1)).set 36 (.int 560)).set 6 (.int 0)).set 7 (.int 1)).set 8 (.int 0)).set 6 (.int 0)).set 7 (.int 0))))] := hD
  refine lv_if_eq (tgt := 95) hx hb dX11_town_78 (by decide) (fun c14 => absurd c14 (by decide)) (fun _ => ?_)
  refine lv_aload_n hx hb dX11_town_81 rfl (lv_at hl 1 rfl) ?_
  refine va_get (D := g.1) (ci := 11) (v := Value.int 0) (C := RX11) (T := TX11) (N := 69) hx hb hts inlX11 hown hK hP 8 rfl rfl 8 (by decide) (hts _ q25_21) (fun _ h9 => h9) (fs_ne (fs_ne (List.getElem?_set_self (by simp [hl_fs])) (by decide)) (by decide)) dX11_town_82 ?_
  refine lv_if_eq (tgt := 95) hx hb dX11_town_85 (by decide) (fun _ => ?_) (fun c15 => absurd (by decide) c15)
  refine lv_aload_n hx hb dX11_town_95 rfl (lv_at hl 1 rfl) ?_
  refine kI (wc := [(h0, .inr (11, ((((((((((((fs.set 4 (.int 0)).set 5 (.int (-1))).set 3 (.int 0)).set 2 (.int 0)).set 7 (.int 0)).set 35 (.int 1)).set 36 (.int 560)).set 6 (.int 0)).set 7 (.int 1)).set 8 (.int 0)).set 6 (.int 0)).set 7 (.int 0))))]) (wr := [(al, .inl (gI g, 24, .inl f_al)), (ib, .inl (gZ g, 3, .inl f_ib)), (kcorners, .inl (gI g, 2, .inl f2)), (kguilds, .inl (gI g, 2, .inl f3)), (kgusts, .inl (gI g, 2, .inl f4)), (kunits, .inl (gI g, 2, .inl f5)), (kdraw, .inl (gI g, 2, .inl f6)), (ktold, .inl (gI g, 2, .inl f7))]) (rV (As := []) (rest := []) (meth2 := "") hcx (c_X11_isGood ((by simp [hl_fs])) ((fs_ne (fs_ne (fs_ne (fs_ne (fs_ne (fs_ne (fs_ne (fs_ne (fs_ne (fs_ne (fs_ne (List.getElem?_set_self (by simp [hl_fs])) (by decide)) (by decide)) (by decide)) (by decide)) (by decide)) (by decide)) (by decide)) (by decide)) (by decide)) (by decide)) (by decide))) H.size) (gdV q27_15 q27_16 q27_17 q1_5 q27_18) dvX11_isGood ⟨Nat.le_of_ble_eq_true rfl, Nat.le_of_ble_eq_true rfl⟩ (hP.sub [8] rfl) (hD.sub [8] (by decide) rfl) (va_recv hK hP (ci := 11) (q0 := 8) rfl rfl) rfl hl.1 rfl (Nat.le_of_ble_eq_true rfl) dX11_town_96 ⟨Nat.le_of_ble_eq_true rfl, Nat.le_of_ble_eq_true rfl⟩) hP hD hS hA [8] [0, 1, 2, 3, 4, 5, 6, 7] rfl rfl (by decide) (by decide) (fun r W' H locs hw hP hD hS => ?_)
  obtain ⟨rfl, rfl⟩ := hw
  have hP : va_P g.1 vwCl [(al, .inl (gI g, 24, .inl f_al)), (ib, .inl (gZ g, 3, .inl f_ib)), (kcorners, .inl (gI g, 2, .inl f2)), (kguilds, .inl (gI g, 2, .inl f3)), (kgusts, .inl (gI g, 2, .inl f4)), (kunits, .inl (gI g, 2, .inl f5)), (kdraw, .inl (gI g, 2, .inl f6)), (ktold, .inl (gI g, 2, .inl f7)), (h0, .inr (11, ((((((((((((fs.set 4 (.int 0)).set 5 (.int (-1))).set 3 (.int 0)).set 2 (.int 0)).set 7 (.int 0)).set 35 (.int 1)).set 36 (.int 560)).set 6 (.int 0)).set 7 (.int 1)).set 8 (.int 0)).set 6 (.int 0)).set 7 (.int 0))))] H := hP
  have hD : va_D A [(al, .inl (gI g, 24, .inl f_al)), (ib, .inl (gZ g, 3, .inl f_ib)), (kcorners, .inl (gI g, 2, .inl f2)), (kguilds, .inl (gI g, 2, .inl f3)), (kgusts, .inl (gI g, 2, .inl f4)), (kunits, .inl (gI g, 2, .inl f5)), (kdraw, .inl (gI g, 2, .inl f6)), (ktold, .inl (gI g, 2, .inl f7)), (h0, .inr (11, ((((((((((((fs.set 4 (.int 0)).set 5 (.int (-1))).set 3 (.int 0)).set 2 (.int 0)).set 7 (.int 0)).set 35 (.int 1)).set 36 (.int 560)).set 6 (.int 0)).set 7 (.int 1)).set 8 (.int 0)).set 6 (.int 0)).set 7 (.int 0))))] := hD
  refine lv_if_ne (tgt := 104) hx hb dX11_town_99 (by decide) (fun _ => ?_) (fun c16 => absurd c16 (by decide))
  refine lv_aload_n hx hb dX11_town_104 rfl (lv_at hl 1 rfl) ?_
  refine lv_aload_n hx hb dX11_town_105 rfl (lv_at hl 1 rfl) ?_
  refine va_get (D := g.1) (ci := 11) (v := Value.int 1) (C := RX11) (T := TX11) (N := 69) hx hb hts inlX11 hown hK hP 8 rfl rfl 35 (by decide) (hts _ q14_15) (fun _ h9 => h9) (fs_ne (fs_ne (fs_ne (fs_ne (fs_ne (fs_ne (List.getElem?_set_self (by simp [hl_fs])) (by decide)) (by decide)) (by decide)) (by decide)) (by decide)) (by decide)) dX11_town_106 ?_
  refine va_put (D := g.1) (ci := 11) (v := Value.int 1) (ty := .int) (C := RX11) (T := TX11) (N := 69) hx hb hts inlX11 tyX11 tyX11_ok nmX11 hown hK hP hD hS 8 rfl rfl 34 (by decide) (hts _ q14_21) (fun _ h9 => h9) rfl (by decide +kernel) rfl rfl (by simp [hl_fs]) dX11_town_109 (fun H locs hP hD hS => ?_)
  have hP : va_P g.1 vwCl [(al, .inl (gI g, 24, .inl f_al)), (ib, .inl (gZ g, 3, .inl f_ib)), (kcorners, .inl (gI g, 2, .inl f2)), (kguilds, .inl (gI g, 2, .inl f3)), (kgusts, .inl (gI g, 2, .inl f4)), (kunits, .inl (gI g, 2, .inl f5)), (kdraw, .inl (gI g, 2, .inl f6)), (ktold, .inl (gI g, 2, .inl f7)), (h0, .inr (11, (((((((((((((fs.set 4 (.int 0)).set 5 (.int (-1))).set 3 (.int 0)).set 2 (.int 0)).set 7 (.int 0)).set 35 (.int 1)).set 36 (.int 560)).set 6 (.int 0)).set 7 (.int 1)).set 8 (.int 0)).set 6 (.int 0)).set 7 (.int 0)).set 34 (.int 1))))] H := hP
  have hD : va_D A [(al, .inl (gI g, 24, .inl f_al)), (ib, .inl (gZ g, 3, .inl f_ib)), (kcorners, .inl (gI g, 2, .inl f2)), (kguilds, .inl (gI g, 2, .inl f3)), (kgusts, .inl (gI g, 2, .inl f4)), (kunits, .inl (gI g, 2, .inl f5)), (kdraw, .inl (gI g, 2, .inl f6)), (ktold, .inl (gI g, 2, .inl f7)), (h0, .inr (11, (((((((((((((fs.set 4 (.int 0)).set 5 (.int (-1))).set 3 (.int 0)).set 2 (.int 0)).set 7 (.int 0)).set 35 (.int 1)).set 36 (.int 560)).set 6 (.int 0)).set 7 (.int 1)).set 8 (.int 0)).set 6 (.int 0)).set 7 (.int 0)).set 34 (.int 1))))] := hD
  refine lv_aload_n hx hb dX11_town_112 rfl (lv_at hl 1 rfl) ?_
  refine kV (wc := [(h0, .inr (11, (((((((((((((fs.set 4 (.int 0)).set 5 (.int (-1))).set 3 (.int 0)).set 2 (.int 0)).set 7 (.int 0)).set 35 (.int 1)).set 36 (.int 560)).set 6 (.int 0)).set 7 (.int 1)).set 8 (.int 0)).set 6 (.int 0)).set 7 (.int 0)).set 34 (.int 1)))), (al, .inl (gI g, 24, .inl f_al)), (kguilds, .inl (gI g, 2, .inl f3)), (kdraw, .inl (gI g, 2, .inl f6)), (ib, .inl (gZ g, 3, .inl f_ib))]) (wr := [(kcorners, .inl (gI g, 2, .inl f2)), (kgusts, .inl (gI g, 2, .inl f4)), (kunits, .inl (gI g, 2, .inl f5)), (ktold, .inl (gI g, 2, .inl f7))]) (rV (As := []) (rest := []) (meth2 := "") hcx (c_X11_startAnew_1 ((by simp [hl_fs])) ((fs_ne (fs_ne (fs_ne (fs_ne (fs_ne (fs_ne (fs_ne (fs_ne (fs_ne (fs_ne (fs_ne (fs_ne (fs_ne h_fs_all (by decide)) (by decide)) (by decide)) (by decide)) (by decide)) (by decide)) (by decide)) (by decide)) (by decide)) (by decide)) (by decide)) (by decide)) (by decide))) ((List.getElem?_set_self (by simp [hl_fs]))) ((fs_ne (fs_ne (fs_ne (fs_ne (fs_ne (fs_ne (fs_ne (fs_ne (fs_ne (fs_ne (fs_ne (fs_ne (fs_ne h_fs_guilds (by decide)) (by decide)) (by decide)) (by decide)) (by decide)) (by decide)) (by decide)) (by decide)) (by decide)) (by decide)) (by decide)) (by decide)) (by decide))) ((fs_ne (fs_ne (fs_ne (fs_ne (fs_ne (fs_ne (fs_ne (fs_ne (fs_ne (fs_ne (fs_ne (fs_ne (fs_ne h_fs_draw (by decide)) (by decide)) (by decide)) (by decide)) (by decide)) (by decide)) (by decide)) (by decide)) (by decide)) (by decide)) (by decide)) (by decide)) (by decide))) ((fs_ne (fs_ne (fs_ne (fs_ne (fs_ne (fs_ne (fs_ne (fs_ne (fs_ne (fs_ne (fs_ne (fs_ne (fs_ne h_fs_isBoxed (by decide)) (by decide)) (by decide)) (by decide)) (by decide)) (by decide)) (by decide)) (by decide)) (by decide)) (by decide)) (by decide)) (by decide)) (by decide))) (hf9) (hf12) H.size) (gdV q14_17 q14_18 q14_19 q1_5 q14_20) dvX11_startAnew ⟨Nat.le_of_ble_eq_true rfl, Nat.le_of_ble_eq_true rfl⟩ (hP.sub [8, 0, 3, 6, 1] rfl) (hD.sub [8, 0, 3, 6, 1] (by decide) rfl) (va_recv hK hP (ci := 11) (q0 := 8) rfl rfl) rfl hl.1 rfl (Nat.le_of_ble_eq_true rfl) dX11_town_113 ⟨Nat.le_of_ble_eq_true rfl, Nat.le_of_ble_eq_true rfl⟩) hP hD hS hA [8, 0, 3, 6, 1] [2, 4, 5, 7] rfl rfl (by decide) (by decide) (fun W' H locs hw hP hD hS => ?_)
  obtain ⟨f17, f18, rfl, hf19, hf20, hf21, hf22, hf23, hf24, hf25⟩ := hw
  have hP : va_P g.1 vwCl [(kcorners, .inl (gI g, 2, .inl f2)), (kgusts, .inl (gI g, 2, .inl f4)), (kunits, .inl (gI g, 2, .inl f5)), (ktold, .inl (gI g, 2, .inl f7)), (h0, .inr (11, (((((((((((((((((fs.set 4 (.int 0)).set 5 (.int (-1))).set 3 (.int 0)).set 2 (.int 0)).set 7 (.int 0)).set 35 (.int 1)).set 36 (.int 560)).set 6 (.int 0)).set 7 (.int 1)).set 8 (.int 0)).set 6 (.int 0)).set 7 (.int 0)).set 34 (.int 1)).set 49 (.int 0)).set 50 (.int 0)).set 65 (.int 0)).set 54 (.int 0)))), (al, .inl (gI g, 24, .inl f17)), (kguilds, .inl (gI g, 2, .inl f3)), (kdraw, .inl (gI g, 2, .inl f6)), (ib, .inl (gZ g, 3, .inl f18))] H := hP
  have hD : va_D A [(kcorners, .inl (gI g, 2, .inl f2)), (kgusts, .inl (gI g, 2, .inl f4)), (kunits, .inl (gI g, 2, .inl f5)), (ktold, .inl (gI g, 2, .inl f7)), (h0, .inr (11, (((((((((((((((((fs.set 4 (.int 0)).set 5 (.int (-1))).set 3 (.int 0)).set 2 (.int 0)).set 7 (.int 0)).set 35 (.int 1)).set 36 (.int 560)).set 6 (.int 0)).set 7 (.int 1)).set 8 (.int 0)).set 6 (.int 0)).set 7 (.int 0)).set 34 (.int 1)).set 49 (.int 0)).set 50 (.int 0)).set 65 (.int 0)).set 54 (.int 0)))), (al, .inl (gI g, 24, .inl f17)), (kguilds, .inl (gI g, 2, .inl f3)), (kdraw, .inl (gI g, 2, .inl f6)), (ib, .inl (gZ g, 3, .inl f18))] := hD
  refine lv_aload_n hx hb dX11_town_116 rfl (lv_at hl 1 rfl) ?_
  refine va_get (D := g.1) (ci := 11) (v := Value.ref kguilds) (C := RX11) (T := TX11) (N := 69) hx hb hts inlX11 hown hK hP 4 rfl rfl 12 (by decide) (hts _ q12_19) (fun _ h9 => h9) (fs_ne (fs_ne (fs_ne (fs_ne (fs_ne (fs_ne (fs_ne (fs_ne (fs_ne (fs_ne (fs_ne (fs_ne (fs_ne (fs_ne (fs_ne (fs_ne (fs_ne h_fs_guilds (by decide)) (by decide)) (by decide)) (by decide)) (by decide)) (by decide)) (by decide)) (by decide)) (by decide)) (by decide)) (by decide)) (by decide)) (by decide)) (by decide)) (by decide)) (by decide)) (by decide)) dX11_town_117 ?_
  refine lv_aload_n hx hb dX11_town_120 rfl (lv_at hl 1 rfl) ?_
  refine va_get (D := g.1) (ci := 11) (v := Value.int 1) (C := RX11) (T := TX11) (N := 69) hx hb hts inlX11 hown hK hP 4 rfl rfl 34 (by decide) (hts _ q14_21) (fun _ h9 => h9) (fs_ne (fs_ne (fs_ne (fs_ne (List.getElem?_set_self (by simp [hl_fs])) (by decide)) (by decide)) (by decide)) (by decide)) dX11_town_121 ?_
  refine ia_ld hx hb hK hP 6 1 rfl rfl (1) rfl (by decide) (by decide) dX11_town_124 ?_
  refine lv_tope (y := 0) hf9 ?_
  have hP9 : va_P g.1 vwCl [] H := hP.sub [] rfl
  have hD9 : va_D A [] := hD.sub [] (by decide) rfl
  exact xi hx hb hr hlocks rfl hP9 hD9 hS ⟨rfl, rfl⟩ (Nat.le_of_ble_eq_true rfl) (Nat.le_of_ble_eq_true rfl) dX11_town_125
