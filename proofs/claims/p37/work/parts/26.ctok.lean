set_option maxHeartbeats 4000000 in
set_option maxRecDepth 100000 in
theorem c_X8_isBlank {l : Launch} {g : Gx} {p0 : Int32} : MI l g yX8_isBlank cX8_isBlank 1 (some .boolean) 2 0 0 [.int p0] [] (fun r W' => (∃ m : Nat, m ≤ 1 ∧ nI m = r) ∧ W' = []) := by
  refine MIof (by decide) (Nat.le_of_ble_eq_true rfl) ?_
  intro p e s m below meth c A ls H locs hcx hA hP hD hS hl
  obtain ⟨hx, hb, hml, hr, hlocks, hown, hts, hE, hnm⟩ := id hcx
  have hown : s.vm.findClass RX8 = some m.cls := hown
  have hK := hE.1
  have hl : lv_has ls 1 [(0, .int p0)] := hl
  refine lv_iload_n hx hb dX8_isBlank_0 rfl (lv_at hl 0 rfl) ?_
  refine lv_bipush (v := 32) hx hb dX8_isBlank_1 (by decide) ?_
  refine lv_icmp_eq (tgt := 12) hx hb dX8_isBlank_3 (by decide) (fun c1 => ?_) (fun c1 => ?_)
  · refine lv_iconst (v := 1) hx hb dX8_isBlank_12 (by decide) ?_
    refine lv_goto (tgt := 17) hx hb dX8_isBlank_13 (by decide) ?_
    exact xi hx hb hr hlocks rfl hP hD hS ⟨⟨1, by omega, rfl⟩, rfl⟩ (Nat.le_of_ble_eq_true rfl) (Nat.le_of_ble_eq_true rfl) dX8_isBlank_17
  · refine lv_iload_n hx hb dX8_isBlank_6 rfl (lv_at hl 0 rfl) ?_
    refine lv_bipush (v := 10) hx hb dX8_isBlank_7 (by decide) ?_
    refine lv_icmp_ne (tgt := 16) hx hb dX8_isBlank_9 (by decide) (fun c2 => ?_) (fun c2 => ?_)
    · refine lv_iconst (v := 0) hx hb dX8_isBlank_16 (by decide) ?_
      exact xi hx hb hr hlocks rfl hP hD hS ⟨⟨0, by omega, rfl⟩, rfl⟩ (Nat.le_of_ble_eq_true rfl) (Nat.le_of_ble_eq_true rfl) dX8_isBlank_17
    · refine lv_iconst (v := 1) hx hb dX8_isBlank_12 (by decide) ?_
      refine lv_goto (tgt := 17) hx hb dX8_isBlank_13 (by decide) ?_
      exact xi hx hb hr hlocks rfl hP hD hS ⟨⟨1, by omega, rfl⟩, rfl⟩ (Nat.le_of_ble_eq_true rfl) (Nat.le_of_ble_eq_true rfl) dX8_isBlank_17

set_option maxHeartbeats 4000000 in
set_option maxRecDepth 100000 in
theorem c_X8_isLetter {l : Launch} {g : Gx} {p0 : Int32} : MI l g yX8_isLetter cX8_isLetter 1 (some .boolean) 2 0 0 [.int p0] [] (fun r W' => (∃ m : Nat, m ≤ 1 ∧ nI m = r) ∧ W' = []) := by
  refine MIof (by decide) (Nat.le_of_ble_eq_true rfl) ?_
  intro p e s m below meth c A ls H locs hcx hA hP hD hS hl
  obtain ⟨hx, hb, hml, hr, hlocks, hown, hts, hE, hnm⟩ := id hcx
  have hown : s.vm.findClass RX8 = some m.cls := hown
  have hK := hE.1
  have hl : lv_has ls 1 [(0, .int p0)] := hl
  refine lv_iload_n hx hb dX8_isLetter_0 rfl (lv_at hl 0 rfl) ?_
  refine lv_bipush (v := 97) hx hb dX8_isLetter_1 (by decide) ?_
  refine lv_icmp_lt (tgt := 16) hx hb dX8_isLetter_3 (by decide) (fun c1 => ?_) (fun c1 => ?_)
  · refine lv_iconst (v := 0) hx hb dX8_isLetter_16 (by decide) ?_
    exact xi hx hb hr hlocks rfl hP hD hS ⟨⟨0, by omega, rfl⟩, rfl⟩ (Nat.le_of_ble_eq_true rfl) (Nat.le_of_ble_eq_true rfl) dX8_isLetter_17
  · refine lv_iload_n hx hb dX8_isLetter_6 rfl (lv_at hl 0 rfl) ?_
    refine lv_bipush (v := 122) hx hb dX8_isLetter_7 (by decide) ?_
    refine lv_icmp_gt (tgt := 16) hx hb dX8_isLetter_9 (by decide) (fun c2 => ?_) (fun c2 => ?_)
    · refine lv_iconst (v := 0) hx hb dX8_isLetter_16 (by decide) ?_
      exact xi hx hb hr hlocks rfl hP hD hS ⟨⟨0, by omega, rfl⟩, rfl⟩ (Nat.le_of_ble_eq_true rfl) (Nat.le_of_ble_eq_true rfl) dX8_isLetter_17
    · refine lv_iconst (v := 1) hx hb dX8_isLetter_12 (by decide) ?_
      refine lv_goto (tgt := 17) hx hb dX8_isLetter_13 (by decide) ?_
      exact xi hx hb hr hlocks rfl hP hD hS ⟨⟨1, by omega, rfl⟩, rfl⟩ (Nat.le_of_ble_eq_true rfl) (Nat.le_of_ble_eq_true rfl) dX8_isLetter_17

set_option maxHeartbeats 4000000 in
set_option maxRecDepth 100000 in
theorem c_X8_isDigit {l : Launch} {g : Gx} {p0 : Int32} : MI l g yX8_isDigit cX8_isDigit 1 (some .boolean) 2 0 0 [.int p0] [] (fun r W' => (∃ m : Nat, m ≤ 1 ∧ nI m = r) ∧ W' = []) := by
  refine MIof (by decide) (Nat.le_of_ble_eq_true rfl) ?_
  intro p e s m below meth c A ls H locs hcx hA hP hD hS hl
  obtain ⟨hx, hb, hml, hr, hlocks, hown, hts, hE, hnm⟩ := id hcx
  have hown : s.vm.findClass RX8 = some m.cls := hown
  have hK := hE.1
  have hl : lv_has ls 1 [(0, .int p0)] := hl
  refine lv_iload_n hx hb dX8_isDigit_0 rfl (lv_at hl 0 rfl) ?_
  refine lv_bipush (v := 48) hx hb dX8_isDigit_1 (by decide) ?_
  refine lv_icmp_lt (tgt := 16) hx hb dX8_isDigit_3 (by decide) (fun c1 => ?_) (fun c1 => ?_)
  · refine lv_iconst (v := 0) hx hb dX8_isDigit_16 (by decide) ?_
    exact xi hx hb hr hlocks rfl hP hD hS ⟨⟨0, by omega, rfl⟩, rfl⟩ (Nat.le_of_ble_eq_true rfl) (Nat.le_of_ble_eq_true rfl) dX8_isDigit_17
  · refine lv_iload_n hx hb dX8_isDigit_6 rfl (lv_at hl 0 rfl) ?_
    refine lv_bipush (v := 57) hx hb dX8_isDigit_7 (by decide) ?_
    refine lv_icmp_gt (tgt := 16) hx hb dX8_isDigit_9 (by decide) (fun c2 => ?_) (fun c2 => ?_)
    · refine lv_iconst (v := 0) hx hb dX8_isDigit_16 (by decide) ?_
      exact xi hx hb hr hlocks rfl hP hD hS ⟨⟨0, by omega, rfl⟩, rfl⟩ (Nat.le_of_ble_eq_true rfl) (Nat.le_of_ble_eq_true rfl) dX8_isDigit_17
    · refine lv_iconst (v := 1) hx hb dX8_isDigit_12 (by decide) ?_
      refine lv_goto (tgt := 17) hx hb dX8_isDigit_13 (by decide) ?_
      exact xi hx hb hr hlocks rfl hP hD hS ⟨⟨1, by omega, rfl⟩, rfl⟩ (Nat.le_of_ble_eq_true rfl) (Nat.le_of_ble_eq_true rfl) dX8_isDigit_17

set_option maxHeartbeats 4000000 in
set_option maxRecDepth 100000 in
theorem c_X8_withLetter {l : Launch} {g : Gx} {p0 : Int64} {p1 : Int32} : ML l g yX8_withLetter cX8_withLetter 3 (some .long) 2 0 0 [.long p0, .int p1] [] (fun r W' => True ∧ W' = []) := by
  refine MLof (by decide) (Nat.le_of_ble_eq_true rfl) ?_
  intro p e s m below meth c A ls H locs hcx hA hP hD hS hl
  obtain ⟨hx, hb, hml, hr, hlocks, hown, hts, hE, hnm⟩ := id hcx
  have hown : s.vm.findClass RX8 = some m.cls := hown
  have hK := hE.1
  have hl : lv_has ls 3 [(0, .long p0), (2, .int p1)] := hl
  refine lv_lload_n hx hb dX8_withLetter_0 rfl (lv_at hl 0 rfl) ?_
  refine lv_ldc2 hx hb hown (hts _ q5_21) dX8_withLetter_1 ?_
  refine lv_lmul hx hb dX8_withLetter_4 ?_
  refine lv_topl (fun x1 ex1 => ?_)
  refine lv_iload_n hx hb dX8_withLetter_5 rfl (lv_at hl 1 rfl) ?_
  refine lv_bipush (v := 97) hx hb dX8_withLetter_6 (by decide) ?_
  refine lv_isub hx hb dX8_withLetter_8 ?_
  refine lv_topi (fun x2 ex2 => ?_)
  refine lv_iconst (v := 1) hx hb dX8_withLetter_9 (by decide) ?_
  refine lv_iadd hx hb dX8_withLetter_10 ?_
  refine lv_topi (fun x3 ex3 => ?_)
  refine lv_i2l hx hb dX8_withLetter_11 rfl ?_
  refine lv_topl (fun x4 ex4 => ?_)
  refine lv_ladd hx hb dX8_withLetter_12 ?_
  refine lv_topl (fun x5 ex5 => ?_)
  exact xl hx hb hr hlocks hP hD hS ⟨trivial, rfl⟩ (Nat.le_of_ble_eq_true rfl) (Nat.le_of_ble_eq_true rfl) dX8_withLetter_13

set_option maxHeartbeats 4000000 in
set_option maxRecDepth 100000 in
theorem c_X8_wordSpelled {l : Launch} {g : Gx} {h0 sp : Nat} {h0_bytes : Value} {h0_length : Int32} {h0_at : Int32} {h0_kind : Int32} {h0_start : Int32} {h0_word : Int32} {h0_spelling : Int64} {h0_number : Int32} {h0_sign : Int32} {f_sp : Nat → Int64} {p0 : Int64} : MI l g yX8_wordSpelled cX8_wordSpelled 4 (some .int) 2 0 0 [.ref h0, .long p0] [(h0, .inr (8, [.ref sp, h0_bytes, .int h0_length, .int h0_at, .int h0_kind, .int h0_start, .int h0_word, .long h0_spelling, .int h0_number, .int h0_sign])), (sp, .inl (gJ g, 18, .inr (.inl f_sp)))] (fun r W' => XM 17 r ∧ W' = [(h0, .inr (8, [.ref sp, h0_bytes, .int h0_length, .int h0_at, .int h0_kind, .int h0_start, .int h0_word, .long h0_spelling, .int h0_number, .int h0_sign])), (sp, .inl (gJ g, 18, .inr (.inl f_sp)))]) := by
  refine MIof (by decide) (Nat.le_of_ble_eq_true rfl) ?_
  intro p e s m below meth c A ls H locs hcx hA hP hD hS hl
  obtain ⟨hx, hb, hml, hr, hlocks, hown, hts, hE, hnm⟩ := id hcx
  have hown : s.vm.findClass RX8 = some m.cls := hown
  have hK := hE.1
  have hl : lv_has ls 4 [(0, .ref h0), (1, .long p0)] := hl
  refine lv_iconst (v := 0) hx hb dX8_wordSpelled_0 (by decide) ?_
  refine lv_istore_n (lv' := [(3, .int 0), (0, .ref h0), (1, .long p0)]) hx hb dX8_wordSpelled_1 rfl hl (by decide) rfl (fun ls hl => ?_)
  have loop2 : ∀ (n : Nat) (H : Heap) (locs : List Loc) (ls : Array Slot) (v1 : Nat), (v1 ≤ 18) → (18) + 1 - v1 < n → va_P g.1 vwCl [(h0, .inr (8, [.ref sp, h0_bytes, .int h0_length, .int h0_at, .int h0_kind, .int h0_start, .int h0_word, .long h0_spelling, .int h0_number, .int h0_sign])), (sp, .inl (gJ g, 18, .inr (.inl f_sp)))] H → va_D A [(h0, .inr (8, [.ref sp, h0_bytes, .int h0_length, .int h0_at, .int h0_kind, .int h0_start, .int h0_word, .long h0_spelling, .int h0_number, .int h0_sign])), (sp, .inl (gJ g, 18, .inr (.inl f_sp)))] → va_S A s.heap H locs → lv_has ls 4 [(3, .int (nI v1)), (0, .ref h0), (1, .long p0)] → W p l e (rmD 2 0 0) s m ([Value.ref h0, Value.long p0] : List Value).toArray below meth c H locs 0 0 (MQ below (QI g A (fun r W' => XM 17 r ∧ W' = [(h0, .inr (8, [.ref sp, h0_bytes, .int h0_length, .int h0_at, .int h0_kind, .int h0_start, .int h0_word, .long h0_spelling, .int h0_number, .int h0_sign])), (sp, .inl (gJ g, 18, .inr (.inl f_sp)))])) ([Value.ref h0, Value.long p0] : List Value).toArray s 0 0 A) (F0 m 2 ls []) := by
    intro n
    induction n with
    | zero => intro H locs ls v1 hv1 hmloop2; exact absurd hmloop2 (Nat.not_lt_zero _)
    | succ n ihloop2 =>
      intro H locs ls v1 hv1 hmloop2 hP hD hS hl
      refine lv_iload_n hx hb dX8_wordSpelled_2 rfl (lv_at hl 0 rfl) ?_
      refine lv_bipush (v := 18) hx hb dX8_wordSpelled_3 (by decide) ?_
      refine lv_icmp_ge (tgt := 27) hx hb dX8_wordSpelled_5 (by decide) (fun c3 => ?_) (fun c3 => ?_)
      · have hn4 := nle (a := 18) (b := v1) (by omega) (by omega) c3
        refine lv_iconst (v := (-1)) hx hb dX8_wordSpelled_27 (by decide) ?_
        exact xi hx hb hr hlocks rfl hP hD hS ⟨XM_m1, rfl⟩ (Nat.le_of_ble_eq_true rfl) (Nat.le_of_ble_eq_true rfl) dX8_wordSpelled_28
      · have hn5 := nnle (a := 18) (b := v1) (by omega) (by omega) c3
        refine lv_aload_n hx hb dX8_wordSpelled_8 rfl (lv_at hl 1 rfl) ?_
        refine va_get (D := g.1) (ci := 8) (v := Value.ref sp) (C := RX8) (T := TX8) (N := 10) hx hb hts inlX8 hown hK hP 0 rfl rfl 0 (by decide) (hts _ q3_15) (fun _ h9 => h9) rfl dX8_wordSpelled_9 ?_
        refine lv_iload_n hx hb dX8_wordSpelled_12 rfl (lv_at hl 0 rfl) ?_
        refine la_ld hx hb hK hP 1 2 rfl rfl (v1) rfl (by omega) (by decide) dX8_wordSpelled_13 ?_
        refine lv_topl (fun x6 ex6 => ?_)
        refine lv_lload_n hx hb dX8_wordSpelled_14 rfl (lv_at hl 2 rfl) ?_
        refine W.lcmp hx hb dX8_wordSpelled_15 ?_
        refine lv_topi (fun x7 ex7 => ?_)
        refine lv_if_ne (tgt := 21) hx hb dX8_wordSpelled_16 (by decide) (fun c8 => ?_) (fun c8 => ?_)
        · refine lv_iinc (v := (nI (v1 + 1))) (lv' := [(3, .int (nI (v1 + 1))), (0, .ref h0), (1, .long p0)]) hx hb dX8_wordSpelled_21 hl (k := 0) rfl (nI_1 _) (by decide) rfl (fun ls hl => ?_)
          refine lv_goto (tgt := 2) hx hb dX8_wordSpelled_24 (by decide) ?_
          exact ihloop2 H locs ls (v1 + 1) (by omega) (by omega) hP hD hS (lv_sub hl [0, 1, 2] rfl)
        · refine lv_iload_n hx hb dX8_wordSpelled_19 rfl (lv_at hl 0 rfl) ?_
          exact xi hx hb hr hlocks rfl hP hD hS ⟨(XM_n (m := v1) (by omega)), rfl⟩ (Nat.le_of_ble_eq_true rfl) (Nat.le_of_ble_eq_true rfl) dX8_wordSpelled_20
  exact loop2 _ H locs ls (0) (by omega) (Nat.lt_succ_self _) hP hD hS hl

set_option maxHeartbeats 4000000 in
set_option maxRecDepth 100000 in
theorem c_X8_takeLetters {l : Launch} {g : Gx} {h0 tp sp : Nat} {h0_length : Nat} {h0_at : Nat} {h0_kind : Int32} {h0_start : Int32} {h0_word : Int32} {h0_spelling : Int64} {h0_number : Int32} {h0_sign : Int32} {f_tp : Nat → Int32} {f_sp : Nat → Int64} (hb_h0_length : h0_length ≤ 1600) (hb_h0_at : h0_at ≤ 1600) (hb_h0_word : XM 17 h0_word) : MV l g yX8_takeLetters cX8_takeLetters 1 3 0 0 [.ref h0] [(h0, .inr (8, [.ref sp, .ref tp, .int (nI h0_length), .int (nI h0_at), .int h0_kind, .int h0_start, .int h0_word, .long h0_spelling, .int h0_number, .int h0_sign])), (tp, .inl (gB g, 1600, .inl f_tp)), (sp, .inl (gJ g, 18, .inr (.inl f_sp)))] (fun W' => ∃ (z0 : Nat) (z1 : Int32) (z2 : Int32) (z3 : Int64), W' = [(h0, .inr (8, [.ref sp, .ref tp, .int (nI h0_length), .int (nI z0), .int z1, .int h0_start, .int z2, .long z3, .int h0_number, .int h0_sign])), (tp, .inl (gB g, 1600, .inl f_tp)), (sp, .inl (gJ g, 18, .inr (.inl f_sp)))] ∧ z0 ≤ 1600 ∧ XM 17 z2) := by
  refine MVof (by decide) (Nat.le_of_ble_eq_true rfl) ?_
  intro p e s m below meth c A ls H locs hcx hA hP hD hS hl
  obtain ⟨hx, hb, hml, hr, hlocks, hown, hts, hE, hnm⟩ := id hcx
  have hown : s.vm.findClass RX8 = some m.cls := hown
  have hK := hE.1
  have hl : lv_has ls 1 [(0, .ref h0)] := hl
  refine lv_aload_n hx hb dX8_takeLetters_0 rfl (lv_at hl 0 rfl) ?_
  refine lv_lconst (v := 0) hx hb dX8_takeLetters_1 (by decide) ?_
  refine va_put (D := g.1) (ci := 8) (v := Value.long 0) (ty := .long) (C := RX8) (T := TX8) (N := 10) hx hb hts inlX8 tyX8 tyX8_ok nmX8 hown hK hP hD hS 0 rfl rfl 7 (by decide) (hts _ q18_3) (fun _ h9 => h9) rfl (by decide +kernel) rfl rfl (Nat.le_of_ble_eq_true rfl) dX8_takeLetters_2 (fun H locs hP hD hS => ?_)
  have hP : va_P g.1 vwCl [(h0, .inr (8, [.ref sp, .ref tp, .int (nI h0_length), .int (nI h0_at), .int h0_kind, .int h0_start, .int h0_word, .long 0, .int h0_number, .int h0_sign])), (tp, .inl (gB g, 1600, .inl f_tp)), (sp, .inl (gJ g, 18, .inr (.inl f_sp)))] H := hP
  have hD : va_D A [(h0, .inr (8, [.ref sp, .ref tp, .int (nI h0_length), .int (nI h0_at), .int h0_kind, .int h0_start, .int h0_word, .long 0, .int h0_number, .int h0_sign])), (tp, .inl (gB g, 1600, .inl f_tp)), (sp, .inl (gJ g, 18, .inr (.inl f_sp)))] := hD
  have loop3 : ∀ (n : Nat) (H : Heap) (locs : List Loc) (ls : Array Slot) (v1 : Nat) (v2 : Int64), (v1 ≤ 1600) → 1601 - v1 < n → va_P g.1 vwCl [(h0, .inr (8, [.ref sp, .ref tp, .int (nI h0_length), .int (nI v1), .int h0_kind, .int h0_start, .int h0_word, .long v2, .int h0_number, .int h0_sign])), (tp, .inl (gB g, 1600, .inl f_tp)), (sp, .inl (gJ g, 18, .inr (.inl f_sp)))] H → va_D A [(h0, .inr (8, [.ref sp, .ref tp, .int (nI h0_length), .int (nI v1), .int h0_kind, .int h0_start, .int h0_word, .long v2, .int h0_number, .int h0_sign])), (tp, .inl (gB g, 1600, .inl f_tp)), (sp, .inl (gJ g, 18, .inr (.inl f_sp)))] → va_S A s.heap H locs → lv_has ls 1 [(0, .ref h0)] → W p l e (rmD 3 0 0) s m ([Value.ref h0] : List Value).toArray below meth c H locs 0 0 (MQ below (QV g A (fun W' => ∃ (z0 : Nat) (z1 : Int32) (z2 : Int32) (z3 : Int64), W' = [(h0, .inr (8, [.ref sp, .ref tp, .int (nI h0_length), .int (nI z0), .int z1, .int h0_start, .int z2, .long z3, .int h0_number, .int h0_sign])), (tp, .inl (gB g, 1600, .inl f_tp)), (sp, .inl (gJ g, 18, .inr (.inl f_sp)))] ∧ z0 ≤ 1600 ∧ XM 17 z2)) ([Value.ref h0] : List Value).toArray s 0 0 A) (F0 m 5 ls []) := by
    intro n
    induction n with
    | zero => intro H locs ls v1 v2 hv1 hmloop3; exact absurd hmloop3 (Nat.not_lt_zero _)
    | succ n ihloop3 =>
      intro H locs ls v1 v2 hv1 hmloop3 hP hD hS hl
      refine lv_aload_n hx hb dX8_takeLetters_5 rfl (lv_at hl 0 rfl) ?_
      refine va_get (D := g.1) (ci := 8) (v := Value.int (nI v1)) (C := RX8) (T := TX8) (N := 10) hx hb hts inlX8 hown hK hP 0 rfl rfl 3 (by decide) (hts _ q17_9) (fun _ h9 => h9) rfl dX8_takeLetters_6 ?_
      refine lv_aload_n hx hb dX8_takeLetters_9 rfl (lv_at hl 0 rfl) ?_
      refine va_get (D := g.1) (ci := 8) (v := Value.int (nI h0_length)) (C := RX8) (T := TX8) (N := 10) hx hb hts inlX8 hown hK hP 0 rfl rfl 2 (by decide) (hts _ q17_8) (fun _ h9 => h9) rfl dX8_takeLetters_10 ?_
      refine lv_icmp_ge (tgt := 64) hx hb dX8_takeLetters_13 (by decide) (fun c4 => ?_) (fun c4 => ?_)
      · have hn5 := nle (a := h0_length) (b := v1) (by omega) (by omega) c4
        refine lv_aload_n hx hb dX8_takeLetters_64 rfl (lv_at hl 0 rfl) ?_
        refine lv_aload_n hx hb dX8_takeLetters_65 rfl (lv_at hl 0 rfl) ?_
        refine va_get (D := g.1) (ci := 8) (v := Value.int (nI v1)) (C := RX8) (T := TX8) (N := 10) hx hb hts inlX8 hown hK hP 0 rfl rfl 3 (by decide) (hts _ q17_9) (fun _ h9 => h9) rfl dX8_takeLetters_66 ?_
        refine lv_aload_n hx hb dX8_takeLetters_69 rfl (lv_at hl 0 rfl) ?_
        refine va_get (D := g.1) (ci := 8) (v := Value.int h0_start) (C := RX8) (T := TX8) (N := 10) hx hb hts inlX8 hown hK hP 0 rfl rfl 5 (by decide) (hts _ q17_14) (fun _ h9 => h9) rfl dX8_takeLetters_70 ?_
        refine lv_isub hx hb dX8_takeLetters_73 ?_
        refine lv_topi (fun x6 ex6 => ?_)
        refine lv_bipush (v := 8) hx hb dX8_takeLetters_74 (by decide) ?_
        refine lv_icmp_le (tgt := 83) hx hb dX8_takeLetters_76 (by decide) (fun c7 => ?_) (fun c7 => ?_)
        · refine lv_iconst (v := 1) hx hb dX8_takeLetters_83 (by decide) ?_
          refine va_put (D := g.1) (ci := 8) (v := Value.int 1) (ty := .int) (C := RX8) (T := TX8) (N := 10) hx hb hts inlX8 tyX8 tyX8_ok nmX8 hown hK hP hD hS 0 rfl rfl 4 (by decide) (hts _ q17_15) (fun _ h9 => h9) rfl (by decide +kernel) rfl rfl (Nat.le_of_ble_eq_true rfl) dX8_takeLetters_84 (fun H locs hP hD hS => ?_)
          have hP : va_P g.1 vwCl [(h0, .inr (8, [.ref sp, .ref tp, .int (nI h0_length), .int (nI v1), .int 1, .int h0_start, .int h0_word, .long v2, .int h0_number, .int h0_sign])), (tp, .inl (gB g, 1600, .inl f_tp)), (sp, .inl (gJ g, 18, .inr (.inl f_sp)))] H := hP
          have hD : va_D A [(h0, .inr (8, [.ref sp, .ref tp, .int (nI h0_length), .int (nI v1), .int 1, .int h0_start, .int h0_word, .long v2, .int h0_number, .int h0_sign])), (tp, .inl (gB g, 1600, .inl f_tp)), (sp, .inl (gJ g, 18, .inr (.inl f_sp)))] := hD
          refine lv_aload_n hx hb dX8_takeLetters_87 rfl (lv_at hl 0 rfl) ?_
          refine lv_aload_n hx hb dX8_takeLetters_88 rfl (lv_at hl 0 rfl) ?_
          refine lv_aload_n hx hb dX8_takeLetters_89 rfl (lv_at hl 0 rfl) ?_
          refine va_get (D := g.1) (ci := 8) (v := Value.long v2) (C := RX8) (T := TX8) (N := 10) hx hb hts inlX8 hown hK hP 0 rfl rfl 7 (by decide) (hts _ q18_3) (fun _ h9 => h9) rfl dX8_takeLetters_90 ?_
          refine kI (wc := [(h0, .inr (8, [.ref sp, .ref tp, .int (nI h0_length), .int (nI v1), .int 1, .int h0_start, .int h0_word, .long v2, .int h0_number, .int h0_sign])), (sp, .inl (gJ g, 18, .inr (.inl f_sp)))]) (wr := [(tp, .inl (gB g, 1600, .inl f_tp))]) (rV (As := [.long v2]) (rest := [.ref h0]) (meth2 := "") hcx (c_X8_wordSpelled H.size) (gdV q18_5 q18_6 q18_7 q3_7 q18_8) dvX8_wordSpelled ⟨Nat.le_of_ble_eq_true rfl, Nat.le_of_ble_eq_true rfl⟩ (hP.sub [0, 2] rfl) (hD.sub [0, 2] (by decide) rfl) (va_recv hK hP (ci := 8) (q0 := 0) rfl rfl) rfl hl.1 rfl (Nat.le_of_ble_eq_true rfl) dX8_takeLetters_93 ⟨Nat.le_of_ble_eq_true rfl, Nat.le_of_ble_eq_true rfl⟩) hP hD hS hA [0, 2] [1] rfl rfl (by decide) (by decide) (fun r8 W' H locs hw hP hD hS => ?_)
          obtain ⟨hr9, rfl⟩ := hw
          have hP : va_P g.1 vwCl [(tp, .inl (gB g, 1600, .inl f_tp)), (h0, .inr (8, [.ref sp, .ref tp, .int (nI h0_length), .int (nI v1), .int 1, .int h0_start, .int h0_word, .long v2, .int h0_number, .int h0_sign])), (sp, .inl (gJ g, 18, .inr (.inl f_sp)))] H := hP
          have hD : va_D A [(tp, .inl (gB g, 1600, .inl f_tp)), (h0, .inr (8, [.ref sp, .ref tp, .int (nI h0_length), .int (nI v1), .int 1, .int h0_start, .int h0_word, .long v2, .int h0_number, .int h0_sign])), (sp, .inl (gJ g, 18, .inr (.inl f_sp)))] := hD
          refine va_put (D := g.1) (ci := 8) (v := Value.int r8) (ty := .int) (C := RX8) (T := TX8) (N := 10) hx hb hts inlX8 tyX8 tyX8_ok nmX8 hown hK hP hD hS 1 rfl rfl 6 (by decide) (hts _ q18_4) (fun _ h9 => h9) rfl (by decide +kernel) rfl rfl (Nat.le_of_ble_eq_true rfl) dX8_takeLetters_96 (fun H locs hP hD hS => ?_)
          have hP : va_P g.1 vwCl [(tp, .inl (gB g, 1600, .inl f_tp)), (h0, .inr (8, [.ref sp, .ref tp, .int (nI h0_length), .int (nI v1), .int 1, .int h0_start, .int r8, .long v2, .int h0_number, .int h0_sign])), (sp, .inl (gJ g, 18, .inr (.inl f_sp)))] H := hP
          have hD : va_D A [(tp, .inl (gB g, 1600, .inl f_tp)), (h0, .inr (8, [.ref sp, .ref tp, .int (nI h0_length), .int (nI v1), .int 1, .int h0_start, .int r8, .long v2, .int h0_number, .int h0_sign])), (sp, .inl (gJ g, 18, .inr (.inl f_sp)))] := hD
          have hP9 : va_P g.1 vwCl [(h0, .inr (8, [.ref sp, .ref tp, .int (nI h0_length), .int (nI v1), .int 1, .int h0_start, .int r8, .long v2, .int h0_number, .int h0_sign])), (tp, .inl (gB g, 1600, .inl f_tp)), (sp, .inl (gJ g, 18, .inr (.inl f_sp)))] H := hP.sub [1, 0, 2] rfl
          have hD9 : va_D A [(h0, .inr (8, [.ref sp, .ref tp, .int (nI h0_length), .int (nI v1), .int 1, .int h0_start, .int r8, .long v2, .int h0_number, .int h0_sign])), (tp, .inl (gB g, 1600, .inl f_tp)), (sp, .inl (gJ g, 18, .inr (.inl f_sp)))] := hD.sub [1, 0, 2] (by decide) rfl
          exact xv hx hb hr hlocks hP9 hD9 hS ⟨(v1), (1), (r8), (v2), rfl, (by omega), hr9⟩ (Nat.le_of_ble_eq_true rfl) (Nat.le_of_ble_eq_true rfl) dX8_takeLetters_99
        · refine lv_iconst (v := 4) hx hb dX8_takeLetters_79 (by decide) ?_
          refine lv_goto (tgt := 84) hx hb dX8_takeLetters_80 (by decide) ?_
          refine va_put (D := g.1) (ci := 8) (v := Value.int 4) (ty := .int) (C := RX8) (T := TX8) (N := 10) hx hb hts inlX8 tyX8 tyX8_ok nmX8 hown hK hP hD hS 0 rfl rfl 4 (by decide) (hts _ q17_15) (fun _ h9 => h9) rfl (by decide +kernel) rfl rfl (Nat.le_of_ble_eq_true rfl) dX8_takeLetters_84 (fun H locs hP hD hS => ?_)
          have hP : va_P g.1 vwCl [(h0, .inr (8, [.ref sp, .ref tp, .int (nI h0_length), .int (nI v1), .int 4, .int h0_start, .int h0_word, .long v2, .int h0_number, .int h0_sign])), (tp, .inl (gB g, 1600, .inl f_tp)), (sp, .inl (gJ g, 18, .inr (.inl f_sp)))] H := hP
          have hD : va_D A [(h0, .inr (8, [.ref sp, .ref tp, .int (nI h0_length), .int (nI v1), .int 4, .int h0_start, .int h0_word, .long v2, .int h0_number, .int h0_sign])), (tp, .inl (gB g, 1600, .inl f_tp)), (sp, .inl (gJ g, 18, .inr (.inl f_sp)))] := hD
          refine lv_aload_n hx hb dX8_takeLetters_87 rfl (lv_at hl 0 rfl) ?_
          refine lv_aload_n hx hb dX8_takeLetters_88 rfl (lv_at hl 0 rfl) ?_
          refine lv_aload_n hx hb dX8_takeLetters_89 rfl (lv_at hl 0 rfl) ?_
          refine va_get (D := g.1) (ci := 8) (v := Value.long v2) (C := RX8) (T := TX8) (N := 10) hx hb hts inlX8 hown hK hP 0 rfl rfl 7 (by decide) (hts _ q18_3) (fun _ h9 => h9) rfl dX8_takeLetters_90 ?_
          refine kI (wc := [(h0, .inr (8, [.ref sp, .ref tp, .int (nI h0_length), .int (nI v1), .int 4, .int h0_start, .int h0_word, .long v2, .int h0_number, .int h0_sign])), (sp, .inl (gJ g, 18, .inr (.inl f_sp)))]) (wr := [(tp, .inl (gB g, 1600, .inl f_tp))]) (rV (As := [.long v2]) (rest := [.ref h0]) (meth2 := "") hcx (c_X8_wordSpelled H.size) (gdV q18_5 q18_6 q18_7 q3_7 q18_8) dvX8_wordSpelled ⟨Nat.le_of_ble_eq_true rfl, Nat.le_of_ble_eq_true rfl⟩ (hP.sub [0, 2] rfl) (hD.sub [0, 2] (by decide) rfl) (va_recv hK hP (ci := 8) (q0 := 0) rfl rfl) rfl hl.1 rfl (Nat.le_of_ble_eq_true rfl) dX8_takeLetters_93 ⟨Nat.le_of_ble_eq_true rfl, Nat.le_of_ble_eq_true rfl⟩) hP hD hS hA [0, 2] [1] rfl rfl (by decide) (by decide) (fun r10 W' H locs hw hP hD hS => ?_)
          obtain ⟨hr11, rfl⟩ := hw
          have hP : va_P g.1 vwCl [(tp, .inl (gB g, 1600, .inl f_tp)), (h0, .inr (8, [.ref sp, .ref tp, .int (nI h0_length), .int (nI v1), .int 4, .int h0_start, .int h0_word, .long v2, .int h0_number, .int h0_sign])), (sp, .inl (gJ g, 18, .inr (.inl f_sp)))] H := hP
          have hD : va_D A [(tp, .inl (gB g, 1600, .inl f_tp)), (h0, .inr (8, [.ref sp, .ref tp, .int (nI h0_length), .int (nI v1), .int 4, .int h0_start, .int h0_word, .long v2, .int h0_number, .int h0_sign])), (sp, .inl (gJ g, 18, .inr (.inl f_sp)))] := hD
          refine va_put (D := g.1) (ci := 8) (v := Value.int r10) (ty := .int) (C := RX8) (T := TX8) (N := 10) hx hb hts inlX8 tyX8 tyX8_ok nmX8 hown hK hP hD hS 1 rfl rfl 6 (by decide) (hts _ q18_4) (fun _ h9 => h9) rfl (by decide +kernel) rfl rfl (Nat.le_of_ble_eq_true rfl) dX8_takeLetters_96 (fun H locs hP hD hS => ?_)
          have hP : va_P g.1 vwCl [(tp, .inl (gB g, 1600, .inl f_tp)), (h0, .inr (8, [.ref sp, .ref tp, .int (nI h0_length), .int (nI v1), .int 4, .int h0_start, .int r10, .long v2, .int h0_number, .int h0_sign])), (sp, .inl (gJ g, 18, .inr (.inl f_sp)))] H := hP
          have hD : va_D A [(tp, .inl (gB g, 1600, .inl f_tp)), (h0, .inr (8, [.ref sp, .ref tp, .int (nI h0_length), .int (nI v1), .int 4, .int h0_start, .int r10, .long v2, .int h0_number, .int h0_sign])), (sp, .inl (gJ g, 18, .inr (.inl f_sp)))] := hD
          have hP9 : va_P g.1 vwCl [(h0, .inr (8, [.ref sp, .ref tp, .int (nI h0_length), .int (nI v1), .int 4, .int h0_start, .int r10, .long v2, .int h0_number, .int h0_sign])), (tp, .inl (gB g, 1600, .inl f_tp)), (sp, .inl (gJ g, 18, .inr (.inl f_sp)))] H := hP.sub [1, 0, 2] rfl
          have hD9 : va_D A [(h0, .inr (8, [.ref sp, .ref tp, .int (nI h0_length), .int (nI v1), .int 4, .int h0_start, .int r10, .long v2, .int h0_number, .int h0_sign])), (tp, .inl (gB g, 1600, .inl f_tp)), (sp, .inl (gJ g, 18, .inr (.inl f_sp)))] := hD.sub [1, 0, 2] (by decide) rfl
          exact xv hx hb hr hlocks hP9 hD9 hS ⟨(v1), (4), (r10), (v2), rfl, (by omega), hr11⟩ (Nat.le_of_ble_eq_true rfl) (Nat.le_of_ble_eq_true rfl) dX8_takeLetters_99
      · have hn12 := nnle (a := h0_length) (b := v1) (by omega) (by omega) c4
        refine lv_aload_n hx hb dX8_takeLetters_16 rfl (lv_at hl 0 rfl) ?_
        refine va_get (D := g.1) (ci := 8) (v := Value.ref tp) (C := RX8) (T := TX8) (N := 10) hx hb hts inlX8 hown hK hP 0 rfl rfl 1 (by decide) (hts _ q3_16) (fun _ h9 => h9) rfl dX8_takeLetters_17 ?_
        refine lv_aload_n hx hb dX8_takeLetters_20 rfl (lv_at hl 0 rfl) ?_
        refine va_get (D := g.1) (ci := 8) (v := Value.int (nI v1)) (C := RX8) (T := TX8) (N := 10) hx hb hts inlX8 hown hK hP 0 rfl rfl 3 (by decide) (hts _ q17_9) (fun _ h9 => h9) rfl dX8_takeLetters_21 ?_
        refine ba_ld hx hb hK hP 1 0 rfl rfl (v1) rfl (by omega) (by decide) dX8_takeLetters_24 ?_
        refine lv_topi (fun x13 ex13 => ?_)
        refine kI (wc := []) (wr := [(h0, .inr (8, [.ref sp, .ref tp, .int (nI h0_length), .int (nI v1), .int h0_kind, .int h0_start, .int h0_word, .long v2, .int h0_number, .int h0_sign])), (tp, .inl (gB g, 1600, .inl f_tp)), (sp, .inl (gJ g, 18, .inr (.inl f_sp)))]) (rS (As := [.int x13]) (rest := []) hcx (c_X8_isLetter H.size) (gdS q17_20 q17_21 q3_7 q17_22) dvX8_isLetter.2 ⟨Nat.le_of_ble_eq_true rfl, Nat.le_of_ble_eq_true rfl⟩ (hP.sub [] rfl) (hD.sub [] (by decide) rfl) rfl hl.1 rfl (Nat.le_of_ble_eq_true rfl) dX8_takeLetters_25 ⟨Nat.le_of_ble_eq_true rfl, Nat.le_of_ble_eq_true rfl⟩) hP hD hS hA [] [0, 1, 2] rfl rfl (by decide) (by decide) (fun r14 W' H locs hw hP hD hS => ?_)
        obtain ⟨⟨m15, hm15, rfl⟩, rfl⟩ := hw
        have hP : va_P g.1 vwCl [(h0, .inr (8, [.ref sp, .ref tp, .int (nI h0_length), .int (nI v1), .int h0_kind, .int h0_start, .int h0_word, .long v2, .int h0_number, .int h0_sign])), (tp, .inl (gB g, 1600, .inl f_tp)), (sp, .inl (gJ g, 18, .inr (.inl f_sp)))] H := hP
        have hD : va_D A [(h0, .inr (8, [.ref sp, .ref tp, .int (nI h0_length), .int (nI v1), .int h0_kind, .int h0_start, .int h0_word, .long v2, .int h0_number, .int h0_sign])), (tp, .inl (gB g, 1600, .inl f_tp)), (sp, .inl (gJ g, 18, .inr (.inl f_sp)))] := hD
        refine lv_if_eq (tgt := 64) hx hb dX8_takeLetters_28 (by decide) (fun c16 => ?_) (fun c16 => ?_)
        · have hn17 := neq (a := m15) (b := 0) (by omega) (by omega) c16
          refine lv_aload_n hx hb dX8_takeLetters_64 rfl (lv_at hl 0 rfl) ?_
          refine lv_aload_n hx hb dX8_takeLetters_65 rfl (lv_at hl 0 rfl) ?_
          refine va_get (D := g.1) (ci := 8) (v := Value.int (nI v1)) (C := RX8) (T := TX8) (N := 10) hx hb hts inlX8 hown hK hP 0 rfl rfl 3 (by decide) (hts _ q17_9) (fun _ h9 => h9) rfl dX8_takeLetters_66 ?_
          refine lv_aload_n hx hb dX8_takeLetters_69 rfl (lv_at hl 0 rfl) ?_
          refine va_get (D := g.1) (ci := 8) (v := Value.int h0_start) (C := RX8) (T := TX8) (N := 10) hx hb hts inlX8 hown hK hP 0 rfl rfl 5 (by decide) (hts _ q17_14) (fun _ h9 => h9) rfl dX8_takeLetters_70 ?_
          refine lv_isub hx hb dX8_takeLetters_73 ?_
          refine lv_topi (fun x18 ex18 => ?_)
          refine lv_bipush (v := 8) hx hb dX8_takeLetters_74 (by decide) ?_
          refine lv_icmp_le (tgt := 83) hx hb dX8_takeLetters_76 (by decide) (fun c19 => ?_) (fun c19 => ?_)
          · refine lv_iconst (v := 1) hx hb dX8_takeLetters_83 (by decide) ?_
            refine va_put (D := g.1) (ci := 8) (v := Value.int 1) (ty := .int) (C := RX8) (T := TX8) (N := 10) hx hb hts inlX8 tyX8 tyX8_ok nmX8 hown hK hP hD hS 0 rfl rfl 4 (by decide) (hts _ q17_15) (fun _ h9 => h9) rfl (by decide +kernel) rfl rfl (Nat.le_of_ble_eq_true rfl) dX8_takeLetters_84 (fun H locs hP hD hS => ?_)
            have hP : va_P g.1 vwCl [(h0, .inr (8, [.ref sp, .ref tp, .int (nI h0_length), .int (nI v1), .int 1, .int h0_start, .int h0_word, .long v2, .int h0_number, .int h0_sign])), (tp, .inl (gB g, 1600, .inl f_tp)), (sp, .inl (gJ g, 18, .inr (.inl f_sp)))] H := hP
            have hD : va_D A [(h0, .inr (8, [.ref sp, .ref tp, .int (nI h0_length), .int (nI v1), .int 1, .int h0_start, .int h0_word, .long v2, .int h0_number, .int h0_sign])), (tp, .inl (gB g, 1600, .inl f_tp)), (sp, .inl (gJ g, 18, .inr (.inl f_sp)))] := hD
            refine lv_aload_n hx hb dX8_takeLetters_87 rfl (lv_at hl 0 rfl) ?_
            refine lv_aload_n hx hb dX8_takeLetters_88 rfl (lv_at hl 0 rfl) ?_
            refine lv_aload_n hx hb dX8_takeLetters_89 rfl (lv_at hl 0 rfl) ?_
            refine va_get (D := g.1) (ci := 8) (v := Value.long v2) (C := RX8) (T := TX8) (N := 10) hx hb hts inlX8 hown hK hP 0 rfl rfl 7 (by decide) (hts _ q18_3) (fun _ h9 => h9) rfl dX8_takeLetters_90 ?_
            refine kI (wc := [(h0, .inr (8, [.ref sp, .ref tp, .int (nI h0_length), .int (nI v1), .int 1, .int h0_start, .int h0_word, .long v2, .int h0_number, .int h0_sign])), (sp, .inl (gJ g, 18, .inr (.inl f_sp)))]) (wr := [(tp, .inl (gB g, 1600, .inl f_tp))]) (rV (As := [.long v2]) (rest := [.ref h0]) (meth2 := "") hcx (c_X8_wordSpelled H.size) (gdV q18_5 q18_6 q18_7 q3_7 q18_8) dvX8_wordSpelled ⟨Nat.le_of_ble_eq_true rfl, Nat.le_of_ble_eq_true rfl⟩ (hP.sub [0, 2] rfl) (hD.sub [0, 2] (by decide) rfl) (va_recv hK hP (ci := 8) (q0 := 0) rfl rfl) rfl hl.1 rfl (Nat.le_of_ble_eq_true rfl) dX8_takeLetters_93 ⟨Nat.le_of_ble_eq_true rfl, Nat.le_of_ble_eq_true rfl⟩) hP hD hS hA [0, 2] [1] rfl rfl (by decide) (by decide) (fun r20 W' H locs hw hP hD hS => ?_)
            obtain ⟨hr21, rfl⟩ := hw
            have hP : va_P g.1 vwCl [(tp, .inl (gB g, 1600, .inl f_tp)), (h0, .inr (8, [.ref sp, .ref tp, .int (nI h0_length), .int (nI v1), .int 1, .int h0_start, .int h0_word, .long v2, .int h0_number, .int h0_sign])), (sp, .inl (gJ g, 18, .inr (.inl f_sp)))] H := hP
            have hD : va_D A [(tp, .inl (gB g, 1600, .inl f_tp)), (h0, .inr (8, [.ref sp, .ref tp, .int (nI h0_length), .int (nI v1), .int 1, .int h0_start, .int h0_word, .long v2, .int h0_number, .int h0_sign])), (sp, .inl (gJ g, 18, .inr (.inl f_sp)))] := hD
            refine va_put (D := g.1) (ci := 8) (v := Value.int r20) (ty := .int) (C := RX8) (T := TX8) (N := 10) hx hb hts inlX8 tyX8 tyX8_ok nmX8 hown hK hP hD hS 1 rfl rfl 6 (by decide) (hts _ q18_4) (fun _ h9 => h9) rfl (by decide +kernel) rfl rfl (Nat.le_of_ble_eq_true rfl) dX8_takeLetters_96 (fun H locs hP hD hS => ?_)
            have hP : va_P g.1 vwCl [(tp, .inl (gB g, 1600, .inl f_tp)), (h0, .inr (8, [.ref sp, .ref tp, .int (nI h0_length), .int (nI v1), .int 1, .int h0_start, .int r20, .long v2, .int h0_number, .int h0_sign])), (sp, .inl (gJ g, 18, .inr (.inl f_sp)))] H := hP
            have hD : va_D A [(tp, .inl (gB g, 1600, .inl f_tp)), (h0, .inr (8, [.ref sp, .ref tp, .int (nI h0_length), .int (nI v1), .int 1, .int h0_start, .int r20, .long v2, .int h0_number, .int h0_sign])), (sp, .inl (gJ g, 18, .inr (.inl f_sp)))] := hD
            have hP9 : va_P g.1 vwCl [(h0, .inr (8, [.ref sp, .ref tp, .int (nI h0_length), .int (nI v1), .int 1, .int h0_start, .int r20, .long v2, .int h0_number, .int h0_sign])), (tp, .inl (gB g, 1600, .inl f_tp)), (sp, .inl (gJ g, 18, .inr (.inl f_sp)))] H := hP.sub [1, 0, 2] rfl
            have hD9 : va_D A [(h0, .inr (8, [.ref sp, .ref tp, .int (nI h0_length), .int (nI v1), .int 1, .int h0_start, .int r20, .long v2, .int h0_number, .int h0_sign])), (tp, .inl (gB g, 1600, .inl f_tp)), (sp, .inl (gJ g, 18, .inr (.inl f_sp)))] := hD.sub [1, 0, 2] (by decide) rfl
            exact xv hx hb hr hlocks hP9 hD9 hS ⟨(v1), (1), (r20), (v2), rfl, (by omega), hr21⟩ (Nat.le_of_ble_eq_true rfl) (Nat.le_of_ble_eq_true rfl) dX8_takeLetters_99
          · refine lv_iconst (v := 4) hx hb dX8_takeLetters_79 (by decide) ?_
            refine lv_goto (tgt := 84) hx hb dX8_takeLetters_80 (by decide) ?_
            refine va_put (D := g.1) (ci := 8) (v := Value.int 4) (ty := .int) (C := RX8) (T := TX8) (N := 10) hx hb hts inlX8 tyX8 tyX8_ok nmX8 hown hK hP hD hS 0 rfl rfl 4 (by decide) (hts _ q17_15) (fun _ h9 => h9) rfl (by decide +kernel) rfl rfl (Nat.le_of_ble_eq_true rfl) dX8_takeLetters_84 (fun H locs hP hD hS => ?_)
            have hP : va_P g.1 vwCl [(h0, .inr (8, [.ref sp, .ref tp, .int (nI h0_length), .int (nI v1), .int 4, .int h0_start, .int h0_word, .long v2, .int h0_number, .int h0_sign])), (tp, .inl (gB g, 1600, .inl f_tp)), (sp, .inl (gJ g, 18, .inr (.inl f_sp)))] H := hP
            have hD : va_D A [(h0, .inr (8, [.ref sp, .ref tp, .int (nI h0_length), .int (nI v1), .int 4, .int h0_start, .int h0_word, .long v2, .int h0_number, .int h0_sign])), (tp, .inl (gB g, 1600, .inl f_tp)), (sp, .inl (gJ g, 18, .inr (.inl f_sp)))] := hD
            refine lv_aload_n hx hb dX8_takeLetters_87 rfl (lv_at hl 0 rfl) ?_
            refine lv_aload_n hx hb dX8_takeLetters_88 rfl (lv_at hl 0 rfl) ?_
            refine lv_aload_n hx hb dX8_takeLetters_89 rfl (lv_at hl 0 rfl) ?_
            refine va_get (D := g.1) (ci := 8) (v := Value.long v2) (C := RX8) (T := TX8) (N := 10) hx hb hts inlX8 hown hK hP 0 rfl rfl 7 (by decide) (hts _ q18_3) (fun _ h9 => h9) rfl dX8_takeLetters_90 ?_
            refine kI (wc := [(h0, .inr (8, [.ref sp, .ref tp, .int (nI h0_length), .int (nI v1), .int 4, .int h0_start, .int h0_word, .long v2, .int h0_number, .int h0_sign])), (sp, .inl (gJ g, 18, .inr (.inl f_sp)))]) (wr := [(tp, .inl (gB g, 1600, .inl f_tp))]) (rV (As := [.long v2]) (rest := [.ref h0]) (meth2 := "") hcx (c_X8_wordSpelled H.size) (gdV q18_5 q18_6 q18_7 q3_7 q18_8) dvX8_wordSpelled ⟨Nat.le_of_ble_eq_true rfl, Nat.le_of_ble_eq_true rfl⟩ (hP.sub [0, 2] rfl) (hD.sub [0, 2] (by decide) rfl) (va_recv hK hP (ci := 8) (q0 := 0) rfl rfl) rfl hl.1 rfl (Nat.le_of_ble_eq_true rfl) dX8_takeLetters_93 ⟨Nat.le_of_ble_eq_true rfl, Nat.le_of_ble_eq_true rfl⟩) hP hD hS hA [0, 2] [1] rfl rfl (by decide) (by decide) (fun r22 W' H locs hw hP hD hS => ?_)
            obtain ⟨hr23, rfl⟩ := hw
            have hP : va_P g.1 vwCl [(tp, .inl (gB g, 1600, .inl f_tp)), (h0, .inr (8, [.ref sp, .ref tp, .int (nI h0_length), .int (nI v1), .int 4, .int h0_start, .int h0_word, .long v2, .int h0_number, .int h0_sign])), (sp, .inl (gJ g, 18, .inr (.inl f_sp)))] H := hP
            have hD : va_D A [(tp, .inl (gB g, 1600, .inl f_tp)), (h0, .inr (8, [.ref sp, .ref tp, .int (nI h0_length), .int (nI v1), .int 4, .int h0_start, .int h0_word, .long v2, .int h0_number, .int h0_sign])), (sp, .inl (gJ g, 18, .inr (.inl f_sp)))] := hD
            refine va_put (D := g.1) (ci := 8) (v := Value.int r22) (ty := .int) (C := RX8) (T := TX8) (N := 10) hx hb hts inlX8 tyX8 tyX8_ok nmX8 hown hK hP hD hS 1 rfl rfl 6 (by decide) (hts _ q18_4) (fun _ h9 => h9) rfl (by decide +kernel) rfl rfl (Nat.le_of_ble_eq_true rfl) dX8_takeLetters_96 (fun H locs hP hD hS => ?_)
            have hP : va_P g.1 vwCl [(tp, .inl (gB g, 1600, .inl f_tp)), (h0, .inr (8, [.ref sp, .ref tp, .int (nI h0_length), .int (nI v1), .int 4, .int h0_start, .int r22, .long v2, .int h0_number, .int h0_sign])), (sp, .inl (gJ g, 18, .inr (.inl f_sp)))] H := hP
            have hD : va_D A [(tp, .inl (gB g, 1600, .inl f_tp)), (h0, .inr (8, [.ref sp, .ref tp, .int (nI h0_length), .int (nI v1), .int 4, .int h0_start, .int r22, .long v2, .int h0_number, .int h0_sign])), (sp, .inl (gJ g, 18, .inr (.inl f_sp)))] := hD
            have hP9 : va_P g.1 vwCl [(h0, .inr (8, [.ref sp, .ref tp, .int (nI h0_length), .int (nI v1), .int 4, .int h0_start, .int r22, .long v2, .int h0_number, .int h0_sign])), (tp, .inl (gB g, 1600, .inl f_tp)), (sp, .inl (gJ g, 18, .inr (.inl f_sp)))] H := hP.sub [1, 0, 2] rfl
            have hD9 : va_D A [(h0, .inr (8, [.ref sp, .ref tp, .int (nI h0_length), .int (nI v1), .int 4, .int h0_start, .int r22, .long v2, .int h0_number, .int h0_sign])), (tp, .inl (gB g, 1600, .inl f_tp)), (sp, .inl (gJ g, 18, .inr (.inl f_sp)))] := hD.sub [1, 0, 2] (by decide) rfl
            exact xv hx hb hr hlocks hP9 hD9 hS ⟨(v1), (4), (r22), (v2), rfl, (by omega), hr23⟩ (Nat.le_of_ble_eq_true rfl) (Nat.le_of_ble_eq_true rfl) dX8_takeLetters_99
        · have hn24 := nneq (a := m15) (b := 0) (by omega) (by omega) c16
          refine lv_aload_n hx hb dX8_takeLetters_31 rfl (lv_at hl 0 rfl) ?_
          refine lv_aload_n hx hb dX8_takeLetters_32 rfl (lv_at hl 0 rfl) ?_
          refine va_get (D := g.1) (ci := 8) (v := Value.long v2) (C := RX8) (T := TX8) (N := 10) hx hb hts inlX8 hown hK hP 0 rfl rfl 7 (by decide) (hts _ q18_3) (fun _ h9 => h9) rfl dX8_takeLetters_33 ?_
          refine lv_aload_n hx hb dX8_takeLetters_36 rfl (lv_at hl 0 rfl) ?_
          refine va_get (D := g.1) (ci := 8) (v := Value.ref tp) (C := RX8) (T := TX8) (N := 10) hx hb hts inlX8 hown hK hP 0 rfl rfl 1 (by decide) (hts _ q3_16) (fun _ h9 => h9) rfl dX8_takeLetters_37 ?_
          refine lv_aload_n hx hb dX8_takeLetters_40 rfl (lv_at hl 0 rfl) ?_
          refine va_get (D := g.1) (ci := 8) (v := Value.int (nI v1)) (C := RX8) (T := TX8) (N := 10) hx hb hts inlX8 hown hK hP 0 rfl rfl 3 (by decide) (hts _ q17_9) (fun _ h9 => h9) rfl dX8_takeLetters_41 ?_
          refine ba_ld hx hb hK hP 1 0 rfl rfl (v1) rfl (by omega) (by decide) dX8_takeLetters_44 ?_
          refine lv_topi (fun x25 ex25 => ?_)
          refine kL (wc := []) (wr := [(h0, .inr (8, [.ref sp, .ref tp, .int (nI h0_length), .int (nI v1), .int h0_kind, .int h0_start, .int h0_word, .long v2, .int h0_number, .int h0_sign])), (tp, .inl (gB g, 1600, .inl f_tp)), (sp, .inl (gJ g, 18, .inr (.inl f_sp)))]) (rS (As := [.long v2, .int x25]) (rest := [.ref h0]) hcx (c_X8_withLetter H.size) (gdS q5_18 q5_19 q3_7 q5_20) dvX8_withLetter.2 ⟨Nat.le_of_ble_eq_true rfl, Nat.le_of_ble_eq_true rfl⟩ (hP.sub [] rfl) (hD.sub [] (by decide) rfl) rfl hl.1 rfl (Nat.le_of_ble_eq_true rfl) dX8_takeLetters_45 ⟨Nat.le_of_ble_eq_true rfl, Nat.le_of_ble_eq_true rfl⟩) hP hD hS hA [] [0, 1, 2] rfl rfl (by decide) (by decide) (fun r26 W' H locs hw hP hD hS => ?_)
          obtain ⟨hr27, rfl⟩ := hw
          have hP : va_P g.1 vwCl [(h0, .inr (8, [.ref sp, .ref tp, .int (nI h0_length), .int (nI v1), .int h0_kind, .int h0_start, .int h0_word, .long v2, .int h0_number, .int h0_sign])), (tp, .inl (gB g, 1600, .inl f_tp)), (sp, .inl (gJ g, 18, .inr (.inl f_sp)))] H := hP
          have hD : va_D A [(h0, .inr (8, [.ref sp, .ref tp, .int (nI h0_length), .int (nI v1), .int h0_kind, .int h0_start, .int h0_word, .long v2, .int h0_number, .int h0_sign])), (tp, .inl (gB g, 1600, .inl f_tp)), (sp, .inl (gJ g, 18, .inr (.inl f_sp)))] := hD
          refine va_put (D := g.1) (ci := 8) (v := Value.long r26) (ty := .long) (C := RX8) (T := TX8) (N := 10) hx hb hts inlX8 tyX8 tyX8_ok nmX8 hown hK hP hD hS 0 rfl rfl 7 (by decide) (hts _ q18_3) (fun _ h9 => h9) rfl (by decide +kernel) rfl rfl (Nat.le_of_ble_eq_true rfl) dX8_takeLetters_48 (fun H locs hP hD hS => ?_)
          have hP : va_P g.1 vwCl [(h0, .inr (8, [.ref sp, .ref tp, .int (nI h0_length), .int (nI v1), .int h0_kind, .int h0_start, .int h0_word, .long r26, .int h0_number, .int h0_sign])), (tp, .inl (gB g, 1600, .inl f_tp)), (sp, .inl (gJ g, 18, .inr (.inl f_sp)))] H := hP
          have hD : va_D A [(h0, .inr (8, [.ref sp, .ref tp, .int (nI h0_length), .int (nI v1), .int h0_kind, .int h0_start, .int h0_word, .long r26, .int h0_number, .int h0_sign])), (tp, .inl (gB g, 1600, .inl f_tp)), (sp, .inl (gJ g, 18, .inr (.inl f_sp)))] := hD
          refine lv_aload_n hx hb dX8_takeLetters_51 rfl (lv_at hl 0 rfl) ?_
          refine lv_dup hx hb dX8_takeLetters_52 rfl ?_
          refine va_get (D := g.1) (ci := 8) (v := Value.int (nI v1)) (C := RX8) (T := TX8) (N := 10) hx hb hts inlX8 hown hK hP 0 rfl rfl 3 (by decide) (hts _ q17_9) (fun _ h9 => h9) rfl dX8_takeLetters_53 ?_
          refine lv_iconst (v := 1) hx hb dX8_takeLetters_56 (by decide) ?_
          refine lv_iadd hx hb dX8_takeLetters_57 ?_
          refine lv_tope (y := (nI (v1 + 1))) (nI_add (v1) (1)) ?_
          refine va_put (D := g.1) (ci := 8) (v := Value.int (nI (v1 + 1))) (ty := .int) (C := RX8) (T := TX8) (N := 10) hx hb hts inlX8 tyX8 tyX8_ok nmX8 hown hK hP hD hS 0 rfl rfl 3 (by decide) (hts _ q17_9) (fun _ h9 => h9) rfl (by decide +kernel) rfl rfl (Nat.le_of_ble_eq_true rfl) dX8_takeLetters_58 (fun H locs hP hD hS => ?_)
          have hP : va_P g.1 vwCl [(h0, .inr (8, [.ref sp, .ref tp, .int (nI h0_length), .int (nI (v1 + 1)), .int h0_kind, .int h0_start, .int h0_word, .long r26, .int h0_number, .int h0_sign])), (tp, .inl (gB g, 1600, .inl f_tp)), (sp, .inl (gJ g, 18, .inr (.inl f_sp)))] H := hP
          have hD : va_D A [(h0, .inr (8, [.ref sp, .ref tp, .int (nI h0_length), .int (nI (v1 + 1)), .int h0_kind, .int h0_start, .int h0_word, .long r26, .int h0_number, .int h0_sign])), (tp, .inl (gB g, 1600, .inl f_tp)), (sp, .inl (gJ g, 18, .inr (.inl f_sp)))] := hD
          refine lv_goto (tgt := 5) hx hb dX8_takeLetters_61 (by decide) ?_
          exact ihloop3 H locs ls (v1 + 1) (r26) (by omega) (by omega) hP hD hS (lv_sub hl [0] rfl)
  exact loop3 _ H locs ls (h0_at) (0) (by omega) (Nat.lt_succ_self _) hP hD hS hl

set_option maxHeartbeats 4000000 in
set_option maxRecDepth 100000 in
theorem c_X8_takeDigits {l : Launch} {g : Gx} {h0 tp : Nat} {h0_spellings : Value} {h0_length : Nat} {h0_at : Nat} {h0_kind : Int32} {h0_start : Int32} {h0_word : Int32} {h0_spelling : Int64} {h0_number : Int32} {h0_sign : Int32} {f_tp : Nat → Int32} (hb_h0_length : h0_length ≤ 1600) (hb_h0_at : h0_at ≤ 1600) (hb_h0_word : XM 17 h0_word) : MV l g yX8_takeDigits cX8_takeDigits 2 3 0 0 [.ref h0] [(h0, .inr (8, [h0_spellings, .ref tp, .int (nI h0_length), .int (nI h0_at), .int h0_kind, .int h0_start, .int h0_word, .long h0_spelling, .int h0_number, .int h0_sign])), (tp, .inl (gB g, 1600, .inl f_tp))] (fun W' => ∃ (z0 : Nat) (z1 : Int32) (z2 : Int32), W' = [(h0, .inr (8, [h0_spellings, .ref tp, .int (nI h0_length), .int (nI z0), .int z1, .int h0_start, .int h0_word, .long h0_spelling, .int z2, .int h0_sign])), (tp, .inl (gB g, 1600, .inl f_tp))] ∧ z0 ≤ 1600) := by
  refine MVof (by decide) (Nat.le_of_ble_eq_true rfl) ?_
  intro p e s m below meth c A ls H locs hcx hA hP hD hS hl
  obtain ⟨hx, hb, hml, hr, hlocks, hown, hts, hE, hnm⟩ := id hcx
  have hown : s.vm.findClass RX8 = some m.cls := hown
  have hK := hE.1
  have hl : lv_has ls 2 [(0, .ref h0)] := hl
  refine lv_aload_n hx hb dX8_takeDigits_0 rfl (lv_at hl 0 rfl) ?_
  refine lv_iconst (v := 0) hx hb dX8_takeDigits_1 (by decide) ?_
  refine va_put (D := g.1) (ci := 8) (v := Value.int 0) (ty := .int) (C := RX8) (T := TX8) (N := 10) hx hb hts inlX8 tyX8 tyX8_ok nmX8 hown hK hP hD hS 0 rfl rfl 8 (by decide) (hts _ q18_16) (fun _ h9 => h9) rfl (by decide +kernel) rfl rfl (Nat.le_of_ble_eq_true rfl) dX8_takeDigits_2 (fun H locs hP hD hS => ?_)
  have hP : va_P g.1 vwCl [(h0, .inr (8, [h0_spellings, .ref tp, .int (nI h0_length), .int (nI h0_at), .int h0_kind, .int h0_start, .int h0_word, .long h0_spelling, .int 0, .int h0_sign])), (tp, .inl (gB g, 1600, .inl f_tp))] H := hP
  have hD : va_D A [(h0, .inr (8, [h0_spellings, .ref tp, .int (nI h0_length), .int (nI h0_at), .int h0_kind, .int h0_start, .int h0_word, .long h0_spelling, .int 0, .int h0_sign])), (tp, .inl (gB g, 1600, .inl f_tp))] := hD
  have loop3 : ∀ (n : Nat) (H : Heap) (locs : List Loc) (ls : Array Slot) (v1 : Nat) (v2 : Int32), (v1 ≤ 1600) → 1601 - v1 < n → va_P g.1 vwCl [(h0, .inr (8, [h0_spellings, .ref tp, .int (nI h0_length), .int (nI v1), .int h0_kind, .int h0_start, .int h0_word, .long h0_spelling, .int v2, .int h0_sign])), (tp, .inl (gB g, 1600, .inl f_tp))] H → va_D A [(h0, .inr (8, [h0_spellings, .ref tp, .int (nI h0_length), .int (nI v1), .int h0_kind, .int h0_start, .int h0_word, .long h0_spelling, .int v2, .int h0_sign])), (tp, .inl (gB g, 1600, .inl f_tp))] → va_S A s.heap H locs → lv_has ls 2 [(0, .ref h0)] → W p l e (rmD 3 0 0) s m ([Value.ref h0] : List Value).toArray below meth c H locs 0 0 (MQ below (QV g A (fun W' => ∃ (z0 : Nat) (z1 : Int32) (z2 : Int32), W' = [(h0, .inr (8, [h0_spellings, .ref tp, .int (nI h0_length), .int (nI z0), .int z1, .int h0_start, .int h0_word, .long h0_spelling, .int z2, .int h0_sign])), (tp, .inl (gB g, 1600, .inl f_tp))] ∧ z0 ≤ 1600)) ([Value.ref h0] : List Value).toArray s 0 0 A) (F0 m 5 ls []) := by
    intro n
    induction n with
    | zero => intro H locs ls v1 v2 hv1 hmloop3; exact absurd hmloop3 (Nat.not_lt_zero _)
    | succ n ihloop3 =>
      intro H locs ls v1 v2 hv1 hmloop3 hP hD hS hl
      refine lv_aload_n hx hb dX8_takeDigits_5 rfl (lv_at hl 0 rfl) ?_
      refine va_get (D := g.1) (ci := 8) (v := Value.int (nI v1)) (C := RX8) (T := TX8) (N := 10) hx hb hts inlX8 hown hK hP 0 rfl rfl 3 (by decide) (hts _ q17_9) (fun _ h9 => h9) rfl dX8_takeDigits_6 ?_
      refine lv_aload_n hx hb dX8_takeDigits_9 rfl (lv_at hl 0 rfl) ?_
      refine va_get (D := g.1) (ci := 8) (v := Value.int (nI h0_length)) (C := RX8) (T := TX8) (N := 10) hx hb hts inlX8 hown hK hP 0 rfl rfl 2 (by decide) (hts _ q17_8) (fun _ h9 => h9) rfl dX8_takeDigits_10 ?_
      refine lv_icmp_ge (tgt := 68) hx hb dX8_takeDigits_13 (by decide) (fun c4 => ?_) (fun c4 => ?_)
      · have hn5 := nle (a := h0_length) (b := v1) (by omega) (by omega) c4
        refine lv_aload_n hx hb dX8_takeDigits_68 rfl (lv_at hl 0 rfl) ?_
        refine va_get (D := g.1) (ci := 8) (v := Value.int (nI v1)) (C := RX8) (T := TX8) (N := 10) hx hb hts inlX8 hown hK hP 0 rfl rfl 3 (by decide) (hts _ q17_9) (fun _ h9 => h9) rfl dX8_takeDigits_69 ?_
        refine lv_aload_n hx hb dX8_takeDigits_72 rfl (lv_at hl 0 rfl) ?_
        refine va_get (D := g.1) (ci := 8) (v := Value.int (nI h0_length)) (C := RX8) (T := TX8) (N := 10) hx hb hts inlX8 hown hK hP 0 rfl rfl 2 (by decide) (hts _ q17_8) (fun _ h9 => h9) rfl dX8_takeDigits_73 ?_
        refine lv_icmp_ge (tgt := 98) hx hb dX8_takeDigits_76 (by decide) (fun _ => ?_) (fun c6 => absurd c4 c6)
        refine lv_iconst (v := 0) hx hb dX8_takeDigits_98 (by decide) ?_
        refine lv_istore_n (lv' := [(1, .int 0), (0, .ref h0)]) hx hb dX8_takeDigits_99 rfl hl (by decide) rfl (fun ls hl => ?_)
        refine lv_aload_n hx hb dX8_takeDigits_100 rfl (lv_at hl 1 rfl) ?_
        refine lv_iload_n hx hb dX8_takeDigits_101 rfl (lv_at hl 0 rfl) ?_
        refine lv_if_ne (tgt := 118) hx hb dX8_takeDigits_102 (by decide) (fun c7 => absurd (by decide) c7) (fun _ => ?_)
        refine lv_aload_n hx hb dX8_takeDigits_105 rfl (lv_at hl 1 rfl) ?_
        refine va_get (D := g.1) (ci := 8) (v := Value.int (nI v1)) (C := RX8) (T := TX8) (N := 10) hx hb hts inlX8 hown hK hP 0 rfl rfl 3 (by decide) (hts _ q17_9) (fun _ h9 => h9) rfl dX8_takeDigits_106 ?_
        refine lv_aload_n hx hb dX8_takeDigits_109 rfl (lv_at hl 1 rfl) ?_
        refine va_get (D := g.1) (ci := 8) (v := Value.int h0_start) (C := RX8) (T := TX8) (N := 10) hx hb hts inlX8 hown hK hP 0 rfl rfl 5 (by decide) (hts _ q17_14) (fun _ h9 => h9) rfl dX8_takeDigits_110 ?_
        refine lv_isub hx hb dX8_takeDigits_113 ?_
        refine lv_topi (fun x8 ex8 => ?_)
        refine lv_iconst (v := 4) hx hb dX8_takeDigits_114 (by decide) ?_
        refine lv_icmp_le (tgt := 122) hx hb dX8_takeDigits_115 (by decide) (fun c9 => ?_) (fun c9 => ?_)
        · refine lv_iconst (v := 2) hx hb dX8_takeDigits_122 (by decide) ?_
          refine va_put (D := g.1) (ci := 8) (v := Value.int 2) (ty := .int) (C := RX8) (T := TX8) (N := 10) hx hb hts inlX8 tyX8 tyX8_ok nmX8 hown hK hP hD hS 0 rfl rfl 4 (by decide) (hts _ q17_15) (fun _ h9 => h9) rfl (by decide +kernel) rfl rfl (Nat.le_of_ble_eq_true rfl) dX8_takeDigits_123 (fun H locs hP hD hS => ?_)
          have hP : va_P g.1 vwCl [(h0, .inr (8, [h0_spellings, .ref tp, .int (nI h0_length), .int (nI v1), .int 2, .int h0_start, .int h0_word, .long h0_spelling, .int v2, .int h0_sign])), (tp, .inl (gB g, 1600, .inl f_tp))] H := hP
          have hD : va_D A [(h0, .inr (8, [h0_spellings, .ref tp, .int (nI h0_length), .int (nI v1), .int 2, .int h0_start, .int h0_word, .long h0_spelling, .int v2, .int h0_sign])), (tp, .inl (gB g, 1600, .inl f_tp))] := hD
          exact xv hx hb hr hlocks hP hD hS ⟨(v1), (2), (v2), rfl, (by omega)⟩ (Nat.le_of_ble_eq_true rfl) (Nat.le_of_ble_eq_true rfl) dX8_takeDigits_126
        · refine lv_iconst (v := 4) hx hb dX8_takeDigits_118 (by decide) ?_
          refine lv_goto (tgt := 123) hx hb dX8_takeDigits_119 (by decide) ?_
          refine va_put (D := g.1) (ci := 8) (v := Value.int 4) (ty := .int) (C := RX8) (T := TX8) (N := 10) hx hb hts inlX8 tyX8 tyX8_ok nmX8 hown hK hP hD hS 0 rfl rfl 4 (by decide) (hts _ q17_15) (fun _ h9 => h9) rfl (by decide +kernel) rfl rfl (Nat.le_of_ble_eq_true rfl) dX8_takeDigits_123 (fun H locs hP hD hS => ?_)
          have hP : va_P g.1 vwCl [(h0, .inr (8, [h0_spellings, .ref tp, .int (nI h0_length), .int (nI v1), .int 4, .int h0_start, .int h0_word, .long h0_spelling, .int v2, .int h0_sign])), (tp, .inl (gB g, 1600, .inl f_tp))] H := hP
          have hD : va_D A [(h0, .inr (8, [h0_spellings, .ref tp, .int (nI h0_length), .int (nI v1), .int 4, .int h0_start, .int h0_word, .long h0_spelling, .int v2, .int h0_sign])), (tp, .inl (gB g, 1600, .inl f_tp))] := hD
          exact xv hx hb hr hlocks hP hD hS ⟨(v1), (4), (v2), rfl, (by omega)⟩ (Nat.le_of_ble_eq_true rfl) (Nat.le_of_ble_eq_true rfl) dX8_takeDigits_126
      · have hn10 := nnle (a := h0_length) (b := v1) (by omega) (by omega) c4
        refine lv_aload_n hx hb dX8_takeDigits_16 rfl (lv_at hl 0 rfl) ?_
        refine va_get (D := g.1) (ci := 8) (v := Value.ref tp) (C := RX8) (T := TX8) (N := 10) hx hb hts inlX8 hown hK hP 0 rfl rfl 1 (by decide) (hts _ q3_16) (fun _ h9 => h9) rfl dX8_takeDigits_17 ?_
        refine lv_aload_n hx hb dX8_takeDigits_20 rfl (lv_at hl 0 rfl) ?_
        refine va_get (D := g.1) (ci := 8) (v := Value.int (nI v1)) (C := RX8) (T := TX8) (N := 10) hx hb hts inlX8 hown hK hP 0 rfl rfl 3 (by decide) (hts _ q17_9) (fun _ h9 => h9) rfl dX8_takeDigits_21 ?_
        refine ba_ld hx hb hK hP 1 0 rfl rfl (v1) rfl (by omega) (by decide) dX8_takeDigits_24 ?_
        refine lv_topi (fun x11 ex11 => ?_)
        refine kI (wc := []) (wr := [(h0, .inr (8, [h0_spellings, .ref tp, .int (nI h0_length), .int (nI v1), .int h0_kind, .int h0_start, .int h0_word, .long h0_spelling, .int v2, .int h0_sign])), (tp, .inl (gB g, 1600, .inl f_tp))]) (rS (As := [.int x11]) (rest := []) hcx (c_X8_isDigit H.size) (gdS q18_9 q18_10 q3_7 q18_11) dvX8_isDigit.2 ⟨Nat.le_of_ble_eq_true rfl, Nat.le_of_ble_eq_true rfl⟩ (hP.sub [] rfl) (hD.sub [] (by decide) rfl) rfl hl.1 rfl (Nat.le_of_ble_eq_true rfl) dX8_takeDigits_25 ⟨Nat.le_of_ble_eq_true rfl, Nat.le_of_ble_eq_true rfl⟩) hP hD hS hA [] [0, 1] rfl rfl (by decide) (by decide) (fun r12 W' H locs hw hP hD hS => ?_)
        obtain ⟨⟨m13, hm13, rfl⟩, rfl⟩ := hw
        have hP : va_P g.1 vwCl [(h0, .inr (8, [h0_spellings, .ref tp, .int (nI h0_length), .int (nI v1), .int h0_kind, .int h0_start, .int h0_word, .long h0_spelling, .int v2, .int h0_sign])), (tp, .inl (gB g, 1600, .inl f_tp))] H := hP
        have hD : va_D A [(h0, .inr (8, [h0_spellings, .ref tp, .int (nI h0_length), .int (nI v1), .int h0_kind, .int h0_start, .int h0_word, .long h0_spelling, .int v2, .int h0_sign])), (tp, .inl (gB g, 1600, .inl f_tp))] := hD
        refine lv_if_eq (tgt := 68) hx hb dX8_takeDigits_28 (by decide) (fun c14 => ?_) (fun c14 => ?_)
        · have hn15 := neq (a := m13) (b := 0) (by omega) (by omega) c14
          refine lv_aload_n hx hb dX8_takeDigits_68 rfl (lv_at hl 0 rfl) ?_
          refine va_get (D := g.1) (ci := 8) (v := Value.int (nI v1)) (C := RX8) (T := TX8) (N := 10) hx hb hts inlX8 hown hK hP 0 rfl rfl 3 (by decide) (hts _ q17_9) (fun _ h9 => h9) rfl dX8_takeDigits_69 ?_
          refine lv_aload_n hx hb dX8_takeDigits_72 rfl (lv_at hl 0 rfl) ?_
          refine va_get (D := g.1) (ci := 8) (v := Value.int (nI h0_length)) (C := RX8) (T := TX8) (N := 10) hx hb hts inlX8 hown hK hP 0 rfl rfl 2 (by decide) (hts _ q17_8) (fun _ h9 => h9) rfl dX8_takeDigits_73 ?_
          refine lv_icmp_ge (tgt := 98) hx hb dX8_takeDigits_76 (by decide) (fun c16 => absurd c16 c4) (fun _ => ?_)
          refine lv_aload_n hx hb dX8_takeDigits_79 rfl (lv_at hl 0 rfl) ?_
          refine va_get (D := g.1) (ci := 8) (v := Value.ref tp) (C := RX8) (T := TX8) (N := 10) hx hb hts inlX8 hown hK hP 0 rfl rfl 1 (by decide) (hts _ q3_16) (fun _ h9 => h9) rfl dX8_takeDigits_80 ?_
          refine lv_aload_n hx hb dX8_takeDigits_83 rfl (lv_at hl 0 rfl) ?_
          refine va_get (D := g.1) (ci := 8) (v := Value.int (nI v1)) (C := RX8) (T := TX8) (N := 10) hx hb hts inlX8 hown hK hP 0 rfl rfl 3 (by decide) (hts _ q17_9) (fun _ h9 => h9) rfl dX8_takeDigits_84 ?_
          refine ba_ld hx hb hK hP 1 0 rfl rfl (v1) rfl (by omega) (by decide) dX8_takeDigits_87 ?_
          refine lv_topi (fun x17 ex17 => ?_)
          refine kI (wc := []) (wr := [(h0, .inr (8, [h0_spellings, .ref tp, .int (nI h0_length), .int (nI v1), .int h0_kind, .int h0_start, .int h0_word, .long h0_spelling, .int v2, .int h0_sign])), (tp, .inl (gB g, 1600, .inl f_tp))]) (rS (As := [.int x17]) (rest := []) hcx (c_X8_isLetter H.size) (gdS q17_20 q17_21 q3_7 q17_22) dvX8_isLetter.2 ⟨Nat.le_of_ble_eq_true rfl, Nat.le_of_ble_eq_true rfl⟩ (hP.sub [] rfl) (hD.sub [] (by decide) rfl) rfl hl.1 rfl (Nat.le_of_ble_eq_true rfl) dX8_takeDigits_88 ⟨Nat.le_of_ble_eq_true rfl, Nat.le_of_ble_eq_true rfl⟩) hP hD hS hA [] [0, 1] rfl rfl (by decide) (by decide) (fun r18 W' H locs hw hP hD hS => ?_)
          obtain ⟨⟨m19, hm19, rfl⟩, rfl⟩ := hw
          have hP : va_P g.1 vwCl [(h0, .inr (8, [h0_spellings, .ref tp, .int (nI h0_length), .int (nI v1), .int h0_kind, .int h0_start, .int h0_word, .long h0_spelling, .int v2, .int h0_sign])), (tp, .inl (gB g, 1600, .inl f_tp))] H := hP
          have hD : va_D A [(h0, .inr (8, [h0_spellings, .ref tp, .int (nI h0_length), .int (nI v1), .int h0_kind, .int h0_start, .int h0_word, .long h0_spelling, .int v2, .int h0_sign])), (tp, .inl (gB g, 1600, .inl f_tp))] := hD
          refine lv_if_eq (tgt := 98) hx hb dX8_takeDigits_91 (by decide) (fun c20 => ?_) (fun c20 => ?_)
          · have hn21 := neq (a := m19) (b := 0) (by omega) (by omega) c20
            refine lv_iconst (v := 0) hx hb dX8_takeDigits_98 (by decide) ?_
            refine lv_istore_n (lv' := [(1, .int 0), (0, .ref h0)]) hx hb dX8_takeDigits_99 rfl hl (by decide) rfl (fun ls hl => ?_)
            refine lv_aload_n hx hb dX8_takeDigits_100 rfl (lv_at hl 1 rfl) ?_
            refine lv_iload_n hx hb dX8_takeDigits_101 rfl (lv_at hl 0 rfl) ?_
            refine lv_if_ne (tgt := 118) hx hb dX8_takeDigits_102 (by decide) (fun c22 => absurd (by decide) c22) (fun _ => ?_)
            refine lv_aload_n hx hb dX8_takeDigits_105 rfl (lv_at hl 1 rfl) ?_
            refine va_get (D := g.1) (ci := 8) (v := Value.int (nI v1)) (C := RX8) (T := TX8) (N := 10) hx hb hts inlX8 hown hK hP 0 rfl rfl 3 (by decide) (hts _ q17_9) (fun _ h9 => h9) rfl dX8_takeDigits_106 ?_
            refine lv_aload_n hx hb dX8_takeDigits_109 rfl (lv_at hl 1 rfl) ?_
            refine va_get (D := g.1) (ci := 8) (v := Value.int h0_start) (C := RX8) (T := TX8) (N := 10) hx hb hts inlX8 hown hK hP 0 rfl rfl 5 (by decide) (hts _ q17_14) (fun _ h9 => h9) rfl dX8_takeDigits_110 ?_
            refine lv_isub hx hb dX8_takeDigits_113 ?_
            refine lv_topi (fun x23 ex23 => ?_)
            refine lv_iconst (v := 4) hx hb dX8_takeDigits_114 (by decide) ?_
            refine lv_icmp_le (tgt := 122) hx hb dX8_takeDigits_115 (by decide) (fun c24 => ?_) (fun c24 => ?_)
            · refine lv_iconst (v := 2) hx hb dX8_takeDigits_122 (by decide) ?_
              refine va_put (D := g.1) (ci := 8) (v := Value.int 2) (ty := .int) (C := RX8) (T := TX8) (N := 10) hx hb hts inlX8 tyX8 tyX8_ok nmX8 hown hK hP hD hS 0 rfl rfl 4 (by decide) (hts _ q17_15) (fun _ h9 => h9) rfl (by decide +kernel) rfl rfl (Nat.le_of_ble_eq_true rfl) dX8_takeDigits_123 (fun H locs hP hD hS => ?_)
              have hP : va_P g.1 vwCl [(h0, .inr (8, [h0_spellings, .ref tp, .int (nI h0_length), .int (nI v1), .int 2, .int h0_start, .int h0_word, .long h0_spelling, .int v2, .int h0_sign])), (tp, .inl (gB g, 1600, .inl f_tp))] H := hP
              have hD : va_D A [(h0, .inr (8, [h0_spellings, .ref tp, .int (nI h0_length), .int (nI v1), .int 2, .int h0_start, .int h0_word, .long h0_spelling, .int v2, .int h0_sign])), (tp, .inl (gB g, 1600, .inl f_tp))] := hD
              exact xv hx hb hr hlocks hP hD hS ⟨(v1), (2), (v2), rfl, (by omega)⟩ (Nat.le_of_ble_eq_true rfl) (Nat.le_of_ble_eq_true rfl) dX8_takeDigits_126
            · refine lv_iconst (v := 4) hx hb dX8_takeDigits_118 (by decide) ?_
              refine lv_goto (tgt := 123) hx hb dX8_takeDigits_119 (by decide) ?_
              refine va_put (D := g.1) (ci := 8) (v := Value.int 4) (ty := .int) (C := RX8) (T := TX8) (N := 10) hx hb hts inlX8 tyX8 tyX8_ok nmX8 hown hK hP hD hS 0 rfl rfl 4 (by decide) (hts _ q17_15) (fun _ h9 => h9) rfl (by decide +kernel) rfl rfl (Nat.le_of_ble_eq_true rfl) dX8_takeDigits_123 (fun H locs hP hD hS => ?_)
              have hP : va_P g.1 vwCl [(h0, .inr (8, [h0_spellings, .ref tp, .int (nI h0_length), .int (nI v1), .int 4, .int h0_start, .int h0_word, .long h0_spelling, .int v2, .int h0_sign])), (tp, .inl (gB g, 1600, .inl f_tp))] H := hP
              have hD : va_D A [(h0, .inr (8, [h0_spellings, .ref tp, .int (nI h0_length), .int (nI v1), .int 4, .int h0_start, .int h0_word, .long h0_spelling, .int v2, .int h0_sign])), (tp, .inl (gB g, 1600, .inl f_tp))] := hD
              exact xv hx hb hr hlocks hP hD hS ⟨(v1), (4), (v2), rfl, (by omega)⟩ (Nat.le_of_ble_eq_true rfl) (Nat.le_of_ble_eq_true rfl) dX8_takeDigits_126
          · have hn25 := nneq (a := m19) (b := 0) (by omega) (by omega) c20
            refine lv_iconst (v := 1) hx hb dX8_takeDigits_94 (by decide) ?_
            refine lv_goto (tgt := 99) hx hb dX8_takeDigits_95 (by decide) ?_
            refine lv_istore_n (lv' := [(1, .int 1), (0, .ref h0)]) hx hb dX8_takeDigits_99 rfl hl (by decide) rfl (fun ls hl => ?_)
            refine lv_aload_n hx hb dX8_takeDigits_100 rfl (lv_at hl 1 rfl) ?_
            refine lv_iload_n hx hb dX8_takeDigits_101 rfl (lv_at hl 0 rfl) ?_
            refine lv_if_ne (tgt := 118) hx hb dX8_takeDigits_102 (by decide) (fun _ => ?_) (fun c26 => absurd c26 (by decide))
            refine lv_iconst (v := 4) hx hb dX8_takeDigits_118 (by decide) ?_
            refine lv_goto (tgt := 123) hx hb dX8_takeDigits_119 (by decide) ?_
            refine va_put (D := g.1) (ci := 8) (v := Value.int 4) (ty := .int) (C := RX8) (T := TX8) (N := 10) hx hb hts inlX8 tyX8 tyX8_ok nmX8 hown hK hP hD hS 0 rfl rfl 4 (by decide) (hts _ q17_15) (fun _ h9 => h9) rfl (by decide +kernel) rfl rfl (Nat.le_of_ble_eq_true rfl) dX8_takeDigits_123 (fun H locs hP hD hS => ?_)
            have hP : va_P g.1 vwCl [(h0, .inr (8, [h0_spellings, .ref tp, .int (nI h0_length), .int (nI v1), .int 4, .int h0_start, .int h0_word, .long h0_spelling, .int v2, .int h0_sign])), (tp, .inl (gB g, 1600, .inl f_tp))] H := hP
            have hD : va_D A [(h0, .inr (8, [h0_spellings, .ref tp, .int (nI h0_length), .int (nI v1), .int 4, .int h0_start, .int h0_word, .long h0_spelling, .int v2, .int h0_sign])), (tp, .inl (gB g, 1600, .inl f_tp))] := hD
            exact xv hx hb hr hlocks hP hD hS ⟨(v1), (4), (v2), rfl, (by omega)⟩ (Nat.le_of_ble_eq_true rfl) (Nat.le_of_ble_eq_true rfl) dX8_takeDigits_126
        · have hn27 := nneq (a := m13) (b := 0) (by omega) (by omega) c14
          refine lv_aload_n hx hb dX8_takeDigits_31 rfl (lv_at hl 0 rfl) ?_
          refine lv_aload_n hx hb dX8_takeDigits_32 rfl (lv_at hl 0 rfl) ?_
          refine va_get (D := g.1) (ci := 8) (v := Value.int v2) (C := RX8) (T := TX8) (N := 10) hx hb hts inlX8 hown hK hP 0 rfl rfl 8 (by decide) (hts _ q18_16) (fun _ h9 => h9) rfl dX8_takeDigits_33 ?_
          refine lv_bipush (v := 10) hx hb dX8_takeDigits_36 (by decide) ?_
          refine lv_imul hx hb dX8_takeDigits_38 ?_
          refine lv_topi (fun x28 ex28 => ?_)
          refine lv_aload_n hx hb dX8_takeDigits_39 rfl (lv_at hl 0 rfl) ?_
          refine va_get (D := g.1) (ci := 8) (v := Value.ref tp) (C := RX8) (T := TX8) (N := 10) hx hb hts inlX8 hown hK hP 0 rfl rfl 1 (by decide) (hts _ q3_16) (fun _ h9 => h9) rfl dX8_takeDigits_40 ?_
          refine lv_aload_n hx hb dX8_takeDigits_43 rfl (lv_at hl 0 rfl) ?_
          refine va_get (D := g.1) (ci := 8) (v := Value.int (nI v1)) (C := RX8) (T := TX8) (N := 10) hx hb hts inlX8 hown hK hP 0 rfl rfl 3 (by decide) (hts _ q17_9) (fun _ h9 => h9) rfl dX8_takeDigits_44 ?_
          refine ba_ld hx hb hK hP 1 0 rfl rfl (v1) rfl (by omega) (by decide) dX8_takeDigits_47 ?_
          refine lv_topi (fun x29 ex29 => ?_)
          refine lv_bipush (v := 48) hx hb dX8_takeDigits_48 (by decide) ?_
          refine lv_isub hx hb dX8_takeDigits_50 ?_
          refine lv_topi (fun x30 ex30 => ?_)
          refine lv_iadd hx hb dX8_takeDigits_51 ?_
          refine lv_topi (fun x31 ex31 => ?_)
          refine va_put (D := g.1) (ci := 8) (v := Value.int x31) (ty := .int) (C := RX8) (T := TX8) (N := 10) hx hb hts inlX8 tyX8 tyX8_ok nmX8 hown hK hP hD hS 0 rfl rfl 8 (by decide) (hts _ q18_16) (fun _ h9 => h9) rfl (by decide +kernel) rfl rfl (Nat.le_of_ble_eq_true rfl) dX8_takeDigits_52 (fun H locs hP hD hS => ?_)
          have hP : va_P g.1 vwCl [(h0, .inr (8, [h0_spellings, .ref tp, .int (nI h0_length), .int (nI v1), .int h0_kind, .int h0_start, .int h0_word, .long h0_spelling, .int x31, .int h0_sign])), (tp, .inl (gB g, 1600, .inl f_tp))] H := hP
          have hD : va_D A [(h0, .inr (8, [h0_spellings, .ref tp, .int (nI h0_length), .int (nI v1), .int h0_kind, .int h0_start, .int h0_word, .long h0_spelling, .int x31, .int h0_sign])), (tp, .inl (gB g, 1600, .inl f_tp))] := hD
          refine lv_aload_n hx hb dX8_takeDigits_55 rfl (lv_at hl 0 rfl) ?_
          refine lv_dup hx hb dX8_takeDigits_56 rfl ?_
          refine va_get (D := g.1) (ci := 8) (v := Value.int (nI v1)) (C := RX8) (T := TX8) (N := 10) hx hb hts inlX8 hown hK hP 0 rfl rfl 3 (by decide) (hts _ q17_9) (fun _ h9 => h9) rfl dX8_takeDigits_57 ?_
          refine lv_iconst (v := 1) hx hb dX8_takeDigits_60 (by decide) ?_
          refine lv_iadd hx hb dX8_takeDigits_61 ?_
          refine lv_tope (y := (nI (v1 + 1))) (nI_add (v1) (1)) ?_
          refine va_put (D := g.1) (ci := 8) (v := Value.int (nI (v1 + 1))) (ty := .int) (C := RX8) (T := TX8) (N := 10) hx hb hts inlX8 tyX8 tyX8_ok nmX8 hown hK hP hD hS 0 rfl rfl 3 (by decide) (hts _ q17_9) (fun _ h9 => h9) rfl (by decide +kernel) rfl rfl (Nat.le_of_ble_eq_true rfl) dX8_takeDigits_62 (fun H locs hP hD hS => ?_)
          have hP : va_P g.1 vwCl [(h0, .inr (8, [h0_spellings, .ref tp, .int (nI h0_length), .int (nI (v1 + 1)), .int h0_kind, .int h0_start, .int h0_word, .long h0_spelling, .int x31, .int h0_sign])), (tp, .inl (gB g, 1600, .inl f_tp))] H := hP
          have hD : va_D A [(h0, .inr (8, [h0_spellings, .ref tp, .int (nI h0_length), .int (nI (v1 + 1)), .int h0_kind, .int h0_start, .int h0_word, .long h0_spelling, .int x31, .int h0_sign])), (tp, .inl (gB g, 1600, .inl f_tp))] := hD
          refine lv_goto (tgt := 5) hx hb dX8_takeDigits_65 (by decide) ?_
          exact ihloop3 H locs ls (v1 + 1) (x31) (by omega) (by omega) hP hD hS (lv_sub hl [0] rfl)
  exact loop3 _ H locs ls (h0_at) (0) (by omega) (Nat.lt_succ_self _) hP hD hS hl

set_option maxHeartbeats 4000000 in
set_option maxRecDepth 100000 in
theorem c_X8_advance {l : Launch} {g : Gx} {z : Sg} {h0 tp sp : Nat} {h0_length : Nat} {h0_at : Nat} {h0_kind : Int32} {h0_start : Int32} {h0_word : Int32} {h0_spelling : Int64} {h0_number : Int32} {h0_sign : Int32} {f_tp : Nat → Int32} {f_sp : Nat → Int64} (hb_h0_length : h0_length ≤ 1600) (hb_h0_at : h0_at ≤ 1600) (hb_h0_word : XM 17 h0_word) : MVe l g z yX8_advance cX8_advance 1 6 0 0 [.ref h0] [(h0, .inr (8, [.ref sp, .ref tp, .int (nI h0_length), .int (nI h0_at), .int h0_kind, .int h0_start, .int h0_word, .long h0_spelling, .int h0_number, .int h0_sign])), (tp, .inl (gB g, 1600, .inl f_tp)), (sp, .inl (gJ g, 18, .inr (.inl f_sp)))] (fun W' => ∃ (z0 : Nat) (z1 : Int32) (z2 : Int32) (z3 : Int32) (z4 : Int64) (z5 : Int32) (z6 : Int32), W' = [(h0, .inr (8, [.ref sp, .ref tp, .int (nI h0_length), .int (nI z0), .int z1, .int z2, .int z3, .long z4, .int z5, .int z6])), (tp, .inl (gB g, 1600, .inl f_tp)), (sp, .inl (gJ g, 18, .inr (.inl f_sp)))] ∧ z0 ≤ 1600 ∧ XM 17 z3) := by
  refine MVeof (by decide) (fun _ => Nat.le_of_ble_eq_true rfl) ?_
  intro p e s m below meth c A ls H locs hcx hF hA hP hD hS hl
  obtain ⟨hx, hb, hml, hr, hlocks, hown, hts, hE, hnm⟩ := id hcx
  have hown : s.vm.findClass RX8 = some m.cls := hown
  have hK := hE.1
  have hl : lv_has ls 1 [(0, .ref h0)] := hl
  have loop2 : ∀ (n : Nat) (H : Heap) (locs : List Loc) (ls : Array Slot) (v1 : Nat), (v1 ≤ 1600) → 1601 - v1 < n → va_P g.1 vwCl [(h0, .inr (8, [.ref sp, .ref tp, .int (nI h0_length), .int (nI v1), .int h0_kind, .int h0_start, .int h0_word, .long h0_spelling, .int h0_number, .int h0_sign])), (tp, .inl (gB g, 1600, .inl f_tp)), (sp, .inl (gJ g, 18, .inr (.inl f_sp)))] H → va_D A [(h0, .inr (8, [.ref sp, .ref tp, .int (nI h0_length), .int (nI v1), .int h0_kind, .int h0_start, .int h0_word, .long h0_spelling, .int h0_number, .int h0_sign])), (tp, .inl (gB g, 1600, .inl f_tp)), (sp, .inl (gJ g, 18, .inr (.inl f_sp)))] → va_S A s.heap H locs → lv_has ls 1 [(0, .ref h0)] → W p l e (rmD 6 0 0) s m ([Value.ref h0] : List Value).toArray below meth c H locs 0 0 (MQ below (QV g A (fun W' => ∃ (z0 : Nat) (z1 : Int32) (z2 : Int32) (z3 : Int32) (z4 : Int64) (z5 : Int32) (z6 : Int32), W' = [(h0, .inr (8, [.ref sp, .ref tp, .int (nI h0_length), .int (nI z0), .int z1, .int z2, .int z3, .long z4, .int z5, .int z6])), (tp, .inl (gB g, 1600, .inl f_tp)), (sp, .inl (gJ g, 18, .inr (.inl f_sp)))] ∧ z0 ≤ 1600 ∧ XM 17 z3)) ([Value.ref h0] : List Value).toArray s 0 0 A) (F0 m 0 ls []) := by
    intro n
    induction n with
    | zero => intro H locs ls v1 hv1 hmloop2; exact absurd hmloop2 (Nat.not_lt_zero _)
    | succ n ihloop2 =>
      intro H locs ls v1 hv1 hmloop2 hP hD hS hl
      refine lv_aload_n hx hb dX8_advance_0 rfl (lv_at hl 0 rfl) ?_
      refine va_get (D := g.1) (ci := 8) (v := Value.int (nI v1)) (C := RX8) (T := TX8) (N := 10) hx hb hts inlX8 hown hK hP 0 rfl rfl 3 (by decide) (hts _ q17_9) (fun _ h9 => h9) rfl dX8_advance_1 ?_
      refine lv_aload_n hx hb dX8_advance_4 rfl (lv_at hl 0 rfl) ?_
      refine va_get (D := g.1) (ci := 8) (v := Value.int (nI h0_length)) (C := RX8) (T := TX8) (N := 10) hx hb hts inlX8 hown hK hP 0 rfl rfl 2 (by decide) (hts _ q17_8) (fun _ h9 => h9) rfl dX8_advance_5 ?_
      refine lv_icmp_ge (tgt := 39) hx hb dX8_advance_8 (by decide) (fun c3 => ?_) (fun c3 => ?_)
      · have hn4 := nle (a := h0_length) (b := v1) (by omega) (by omega) c3
        refine lv_aload_n hx hb dX8_advance_39 rfl (lv_at hl 0 rfl) ?_
        refine lv_aload_n hx hb dX8_advance_40 rfl (lv_at hl 0 rfl) ?_
        refine va_get (D := g.1) (ci := 8) (v := Value.int (nI v1)) (C := RX8) (T := TX8) (N := 10) hx hb hts inlX8 hown hK hP 0 rfl rfl 3 (by decide) (hts _ q17_9) (fun _ h9 => h9) rfl dX8_advance_41 ?_
        refine va_put (D := g.1) (ci := 8) (v := Value.int (nI v1)) (ty := .int) (C := RX8) (T := TX8) (N := 10) hx hb hts inlX8 tyX8 tyX8_ok nmX8 hown hK hP hD hS 0 rfl rfl 5 (by decide) (hts _ q17_14) (fun _ h9 => h9) rfl (by decide +kernel) rfl rfl (Nat.le_of_ble_eq_true rfl) dX8_advance_44 (fun H locs hP hD hS => ?_)
        have hP : va_P g.1 vwCl [(h0, .inr (8, [.ref sp, .ref tp, .int (nI h0_length), .int (nI v1), .int h0_kind, .int (nI v1), .int h0_word, .long h0_spelling, .int h0_number, .int h0_sign])), (tp, .inl (gB g, 1600, .inl f_tp)), (sp, .inl (gJ g, 18, .inr (.inl f_sp)))] H := hP
        have hD : va_D A [(h0, .inr (8, [.ref sp, .ref tp, .int (nI h0_length), .int (nI v1), .int h0_kind, .int (nI v1), .int h0_word, .long h0_spelling, .int h0_number, .int h0_sign])), (tp, .inl (gB g, 1600, .inl f_tp)), (sp, .inl (gJ g, 18, .inr (.inl f_sp)))] := hD
        refine lv_aload_n hx hb dX8_advance_47 rfl (lv_at hl 0 rfl) ?_
        refine va_get (D := g.1) (ci := 8) (v := Value.int (nI v1)) (C := RX8) (T := TX8) (N := 10) hx hb hts inlX8 hown hK hP 0 rfl rfl 3 (by decide) (hts _ q17_9) (fun _ h9 => h9) rfl dX8_advance_48 ?_
        refine lv_aload_n hx hb dX8_advance_51 rfl (lv_at hl 0 rfl) ?_
        refine va_get (D := g.1) (ci := 8) (v := Value.int (nI h0_length)) (C := RX8) (T := TX8) (N := 10) hx hb hts inlX8 hown hK hP 0 rfl rfl 2 (by decide) (hts _ q17_8) (fun _ h9 => h9) rfl dX8_advance_52 ?_
        refine lv_icmp_lt (tgt := 66) hx hb dX8_advance_55 (by decide) (fun c5 => absurd c5 (nI_nlt (a := v1) (b := h0_length) (by omega) (by omega))) (fun _ => ?_)
        refine lv_aload_n hx hb dX8_advance_58 rfl (lv_at hl 0 rfl) ?_
        refine lv_iconst (v := 0) hx hb dX8_advance_59 (by decide) ?_
        refine va_put (D := g.1) (ci := 8) (v := Value.int 0) (ty := .int) (C := RX8) (T := TX8) (N := 10) hx hb hts inlX8 tyX8 tyX8_ok nmX8 hown hK hP hD hS 0 rfl rfl 4 (by decide) (hts _ q17_15) (fun _ h9 => h9) rfl (by decide +kernel) rfl rfl (Nat.le_of_ble_eq_true rfl) dX8_advance_60 (fun H locs hP hD hS => ?_)
        have hP : va_P g.1 vwCl [(h0, .inr (8, [.ref sp, .ref tp, .int (nI h0_length), .int (nI v1), .int 0, .int (nI v1), .int h0_word, .long h0_spelling, .int h0_number, .int h0_sign])), (tp, .inl (gB g, 1600, .inl f_tp)), (sp, .inl (gJ g, 18, .inr (.inl f_sp)))] H := hP
        have hD : va_D A [(h0, .inr (8, [.ref sp, .ref tp, .int (nI h0_length), .int (nI v1), .int 0, .int (nI v1), .int h0_word, .long h0_spelling, .int h0_number, .int h0_sign])), (tp, .inl (gB g, 1600, .inl f_tp)), (sp, .inl (gJ g, 18, .inr (.inl f_sp)))] := hD
        refine lv_goto (tgt := 159) hx hb dX8_advance_63 (by decide) ?_
        exact xv hx hb hr hlocks hP hD hS ⟨(v1), (0), ((nI v1)), (h0_word), (h0_spelling), (h0_number), (h0_sign), rfl, (by omega), hb_h0_word⟩ (Nat.le_of_ble_eq_true rfl) (Nat.le_of_ble_eq_true rfl) dX8_advance_159
      · have hn6 := nnle (a := h0_length) (b := v1) (by omega) (by omega) c3
        refine lv_aload_n hx hb dX8_advance_11 rfl (lv_at hl 0 rfl) ?_
        refine va_get (D := g.1) (ci := 8) (v := Value.ref tp) (C := RX8) (T := TX8) (N := 10) hx hb hts inlX8 hown hK hP 0 rfl rfl 1 (by decide) (hts _ q3_16) (fun _ h9 => h9) rfl dX8_advance_12 ?_
        refine lv_aload_n hx hb dX8_advance_15 rfl (lv_at hl 0 rfl) ?_
        refine va_get (D := g.1) (ci := 8) (v := Value.int (nI v1)) (C := RX8) (T := TX8) (N := 10) hx hb hts inlX8 hown hK hP 0 rfl rfl 3 (by decide) (hts _ q17_9) (fun _ h9 => h9) rfl dX8_advance_16 ?_
        refine ba_ld hx hb hK hP 1 0 rfl rfl (v1) rfl (by omega) (by decide) dX8_advance_19 ?_
        refine lv_topi (fun x7 ex7 => ?_)
        refine kI (wc := []) (wr := [(h0, .inr (8, [.ref sp, .ref tp, .int (nI h0_length), .int (nI v1), .int h0_kind, .int h0_start, .int h0_word, .long h0_spelling, .int h0_number, .int h0_sign])), (tp, .inl (gB g, 1600, .inl f_tp)), (sp, .inl (gJ g, 18, .inr (.inl f_sp)))]) (rS (As := [.int x7]) (rest := []) hcx (c_X8_isBlank H.size) (gdS q17_17 q17_18 q3_7 q17_19) dvX8_isBlank.2 ⟨Nat.le_of_ble_eq_true rfl, Nat.le_of_ble_eq_true rfl⟩ (hP.sub [] rfl) (hD.sub [] (by decide) rfl) rfl hl.1 rfl (Nat.le_of_ble_eq_true rfl) dX8_advance_20 ⟨Nat.le_of_ble_eq_true rfl, Nat.le_of_ble_eq_true rfl⟩) hP hD hS hA [] [0, 1, 2] rfl rfl (by decide) (by decide) (fun r8 W' H locs hw hP hD hS => ?_)
        obtain ⟨⟨m9, hm9, rfl⟩, rfl⟩ := hw
        have hP : va_P g.1 vwCl [(h0, .inr (8, [.ref sp, .ref tp, .int (nI h0_length), .int (nI v1), .int h0_kind, .int h0_start, .int h0_word, .long h0_spelling, .int h0_number, .int h0_sign])), (tp, .inl (gB g, 1600, .inl f_tp)), (sp, .inl (gJ g, 18, .inr (.inl f_sp)))] H := hP
        have hD : va_D A [(h0, .inr (8, [.ref sp, .ref tp, .int (nI h0_length), .int (nI v1), .int h0_kind, .int h0_start, .int h0_word, .long h0_spelling, .int h0_number, .int h0_sign])), (tp, .inl (gB g, 1600, .inl f_tp)), (sp, .inl (gJ g, 18, .inr (.inl f_sp)))] := hD
        refine lv_if_eq (tgt := 39) hx hb dX8_advance_23 (by decide) (fun c10 => ?_) (fun c10 => ?_)
        · have hn11 := neq (a := m9) (b := 0) (by omega) (by omega) c10
          refine lv_aload_n hx hb dX8_advance_39 rfl (lv_at hl 0 rfl) ?_
          refine lv_aload_n hx hb dX8_advance_40 rfl (lv_at hl 0 rfl) ?_
          refine va_get (D := g.1) (ci := 8) (v := Value.int (nI v1)) (C := RX8) (T := TX8) (N := 10) hx hb hts inlX8 hown hK hP 0 rfl rfl 3 (by decide) (hts _ q17_9) (fun _ h9 => h9) rfl dX8_advance_41 ?_
          refine va_put (D := g.1) (ci := 8) (v := Value.int (nI v1)) (ty := .int) (C := RX8) (T := TX8) (N := 10) hx hb hts inlX8 tyX8 tyX8_ok nmX8 hown hK hP hD hS 0 rfl rfl 5 (by decide) (hts _ q17_14) (fun _ h9 => h9) rfl (by decide +kernel) rfl rfl (Nat.le_of_ble_eq_true rfl) dX8_advance_44 (fun H locs hP hD hS => ?_)
          have hP : va_P g.1 vwCl [(h0, .inr (8, [.ref sp, .ref tp, .int (nI h0_length), .int (nI v1), .int h0_kind, .int (nI v1), .int h0_word, .long h0_spelling, .int h0_number, .int h0_sign])), (tp, .inl (gB g, 1600, .inl f_tp)), (sp, .inl (gJ g, 18, .inr (.inl f_sp)))] H := hP
          have hD : va_D A [(h0, .inr (8, [.ref sp, .ref tp, .int (nI h0_length), .int (nI v1), .int h0_kind, .int (nI v1), .int h0_word, .long h0_spelling, .int h0_number, .int h0_sign])), (tp, .inl (gB g, 1600, .inl f_tp)), (sp, .inl (gJ g, 18, .inr (.inl f_sp)))] := hD
          refine lv_aload_n hx hb dX8_advance_47 rfl (lv_at hl 0 rfl) ?_
          refine va_get (D := g.1) (ci := 8) (v := Value.int (nI v1)) (C := RX8) (T := TX8) (N := 10) hx hb hts inlX8 hown hK hP 0 rfl rfl 3 (by decide) (hts _ q17_9) (fun _ h9 => h9) rfl dX8_advance_48 ?_
          refine lv_aload_n hx hb dX8_advance_51 rfl (lv_at hl 0 rfl) ?_
          refine va_get (D := g.1) (ci := 8) (v := Value.int (nI h0_length)) (C := RX8) (T := TX8) (N := 10) hx hb hts inlX8 hown hK hP 0 rfl rfl 2 (by decide) (hts _ q17_8) (fun _ h9 => h9) rfl dX8_advance_52 ?_
          refine lv_icmp_lt (tgt := 66) hx hb dX8_advance_55 (by decide) (fun _ => ?_) (fun c12 => absurd (nI_lt (a := v1) (b := h0_length) (by omega) (by omega)) c12)
          refine lv_aload_n hx hb dX8_advance_66 rfl (lv_at hl 0 rfl) ?_
          refine va_get (D := g.1) (ci := 8) (v := Value.ref tp) (C := RX8) (T := TX8) (N := 10) hx hb hts inlX8 hown hK hP 0 rfl rfl 1 (by decide) (hts _ q3_16) (fun _ h9 => h9) rfl dX8_advance_67 ?_
          refine lv_aload_n hx hb dX8_advance_70 rfl (lv_at hl 0 rfl) ?_
          refine va_get (D := g.1) (ci := 8) (v := Value.int (nI v1)) (C := RX8) (T := TX8) (N := 10) hx hb hts inlX8 hown hK hP 0 rfl rfl 3 (by decide) (hts _ q17_9) (fun _ h9 => h9) rfl dX8_advance_71 ?_
          refine ba_ld hx hb hK hP 1 0 rfl rfl (v1) rfl (by omega) (by decide) dX8_advance_74 ?_
          refine lv_topi (fun x13 ex13 => ?_)
          refine kI (wc := []) (wr := [(h0, .inr (8, [.ref sp, .ref tp, .int (nI h0_length), .int (nI v1), .int h0_kind, .int (nI v1), .int h0_word, .long h0_spelling, .int h0_number, .int h0_sign])), (tp, .inl (gB g, 1600, .inl f_tp)), (sp, .inl (gJ g, 18, .inr (.inl f_sp)))]) (rS (As := [.int x13]) (rest := []) hcx (c_X8_isLetter H.size) (gdS q17_20 q17_21 q3_7 q17_22) dvX8_isLetter.2 ⟨Nat.le_of_ble_eq_true rfl, Nat.le_of_ble_eq_true rfl⟩ (hP.sub [] rfl) (hD.sub [] (by decide) rfl) rfl hl.1 rfl (Nat.le_of_ble_eq_true rfl) dX8_advance_75 ⟨Nat.le_of_ble_eq_true rfl, Nat.le_of_ble_eq_true rfl⟩) hP hD hS hA [] [0, 1, 2] rfl rfl (by decide) (by decide) (fun r14 W' H locs hw hP hD hS => ?_)
          obtain ⟨⟨m15, hm15, rfl⟩, rfl⟩ := hw
          have hP : va_P g.1 vwCl [(h0, .inr (8, [.ref sp, .ref tp, .int (nI h0_length), .int (nI v1), .int h0_kind, .int (nI v1), .int h0_word, .long h0_spelling, .int h0_number, .int h0_sign])), (tp, .inl (gB g, 1600, .inl f_tp)), (sp, .inl (gJ g, 18, .inr (.inl f_sp)))] H := hP
          have hD : va_D A [(h0, .inr (8, [.ref sp, .ref tp, .int (nI h0_length), .int (nI v1), .int h0_kind, .int (nI v1), .int h0_word, .long h0_spelling, .int h0_number, .int h0_sign])), (tp, .inl (gB g, 1600, .inl f_tp)), (sp, .inl (gJ g, 18, .inr (.inl f_sp)))] := hD
          refine lv_if_eq (tgt := 88) hx hb dX8_advance_78 (by decide) (fun c16 => ?_) (fun c16 => ?_)
          · have hn17 := neq (a := m15) (b := 0) (by omega) (by omega) c16
            refine lv_aload_n hx hb dX8_advance_88 rfl (lv_at hl 0 rfl) ?_
            refine va_get (D := g.1) (ci := 8) (v := Value.ref tp) (C := RX8) (T := TX8) (N := 10) hx hb hts inlX8 hown hK hP 0 rfl rfl 1 (by decide) (hts _ q3_16) (fun _ h9 => h9) rfl dX8_advance_89 ?_
            refine lv_aload_n hx hb dX8_advance_92 rfl (lv_at hl 0 rfl) ?_
            refine va_get (D := g.1) (ci := 8) (v := Value.int (nI v1)) (C := RX8) (T := TX8) (N := 10) hx hb hts inlX8 hown hK hP 0 rfl rfl 3 (by decide) (hts _ q17_9) (fun _ h9 => h9) rfl dX8_advance_93 ?_
            refine ba_ld hx hb hK hP 1 0 rfl rfl (v1) rfl (by omega) (by decide) dX8_advance_96 ?_
            refine lv_topi (fun x18 ex18 => ?_)
            refine kI (wc := []) (wr := [(h0, .inr (8, [.ref sp, .ref tp, .int (nI h0_length), .int (nI v1), .int h0_kind, .int (nI v1), .int h0_word, .long h0_spelling, .int h0_number, .int h0_sign])), (tp, .inl (gB g, 1600, .inl f_tp)), (sp, .inl (gJ g, 18, .inr (.inl f_sp)))]) (rS (As := [.int x18]) (rest := []) hcx (c_X8_isDigit H.size) (gdS q18_9 q18_10 q3_7 q18_11) dvX8_isDigit.2 ⟨Nat.le_of_ble_eq_true rfl, Nat.le_of_ble_eq_true rfl⟩ (hP.sub [] rfl) (hD.sub [] (by decide) rfl) rfl hl.1 rfl (Nat.le_of_ble_eq_true rfl) dX8_advance_97 ⟨Nat.le_of_ble_eq_true rfl, Nat.le_of_ble_eq_true rfl⟩) hP hD hS hA [] [0, 1, 2] rfl rfl (by decide) (by decide) (fun r19 W' H locs hw hP hD hS => ?_)
            obtain ⟨⟨m20, hm20, rfl⟩, rfl⟩ := hw
            have hP : va_P g.1 vwCl [(h0, .inr (8, [.ref sp, .ref tp, .int (nI h0_length), .int (nI v1), .int h0_kind, .int (nI v1), .int h0_word, .long h0_spelling, .int h0_number, .int h0_sign])), (tp, .inl (gB g, 1600, .inl f_tp)), (sp, .inl (gJ g, 18, .inr (.inl f_sp)))] H := hP
            have hD : va_D A [(h0, .inr (8, [.ref sp, .ref tp, .int (nI h0_length), .int (nI v1), .int h0_kind, .int (nI v1), .int h0_word, .long h0_spelling, .int h0_number, .int h0_sign])), (tp, .inl (gB g, 1600, .inl f_tp)), (sp, .inl (gJ g, 18, .inr (.inl f_sp)))] := hD
            refine lv_if_eq (tgt := 110) hx hb dX8_advance_100 (by decide) (fun c21 => ?_) (fun c21 => ?_)
            · have hn22 := neq (a := m20) (b := 0) (by omega) (by omega) c21
              refine lv_aload_n hx hb dX8_advance_110 rfl (lv_at hl 0 rfl) ?_
              refine lv_aload_n hx hb dX8_advance_111 rfl (lv_at hl 0 rfl) ?_
              refine va_get (D := g.1) (ci := 8) (v := Value.ref tp) (C := RX8) (T := TX8) (N := 10) hx hb hts inlX8 hown hK hP 0 rfl rfl 1 (by decide) (hts _ q3_16) (fun _ h9 => h9) rfl dX8_advance_112 ?_
              refine lv_aload_n hx hb dX8_advance_115 rfl (lv_at hl 0 rfl) ?_
              refine va_get (D := g.1) (ci := 8) (v := Value.int (nI v1)) (C := RX8) (T := TX8) (N := 10) hx hb hts inlX8 hown hK hP 0 rfl rfl 3 (by decide) (hts _ q17_9) (fun _ h9 => h9) rfl dX8_advance_116 ?_
              refine ba_ld hx hb hK hP 1 0 rfl rfl (v1) rfl (by omega) (by decide) dX8_advance_119 ?_
              refine lv_topi (fun x23 ex23 => ?_)
              refine va_put (D := g.1) (ci := 8) (v := Value.int x23) (ty := .int) (C := RX8) (T := TX8) (N := 10) hx hb hts inlX8 tyX8 tyX8_ok nmX8 hown hK hP hD hS 0 rfl rfl 9 (by decide) (hts _ q17_16) (fun _ h9 => h9) rfl (by decide +kernel) rfl rfl (Nat.le_of_ble_eq_true rfl) dX8_advance_120 (fun H locs hP hD hS => ?_)
              have hP : va_P g.1 vwCl [(h0, .inr (8, [.ref sp, .ref tp, .int (nI h0_length), .int (nI v1), .int h0_kind, .int (nI v1), .int h0_word, .long h0_spelling, .int h0_number, .int x23])), (tp, .inl (gB g, 1600, .inl f_tp)), (sp, .inl (gJ g, 18, .inr (.inl f_sp)))] H := hP
              have hD : va_D A [(h0, .inr (8, [.ref sp, .ref tp, .int (nI h0_length), .int (nI v1), .int h0_kind, .int (nI v1), .int h0_word, .long h0_spelling, .int h0_number, .int x23])), (tp, .inl (gB g, 1600, .inl f_tp)), (sp, .inl (gJ g, 18, .inr (.inl f_sp)))] := hD
              refine lv_aload_n hx hb dX8_advance_123 rfl (lv_at hl 0 rfl) ?_
              refine va_ldcS hx hb hown hF.1.1 dX8_advance_124 ?_
              refine lv_aload_n hx hb dX8_advance_126 rfl (lv_at hl 0 rfl) ?_
              refine va_get (D := g.1) (ci := 8) (v := Value.int x23) (C := RX8) (T := TX8) (N := 10) hx hb hts inlX8 hown hK hP 0 rfl rfl 9 (by decide) (hts _ q17_16) (fun _ h9 => h9) rfl dX8_advance_127 ?_
              refine lv_sipush (v := 255) hx hb dX8_advance_130 (by decide) ?_
              refine lv_iand hx hb dX8_advance_133 ?_
              obtain ⟨m24, hm24, em24⟩ := and_c x23 (c := 255)
              refine lv_tope em24 ?_
              refine lv_i2c hx hb dX8_advance_134 rfl ?_
              refine lv_topi (fun x25 ex25 => ?_)
              refine kI (wc := []) (wr := [(h0, .inr (8, [.ref sp, .ref tp, .int (nI h0_length), .int (nI v1), .int h0_kind, .int (nI v1), .int h0_word, .long h0_spelling, .int h0_number, .int x23])), (tp, .inl (gB g, 1600, .inl f_tp)), (sp, .inl (gJ g, 18, .inr (.inl f_sp)))]) (rVe (As := [.int x25]) (rest := [.ref h0]) hcx hF hS hA (c_indexOfE H.size) (gdV q18_17 q18_18 q18_19 q3_20 q18_20) dvJ0_indexOf_0f7a4 ⟨Nat.le_of_ble_eq_true rfl, Nat.le_of_ble_eq_true rfl⟩ rfl hl.1 rfl (Nat.le_of_ble_eq_true rfl) dX8_advance_135 ⟨Nat.le_of_ble_eq_true rfl, Nat.le_of_ble_eq_true rfl⟩) hP hD hS hA [] [0, 1, 2] rfl rfl (by decide) (by decide) (fun r26 W' H locs hw hP hD hS => ?_)
              obtain ⟨_, rfl⟩ := hw
              have hP : va_P g.1 vwCl [(h0, .inr (8, [.ref sp, .ref tp, .int (nI h0_length), .int (nI v1), .int h0_kind, .int (nI v1), .int h0_word, .long h0_spelling, .int h0_number, .int x23])), (tp, .inl (gB g, 1600, .inl f_tp)), (sp, .inl (gJ g, 18, .inr (.inl f_sp)))] H := hP
              have hD : va_D A [(h0, .inr (8, [.ref sp, .ref tp, .int (nI h0_length), .int (nI v1), .int h0_kind, .int (nI v1), .int h0_word, .long h0_spelling, .int h0_number, .int x23])), (tp, .inl (gB g, 1600, .inl f_tp)), (sp, .inl (gJ g, 18, .inr (.inl f_sp)))] := hD
              refine lv_if_lt (tgt := 145) hx hb dX8_advance_138 (by decide) (fun c27 => ?_) (fun c27 => ?_)
              · refine lv_iconst (v := 4) hx hb dX8_advance_145 (by decide) ?_
                refine va_put (D := g.1) (ci := 8) (v := Value.int 4) (ty := .int) (C := RX8) (T := TX8) (N := 10) hx hb hts inlX8 tyX8 tyX8_ok nmX8 hown hK hP hD hS 0 rfl rfl 4 (by decide) (hts _ q17_15) (fun _ h9 => h9) rfl (by decide +kernel) rfl rfl (Nat.le_of_ble_eq_true rfl) dX8_advance_146 (fun H locs hP hD hS => ?_)
                have hP : va_P g.1 vwCl [(h0, .inr (8, [.ref sp, .ref tp, .int (nI h0_length), .int (nI v1), .int 4, .int (nI v1), .int h0_word, .long h0_spelling, .int h0_number, .int x23])), (tp, .inl (gB g, 1600, .inl f_tp)), (sp, .inl (gJ g, 18, .inr (.inl f_sp)))] H := hP
                have hD : va_D A [(h0, .inr (8, [.ref sp, .ref tp, .int (nI h0_length), .int (nI v1), .int 4, .int (nI v1), .int h0_word, .long h0_spelling, .int h0_number, .int x23])), (tp, .inl (gB g, 1600, .inl f_tp)), (sp, .inl (gJ g, 18, .inr (.inl f_sp)))] := hD
                refine lv_aload_n hx hb dX8_advance_149 rfl (lv_at hl 0 rfl) ?_
                refine lv_dup hx hb dX8_advance_150 rfl ?_
                refine va_get (D := g.1) (ci := 8) (v := Value.int (nI v1)) (C := RX8) (T := TX8) (N := 10) hx hb hts inlX8 hown hK hP 0 rfl rfl 3 (by decide) (hts _ q17_9) (fun _ h9 => h9) rfl dX8_advance_151 ?_
                refine lv_iconst (v := 1) hx hb dX8_advance_154 (by decide) ?_
                refine lv_iadd hx hb dX8_advance_155 ?_
                refine lv_tope (y := (nI (v1 + 1))) (nI_add (v1) (1)) ?_
                refine va_put (D := g.1) (ci := 8) (v := Value.int (nI (v1 + 1))) (ty := .int) (C := RX8) (T := TX8) (N := 10) hx hb hts inlX8 tyX8 tyX8_ok nmX8 hown hK hP hD hS 0 rfl rfl 3 (by decide) (hts _ q17_9) (fun _ h9 => h9) rfl (by decide +kernel) rfl rfl (Nat.le_of_ble_eq_true rfl) dX8_advance_156 (fun H locs hP hD hS => ?_)
                have hP : va_P g.1 vwCl [(h0, .inr (8, [.ref sp, .ref tp, .int (nI h0_length), .int (nI (v1 + 1)), .int 4, .int (nI v1), .int h0_word, .long h0_spelling, .int h0_number, .int x23])), (tp, .inl (gB g, 1600, .inl f_tp)), (sp, .inl (gJ g, 18, .inr (.inl f_sp)))] H := hP
                have hD : va_D A [(h0, .inr (8, [.ref sp, .ref tp, .int (nI h0_length), .int (nI (v1 + 1)), .int 4, .int (nI v1), .int h0_word, .long h0_spelling, .int h0_number, .int x23])), (tp, .inl (gB g, 1600, .inl f_tp)), (sp, .inl (gJ g, 18, .inr (.inl f_sp)))] := hD
                exact xv hx hb hr hlocks hP hD hS ⟨(v1 + 1), (4), ((nI v1)), (h0_word), (h0_spelling), (h0_number), (x23), rfl, (by omega), hb_h0_word⟩ (Nat.le_of_ble_eq_true rfl) (Nat.le_of_ble_eq_true rfl) dX8_advance_159
              · refine lv_iconst (v := 3) hx hb dX8_advance_141 (by decide) ?_
                refine lv_goto (tgt := 146) hx hb dX8_advance_142 (by decide) ?_
                refine va_put (D := g.1) (ci := 8) (v := Value.int 3) (ty := .int) (C := RX8) (T := TX8) (N := 10) hx hb hts inlX8 tyX8 tyX8_ok nmX8 hown hK hP hD hS 0 rfl rfl 4 (by decide) (hts _ q17_15) (fun _ h9 => h9) rfl (by decide +kernel) rfl rfl (Nat.le_of_ble_eq_true rfl) dX8_advance_146 (fun H locs hP hD hS => ?_)
                have hP : va_P g.1 vwCl [(h0, .inr (8, [.ref sp, .ref tp, .int (nI h0_length), .int (nI v1), .int 3, .int (nI v1), .int h0_word, .long h0_spelling, .int h0_number, .int x23])), (tp, .inl (gB g, 1600, .inl f_tp)), (sp, .inl (gJ g, 18, .inr (.inl f_sp)))] H := hP
                have hD : va_D A [(h0, .inr (8, [.ref sp, .ref tp, .int (nI h0_length), .int (nI v1), .int 3, .int (nI v1), .int h0_word, .long h0_spelling, .int h0_number, .int x23])), (tp, .inl (gB g, 1600, .inl f_tp)), (sp, .inl (gJ g, 18, .inr (.inl f_sp)))] := hD
                refine lv_aload_n hx hb dX8_advance_149 rfl (lv_at hl 0 rfl) ?_
                refine lv_dup hx hb dX8_advance_150 rfl ?_
                refine va_get (D := g.1) (ci := 8) (v := Value.int (nI v1)) (C := RX8) (T := TX8) (N := 10) hx hb hts inlX8 hown hK hP 0 rfl rfl 3 (by decide) (hts _ q17_9) (fun _ h9 => h9) rfl dX8_advance_151 ?_
                refine lv_iconst (v := 1) hx hb dX8_advance_154 (by decide) ?_
                refine lv_iadd hx hb dX8_advance_155 ?_
                refine lv_tope (y := (nI (v1 + 1))) (nI_add (v1) (1)) ?_
                refine va_put (D := g.1) (ci := 8) (v := Value.int (nI (v1 + 1))) (ty := .int) (C := RX8) (T := TX8) (N := 10) hx hb hts inlX8 tyX8 tyX8_ok nmX8 hown hK hP hD hS 0 rfl rfl 3 (by decide) (hts _ q17_9) (fun _ h9 => h9) rfl (by decide +kernel) rfl rfl (Nat.le_of_ble_eq_true rfl) dX8_advance_156 (fun H locs hP hD hS => ?_)
                have hP : va_P g.1 vwCl [(h0, .inr (8, [.ref sp, .ref tp, .int (nI h0_length), .int (nI (v1 + 1)), .int 3, .int (nI v1), .int h0_word, .long h0_spelling, .int h0_number, .int x23])), (tp, .inl (gB g, 1600, .inl f_tp)), (sp, .inl (gJ g, 18, .inr (.inl f_sp)))] H := hP
                have hD : va_D A [(h0, .inr (8, [.ref sp, .ref tp, .int (nI h0_length), .int (nI (v1 + 1)), .int 3, .int (nI v1), .int h0_word, .long h0_spelling, .int h0_number, .int x23])), (tp, .inl (gB g, 1600, .inl f_tp)), (sp, .inl (gJ g, 18, .inr (.inl f_sp)))] := hD
                exact xv hx hb hr hlocks hP hD hS ⟨(v1 + 1), (3), ((nI v1)), (h0_word), (h0_spelling), (h0_number), (x23), rfl, (by omega), hb_h0_word⟩ (Nat.le_of_ble_eq_true rfl) (Nat.le_of_ble_eq_true rfl) dX8_advance_159
            · have hn28 := nneq (a := m20) (b := 0) (by omega) (by omega) c21
              refine lv_aload_n hx hb dX8_advance_103 rfl (lv_at hl 0 rfl) ?_
              refine kV (wc := [(h0, .inr (8, [.ref sp, .ref tp, .int (nI h0_length), .int (nI v1), .int h0_kind, .int (nI v1), .int h0_word, .long h0_spelling, .int h0_number, .int h0_sign])), (tp, .inl (gB g, 1600, .inl f_tp))]) (wr := [(sp, .inl (gJ g, 18, .inr (.inl f_sp)))]) (rV (As := []) (rest := []) (meth2 := "") hcx (c_X8_takeDigits (by omega) (by omega) (hb_h0_word) H.size) (gdV q18_12 q18_13 q18_14 q3_7 q18_15) dvX8_takeDigits ⟨Nat.le_of_ble_eq_true rfl, Nat.le_of_ble_eq_true rfl⟩ (hP.sub [0, 1] rfl) (hD.sub [0, 1] (by decide) rfl) (va_recv hK hP (ci := 8) (q0 := 0) rfl rfl) rfl hl.1 rfl (Nat.le_of_ble_eq_true rfl) dX8_advance_104 ⟨Nat.le_of_ble_eq_true rfl, Nat.le_of_ble_eq_true rfl⟩) hP hD hS hA [0, 1] [2] rfl rfl (by decide) (by decide) (fun W' H locs hw hP hD hS => ?_)
              obtain ⟨n29, x30, x31, rfl, hf32⟩ := hw
              have hP : va_P g.1 vwCl [(sp, .inl (gJ g, 18, .inr (.inl f_sp))), (h0, .inr (8, [.ref sp, .ref tp, .int (nI h0_length), .int (nI n29), .int x30, .int (nI v1), .int h0_word, .long h0_spelling, .int x31, .int h0_sign])), (tp, .inl (gB g, 1600, .inl f_tp))] H := hP
              have hD : va_D A [(sp, .inl (gJ g, 18, .inr (.inl f_sp))), (h0, .inr (8, [.ref sp, .ref tp, .int (nI h0_length), .int (nI n29), .int x30, .int (nI v1), .int h0_word, .long h0_spelling, .int x31, .int h0_sign])), (tp, .inl (gB g, 1600, .inl f_tp))] := hD
              refine lv_goto (tgt := 159) hx hb dX8_advance_107 (by decide) ?_
              have hP9 : va_P g.1 vwCl [(h0, .inr (8, [.ref sp, .ref tp, .int (nI h0_length), .int (nI n29), .int x30, .int (nI v1), .int h0_word, .long h0_spelling, .int x31, .int h0_sign])), (tp, .inl (gB g, 1600, .inl f_tp)), (sp, .inl (gJ g, 18, .inr (.inl f_sp)))] H := hP.sub [1, 2, 0] rfl
              have hD9 : va_D A [(h0, .inr (8, [.ref sp, .ref tp, .int (nI h0_length), .int (nI n29), .int x30, .int (nI v1), .int h0_word, .long h0_spelling, .int x31, .int h0_sign])), (tp, .inl (gB g, 1600, .inl f_tp)), (sp, .inl (gJ g, 18, .inr (.inl f_sp)))] := hD.sub [1, 2, 0] (by decide) rfl
              exact xv hx hb hr hlocks hP9 hD9 hS ⟨(n29), (x30), ((nI v1)), (h0_word), (h0_spelling), (x31), (h0_sign), rfl, (by omega), hb_h0_word⟩ (Nat.le_of_ble_eq_true rfl) (Nat.le_of_ble_eq_true rfl) dX8_advance_159
          · have hn33 := nneq (a := m15) (b := 0) (by omega) (by omega) c16
            refine lv_aload_n hx hb dX8_advance_81 rfl (lv_at hl 0 rfl) ?_
            refine kV (wc := [(h0, .inr (8, [.ref sp, .ref tp, .int (nI h0_length), .int (nI v1), .int h0_kind, .int (nI v1), .int h0_word, .long h0_spelling, .int h0_number, .int h0_sign])), (tp, .inl (gB g, 1600, .inl f_tp)), (sp, .inl (gJ g, 18, .inr (.inl f_sp)))]) (wr := []) (rV (As := []) (rest := []) (meth2 := "") hcx (c_X8_takeLetters (by omega) (by omega) (hb_h0_word) H.size) (gdV q17_23 q18_0 q18_1 q3_7 q18_2) dvX8_takeLetters ⟨Nat.le_of_ble_eq_true rfl, Nat.le_of_ble_eq_true rfl⟩ (hP.sub [0, 1, 2] rfl) (hD.sub [0, 1, 2] (by decide) rfl) (va_recv hK hP (ci := 8) (q0 := 0) rfl rfl) rfl hl.1 rfl (Nat.le_of_ble_eq_true rfl) dX8_advance_82 ⟨Nat.le_of_ble_eq_true rfl, Nat.le_of_ble_eq_true rfl⟩) hP hD hS hA [0, 1, 2] [] rfl rfl (by decide) (by decide) (fun W' H locs hw hP hD hS => ?_)
            obtain ⟨n34, x35, x36, x37, rfl, hf38, hf39⟩ := hw
            have hP : va_P g.1 vwCl [(h0, .inr (8, [.ref sp, .ref tp, .int (nI h0_length), .int (nI n34), .int x35, .int (nI v1), .int x36, .long x37, .int h0_number, .int h0_sign])), (tp, .inl (gB g, 1600, .inl f_tp)), (sp, .inl (gJ g, 18, .inr (.inl f_sp)))] H := hP
            have hD : va_D A [(h0, .inr (8, [.ref sp, .ref tp, .int (nI h0_length), .int (nI n34), .int x35, .int (nI v1), .int x36, .long x37, .int h0_number, .int h0_sign])), (tp, .inl (gB g, 1600, .inl f_tp)), (sp, .inl (gJ g, 18, .inr (.inl f_sp)))] := hD
            refine lv_goto (tgt := 159) hx hb dX8_advance_85 (by decide) ?_
            exact xv hx hb hr hlocks hP hD hS ⟨(n34), (x35), ((nI v1)), (x36), (x37), (h0_number), (h0_sign), rfl, (by omega), hf39⟩ (Nat.le_of_ble_eq_true rfl) (Nat.le_of_ble_eq_true rfl) dX8_advance_159
        · have hn40 := nneq (a := m9) (b := 0) (by omega) (by omega) c10
          refine lv_aload_n hx hb dX8_advance_26 rfl (lv_at hl 0 rfl) ?_
          refine lv_dup hx hb dX8_advance_27 rfl ?_
          refine va_get (D := g.1) (ci := 8) (v := Value.int (nI v1)) (C := RX8) (T := TX8) (N := 10) hx hb hts inlX8 hown hK hP 0 rfl rfl 3 (by decide) (hts _ q17_9) (fun _ h9 => h9) rfl dX8_advance_28 ?_
          refine lv_iconst (v := 1) hx hb dX8_advance_31 (by decide) ?_
          refine lv_iadd hx hb dX8_advance_32 ?_
          refine lv_tope (y := (nI (v1 + 1))) (nI_add (v1) (1)) ?_
          refine va_put (D := g.1) (ci := 8) (v := Value.int (nI (v1 + 1))) (ty := .int) (C := RX8) (T := TX8) (N := 10) hx hb hts inlX8 tyX8 tyX8_ok nmX8 hown hK hP hD hS 0 rfl rfl 3 (by decide) (hts _ q17_9) (fun _ h9 => h9) rfl (by decide +kernel) rfl rfl (Nat.le_of_ble_eq_true rfl) dX8_advance_33 (fun H locs hP hD hS => ?_)
          have hP : va_P g.1 vwCl [(h0, .inr (8, [.ref sp, .ref tp, .int (nI h0_length), .int (nI (v1 + 1)), .int h0_kind, .int h0_start, .int h0_word, .long h0_spelling, .int h0_number, .int h0_sign])), (tp, .inl (gB g, 1600, .inl f_tp)), (sp, .inl (gJ g, 18, .inr (.inl f_sp)))] H := hP
          have hD : va_D A [(h0, .inr (8, [.ref sp, .ref tp, .int (nI h0_length), .int (nI (v1 + 1)), .int h0_kind, .int h0_start, .int h0_word, .long h0_spelling, .int h0_number, .int h0_sign])), (tp, .inl (gB g, 1600, .inl f_tp)), (sp, .inl (gJ g, 18, .inr (.inl f_sp)))] := hD
          refine lv_goto (tgt := 0) hx hb dX8_advance_36 (by decide) ?_
          exact ihloop2 H locs ls (v1 + 1) (by omega) (by omega) hP hD hS (lv_sub hl [0] rfl)
  exact loop2 _ H locs ls (h0_at) (by omega) (Nat.lt_succ_self _) hP hD hS hl

set_option maxHeartbeats 4000000 in
set_option maxRecDepth 100000 in
theorem c_X8_open {l : Launch} {g : Gx} {z : Sg} {h0 tp sp : Nat} {h0_bytes : Value} {h0_length : Int32} {h0_at : Int32} {h0_kind : Int32} {h0_start : Int32} {h0_word : Int32} {h0_spelling : Int64} {h0_number : Int32} {h0_sign : Int32} {f_tp : Nat → Int32} {f_sp : Nat → Int64} {p1 : Nat} (hb_h0_word : XM 17 h0_word) (hb_p1 : p1 ≤ 1600) : MVe l g z yX8_open cX8_open 3 7 0 0 [.ref h0, .ref tp, .int (nI p1)] [(h0, .inr (8, [.ref sp, h0_bytes, .int h0_length, .int h0_at, .int h0_kind, .int h0_start, .int h0_word, .long h0_spelling, .int h0_number, .int h0_sign])), (tp, .inl (gB g, 1600, .inl f_tp)), (sp, .inl (gJ g, 18, .inr (.inl f_sp)))] (fun W' => ∃ (z0 : Int32) (z1 : Int32) (z2 : Int32) (z3 : Int32) (z4 : Int32) (z5 : Int64) (z6 : Int32) (z7 : Int32), W' = [(h0, .inr (8, [.ref sp, .ref tp, .int z0, .int z1, .int z2, .int z3, .int z4, .long z5, .int z6, .int z7])), (tp, .inl (gB g, 1600, .inl f_tp)), (sp, .inl (gJ g, 18, .inr (.inl f_sp)))] ∧ XM 17 z4) := by
  refine MVeof (by decide) (fun _ => Nat.le_of_ble_eq_true rfl) ?_
  intro p e s m below meth c A ls H locs hcx hF hA hP hD hS hl
  obtain ⟨hx, hb, hml, hr, hlocks, hown, hts, hE, hnm⟩ := id hcx
  have hown : s.vm.findClass RX8 = some m.cls := hown
  have hK := hE.1
  have hl : lv_has ls 3 [(0, .ref h0), (1, .ref tp), (2, .int (nI p1))] := hl
  refine lv_aload_n hx hb dX8_open_0 rfl (lv_at hl 0 rfl) ?_
  refine lv_aload_n hx hb dX8_open_1 rfl (lv_at hl 1 rfl) ?_
  refine va_put (D := g.1) (ci := 8) (v := Value.ref tp) (ty := (.array .byte)) (C := RX8) (T := TX8) (N := 10) hx hb hts inlX8 tyX8 tyX8_ok nmX8 hown hK hP hD hS 0 rfl rfl 1 (by decide) (hts _ q3_16) (fun _ h9 => h9) rfl (by decide +kernel) rfl rfl (Nat.le_of_ble_eq_true rfl) dX8_open_2 (fun H locs hP hD hS => ?_)
  have hP : va_P g.1 vwCl [(h0, .inr (8, [.ref sp, .ref tp, .int h0_length, .int h0_at, .int h0_kind, .int h0_start, .int h0_word, .long h0_spelling, .int h0_number, .int h0_sign])), (tp, .inl (gB g, 1600, .inl f_tp)), (sp, .inl (gJ g, 18, .inr (.inl f_sp)))] H := hP
  have hD : va_D A [(h0, .inr (8, [.ref sp, .ref tp, .int h0_length, .int h0_at, .int h0_kind, .int h0_start, .int h0_word, .long h0_spelling, .int h0_number, .int h0_sign])), (tp, .inl (gB g, 1600, .inl f_tp)), (sp, .inl (gJ g, 18, .inr (.inl f_sp)))] := hD
  refine lv_aload_n hx hb dX8_open_5 rfl (lv_at hl 0 rfl) ?_
  refine lv_iload_n hx hb dX8_open_6 rfl (lv_at hl 2 rfl) ?_
  refine lv_aload_n hx hb dX8_open_7 rfl (lv_at hl 1 rfl) ?_
  refine va_alen (v := 1600) hx hb hK hP 1 0 rfl rfl rfl dX8_open_8 ?_
  refine va_mmin hx hb (hml.trans hl.1.symm) hown (hts _ q17_4) (hts _ q17_5) (hts _ q17_6) (hts _ q17_7) (Nat.le_of_ble_eq_true rfl) (Nat.le_of_ble_eq_true rfl) (Nat.le_of_ble_eq_true rfl) (Nat.le_of_ble_eq_true rfl) dX8_open_9 ?_
  obtain ⟨m1, hm1, gm1, em1⟩ := min_n (a := p1) (b := 1600) (by omega) (by omega)
  refine lv_tope em1 ?_
  refine va_put (D := g.1) (ci := 8) (v := Value.int (nI m1)) (ty := .int) (C := RX8) (T := TX8) (N := 10) hx hb hts inlX8 tyX8 tyX8_ok nmX8 hown hK hP hD hS 0 rfl rfl 2 (by decide) (hts _ q17_8) (fun _ h9 => h9) rfl (by decide +kernel) rfl rfl (Nat.le_of_ble_eq_true rfl) dX8_open_12 (fun H locs hP hD hS => ?_)
  have hP : va_P g.1 vwCl [(h0, .inr (8, [.ref sp, .ref tp, .int (nI m1), .int h0_at, .int h0_kind, .int h0_start, .int h0_word, .long h0_spelling, .int h0_number, .int h0_sign])), (tp, .inl (gB g, 1600, .inl f_tp)), (sp, .inl (gJ g, 18, .inr (.inl f_sp)))] H := hP
  have hD : va_D A [(h0, .inr (8, [.ref sp, .ref tp, .int (nI m1), .int h0_at, .int h0_kind, .int h0_start, .int h0_word, .long h0_spelling, .int h0_number, .int h0_sign])), (tp, .inl (gB g, 1600, .inl f_tp)), (sp, .inl (gJ g, 18, .inr (.inl f_sp)))] := hD
  refine lv_aload_n hx hb dX8_open_15 rfl (lv_at hl 0 rfl) ?_
  refine lv_iconst (v := 0) hx hb dX8_open_16 (by decide) ?_
  refine va_put (D := g.1) (ci := 8) (v := Value.int 0) (ty := .int) (C := RX8) (T := TX8) (N := 10) hx hb hts inlX8 tyX8 tyX8_ok nmX8 hown hK hP hD hS 0 rfl rfl 3 (by decide) (hts _ q17_9) (fun _ h9 => h9) rfl (by decide +kernel) rfl rfl (Nat.le_of_ble_eq_true rfl) dX8_open_17 (fun H locs hP hD hS => ?_)
  have hP : va_P g.1 vwCl [(h0, .inr (8, [.ref sp, .ref tp, .int (nI m1), .int 0, .int h0_kind, .int h0_start, .int h0_word, .long h0_spelling, .int h0_number, .int h0_sign])), (tp, .inl (gB g, 1600, .inl f_tp)), (sp, .inl (gJ g, 18, .inr (.inl f_sp)))] H := hP
  have hD : va_D A [(h0, .inr (8, [.ref sp, .ref tp, .int (nI m1), .int 0, .int h0_kind, .int h0_start, .int h0_word, .long h0_spelling, .int h0_number, .int h0_sign])), (tp, .inl (gB g, 1600, .inl f_tp)), (sp, .inl (gJ g, 18, .inr (.inl f_sp)))] := hD
  refine lv_aload_n hx hb dX8_open_20 rfl (lv_at hl 0 rfl) ?_
  refine kV (wc := [(h0, .inr (8, [.ref sp, .ref tp, .int (nI m1), .int 0, .int h0_kind, .int h0_start, .int h0_word, .long h0_spelling, .int h0_number, .int h0_sign])), (tp, .inl (gB g, 1600, .inl f_tp)), (sp, .inl (gJ g, 18, .inr (.inl f_sp)))]) (wr := []) (rVE (As := []) (rest := []) hcx hF hS (va_free (wc := [(h0, .inr (8, [.ref sp, .ref tp, .int (nI m1), .int 0, .int h0_kind, .int h0_start, .int h0_word, .long h0_spelling, .int h0_number, .int h0_sign])), (tp, .inl (gB g, 1600, .inl f_tp)), (sp, .inl (gJ g, 18, .inr (.inl f_sp)))]) hD hS hA [0, 1, 2] rfl) (c_X8_advance (by omega) (by decide) (hb_h0_word) H.size) (gdV q17_10 q17_11 q17_12 q3_7 q17_13) dvX8_advance ⟨Nat.le_of_ble_eq_true rfl, Nat.le_of_ble_eq_true rfl⟩ (hP.sub [0, 1, 2] rfl) (hD.sub [0, 1, 2] (by decide) rfl) (va_recv hK hP (ci := 8) (q0 := 0) rfl rfl) rfl hl.1 rfl (Nat.le_of_ble_eq_true rfl) dX8_open_21 ⟨Nat.le_of_ble_eq_true rfl, Nat.le_of_ble_eq_true rfl⟩) hP hD hS hA [0, 1, 2] [] rfl rfl (by decide) (by decide) (fun W' H locs hw hP hD hS => ?_)
  obtain ⟨n3, x4, x5, x6, x7, x8, x9, rfl, hf10, hf11⟩ := hw
  have hP : va_P g.1 vwCl [(h0, .inr (8, [.ref sp, .ref tp, .int (nI m1), .int (nI n3), .int x4, .int x5, .int x6, .long x7, .int x8, .int x9])), (tp, .inl (gB g, 1600, .inl f_tp)), (sp, .inl (gJ g, 18, .inr (.inl f_sp)))] H := hP
  have hD : va_D A [(h0, .inr (8, [.ref sp, .ref tp, .int (nI m1), .int (nI n3), .int x4, .int x5, .int x6, .long x7, .int x8, .int x9])), (tp, .inl (gB g, 1600, .inl f_tp)), (sp, .inl (gJ g, 18, .inr (.inl f_sp)))] := hD
  exact xv hx hb hr hlocks hP hD hS ⟨((nI m1)), ((nI n3)), (x4), (x5), (x6), (x7), (x8), (x9), rfl, hf11⟩ (Nat.le_of_ble_eq_true rfl) (Nat.le_of_ble_eq_true rfl) dX8_open_24

set_option maxHeartbeats 4000000 in
set_option maxRecDepth 100000 in
theorem c_X8_isWord {l : Launch} {g : Gx} {h0 : Nat} {h0_spellings : Value} {h0_bytes : Value} {h0_length : Int32} {h0_at : Int32} {h0_kind : Int32} {h0_start : Int32} {h0_word : Int32} {h0_spelling : Int64} {h0_number : Int32} {h0_sign : Int32} {p0 : Int32} : MI l g yX8_isWord cX8_isWord 2 (some .boolean) 2 0 0 [.ref h0, .int p0] [(h0, .inr (8, [h0_spellings, h0_bytes, .int h0_length, .int h0_at, .int h0_kind, .int h0_start, .int h0_word, .long h0_spelling, .int h0_number, .int h0_sign]))] (fun r W' => (∃ m : Nat, m ≤ 1 ∧ nI m = r) ∧ W' = [(h0, .inr (8, [h0_spellings, h0_bytes, .int h0_length, .int h0_at, .int h0_kind, .int h0_start, .int h0_word, .long h0_spelling, .int h0_number, .int h0_sign]))]) := by
  refine MIof (by decide) (Nat.le_of_ble_eq_true rfl) ?_
  intro p e s m below meth c A ls H locs hcx hA hP hD hS hl
  obtain ⟨hx, hb, hml, hr, hlocks, hown, hts, hE, hnm⟩ := id hcx
  have hown : s.vm.findClass RX8 = some m.cls := hown
  have hK := hE.1
  have hl : lv_has ls 2 [(0, .ref h0), (1, .int p0)] := hl
  refine lv_aload_n hx hb dX8_isWord_0 rfl (lv_at hl 0 rfl) ?_
  refine va_get (D := g.1) (ci := 8) (v := Value.int h0_kind) (C := RX8) (T := TX8) (N := 10) hx hb hts inlX8 hown hK hP 0 rfl rfl 4 (by decide) (hts _ q17_15) (fun _ h9 => h9) rfl dX8_isWord_1 ?_
  refine lv_iconst (v := 1) hx hb dX8_isWord_4 (by decide) ?_
  refine lv_icmp_ne (tgt := 20) hx hb dX8_isWord_5 (by decide) (fun c1 => ?_) (fun c1 => ?_)
  · refine lv_iconst (v := 0) hx hb dX8_isWord_20 (by decide) ?_
    exact xi hx hb hr hlocks rfl hP hD hS ⟨⟨0, by omega, rfl⟩, rfl⟩ (Nat.le_of_ble_eq_true rfl) (Nat.le_of_ble_eq_true rfl) dX8_isWord_21
  · refine lv_aload_n hx hb dX8_isWord_8 rfl (lv_at hl 0 rfl) ?_
    refine va_get (D := g.1) (ci := 8) (v := Value.int h0_word) (C := RX8) (T := TX8) (N := 10) hx hb hts inlX8 hown hK hP 0 rfl rfl 6 (by decide) (hts _ q18_4) (fun _ h9 => h9) rfl dX8_isWord_9 ?_
    refine lv_iload_n hx hb dX8_isWord_12 rfl (lv_at hl 1 rfl) ?_
    refine lv_icmp_ne (tgt := 20) hx hb dX8_isWord_13 (by decide) (fun c2 => ?_) (fun c2 => ?_)
    · refine lv_iconst (v := 0) hx hb dX8_isWord_20 (by decide) ?_
      exact xi hx hb hr hlocks rfl hP hD hS ⟨⟨0, by omega, rfl⟩, rfl⟩ (Nat.le_of_ble_eq_true rfl) (Nat.le_of_ble_eq_true rfl) dX8_isWord_21
    · refine lv_iconst (v := 1) hx hb dX8_isWord_16 (by decide) ?_
      refine lv_goto (tgt := 21) hx hb dX8_isWord_17 (by decide) ?_
      exact xi hx hb hr hlocks rfl hP hD hS ⟨⟨1, by omega, rfl⟩, rfl⟩ (Nat.le_of_ble_eq_true rfl) (Nat.le_of_ble_eq_true rfl) dX8_isWord_21

set_option maxHeartbeats 4000000 in
set_option maxRecDepth 100000 in
theorem c_X8_isSign {l : Launch} {g : Gx} {h0 : Nat} {h0_spellings : Value} {h0_bytes : Value} {h0_length : Int32} {h0_at : Int32} {h0_kind : Int32} {h0_start : Int32} {h0_word : Int32} {h0_spelling : Int64} {h0_number : Int32} {h0_sign : Int32} {p0 : Int32} : MI l g yX8_isSign cX8_isSign 2 (some .boolean) 2 0 0 [.ref h0, .int p0] [(h0, .inr (8, [h0_spellings, h0_bytes, .int h0_length, .int h0_at, .int h0_kind, .int h0_start, .int h0_word, .long h0_spelling, .int h0_number, .int h0_sign]))] (fun r W' => (((True) ∧ 0 = r) ∨ ((h0_sign = p0) ∧ 1 = r)) ∧ W' = [(h0, .inr (8, [h0_spellings, h0_bytes, .int h0_length, .int h0_at, .int h0_kind, .int h0_start, .int h0_word, .long h0_spelling, .int h0_number, .int h0_sign]))]) := by
  refine MIof (by decide) (Nat.le_of_ble_eq_true rfl) ?_
  intro p e s m below meth c A ls H locs hcx hA hP hD hS hl
  obtain ⟨hx, hb, hml, hr, hlocks, hown, hts, hE, hnm⟩ := id hcx
  have hown : s.vm.findClass RX8 = some m.cls := hown
  have hK := hE.1
  have hl : lv_has ls 2 [(0, .ref h0), (1, .int p0)] := hl
  refine lv_aload_n hx hb dX8_isSign_0 rfl (lv_at hl 0 rfl) ?_
  refine va_get (D := g.1) (ci := 8) (v := Value.int h0_kind) (C := RX8) (T := TX8) (N := 10) hx hb hts inlX8 hown hK hP 0 rfl rfl 4 (by decide) (hts _ q17_15) (fun _ h9 => h9) rfl dX8_isSign_1 ?_
  refine lv_iconst (v := 3) hx hb dX8_isSign_4 (by decide) ?_
  refine lv_icmp_ne (tgt := 20) hx hb dX8_isSign_5 (by decide) (fun c1 => ?_) (fun c1 => ?_)
  · refine lv_iconst (v := 0) hx hb dX8_isSign_20 (by decide) ?_
    exact xi hx hb hr hlocks rfl hP hD hS ⟨(Or.inl ⟨trivial, rfl⟩), rfl⟩ (Nat.le_of_ble_eq_true rfl) (Nat.le_of_ble_eq_true rfl) dX8_isSign_21
  · refine lv_aload_n hx hb dX8_isSign_8 rfl (lv_at hl 0 rfl) ?_
    refine va_get (D := g.1) (ci := 8) (v := Value.int h0_sign) (C := RX8) (T := TX8) (N := 10) hx hb hts inlX8 hown hK hP 0 rfl rfl 9 (by decide) (hts _ q17_16) (fun _ h9 => h9) rfl dX8_isSign_9 ?_
    refine lv_iload_n hx hb dX8_isSign_12 rfl (lv_at hl 1 rfl) ?_
    refine lv_icmp_ne (tgt := 20) hx hb dX8_isSign_13 (by decide) (fun c2 => ?_) (fun c2 => ?_)
    · refine lv_iconst (v := 0) hx hb dX8_isSign_20 (by decide) ?_
      exact xi hx hb hr hlocks rfl hP hD hS ⟨(Or.inl ⟨trivial, rfl⟩), rfl⟩ (Nat.le_of_ble_eq_true rfl) (Nat.le_of_ble_eq_true rfl) dX8_isSign_21
    · refine lv_iconst (v := 1) hx hb dX8_isSign_16 (by decide) ?_
      refine lv_goto (tgt := 21) hx hb dX8_isSign_17 (by decide) ?_
      exact xi hx hb hr hlocks rfl hP hD hS ⟨(Or.inr ⟨c2, rfl⟩), rfl⟩ (Nat.le_of_ble_eq_true rfl) (Nat.le_of_ble_eq_true rfl) dX8_isSign_21

set_option maxHeartbeats 4000000 in
set_option maxRecDepth 100000 in
theorem c_X8_isName {l : Launch} {g : Gx} {h0 : Nat} {h0_spellings : Value} {h0_bytes : Value} {h0_length : Int32} {h0_at : Int32} {h0_kind : Int32} {h0_start : Int32} {h0_word : Int32} {h0_spelling : Int64} {h0_number : Int32} {h0_sign : Int32} : MI l g yX8_isName cX8_isName 1 (some .boolean) 2 0 0 [.ref h0] [(h0, .inr (8, [h0_spellings, h0_bytes, .int h0_length, .int h0_at, .int h0_kind, .int h0_start, .int h0_word, .long h0_spelling, .int h0_number, .int h0_sign]))] (fun r W' => (∃ m : Nat, m ≤ 1 ∧ nI m = r) ∧ W' = [(h0, .inr (8, [h0_spellings, h0_bytes, .int h0_length, .int h0_at, .int h0_kind, .int h0_start, .int h0_word, .long h0_spelling, .int h0_number, .int h0_sign]))]) := by
  refine MIof (by decide) (Nat.le_of_ble_eq_true rfl) ?_
  intro p e s m below meth c A ls H locs hcx hA hP hD hS hl
  obtain ⟨hx, hb, hml, hr, hlocks, hown, hts, hE, hnm⟩ := id hcx
  have hown : s.vm.findClass RX8 = some m.cls := hown
  have hK := hE.1
  have hl : lv_has ls 1 [(0, .ref h0)] := hl
  refine lv_aload_n hx hb dX8_isName_0 rfl (lv_at hl 0 rfl) ?_
  refine va_get (D := g.1) (ci := 8) (v := Value.int h0_kind) (C := RX8) (T := TX8) (N := 10) hx hb hts inlX8 hown hK hP 0 rfl rfl 4 (by decide) (hts _ q17_15) (fun _ h9 => h9) rfl dX8_isName_1 ?_
  refine lv_iconst (v := 1) hx hb dX8_isName_4 (by decide) ?_
  refine lv_icmp_ne (tgt := 20) hx hb dX8_isName_5 (by decide) (fun c1 => ?_) (fun c1 => ?_)
  · refine lv_iconst (v := 0) hx hb dX8_isName_20 (by decide) ?_
    exact xi hx hb hr hlocks rfl hP hD hS ⟨⟨0, by omega, rfl⟩, rfl⟩ (Nat.le_of_ble_eq_true rfl) (Nat.le_of_ble_eq_true rfl) dX8_isName_21
  · refine lv_aload_n hx hb dX8_isName_8 rfl (lv_at hl 0 rfl) ?_
    refine va_get (D := g.1) (ci := 8) (v := Value.int h0_word) (C := RX8) (T := TX8) (N := 10) hx hb hts inlX8 hown hK hP 0 rfl rfl 6 (by decide) (hts _ q18_4) (fun _ h9 => h9) rfl dX8_isName_9 ?_
    refine lv_iconst (v := (-1)) hx hb dX8_isName_12 (by decide) ?_
    refine lv_icmp_ne (tgt := 20) hx hb dX8_isName_13 (by decide) (fun c2 => ?_) (fun c2 => ?_)
    · refine lv_iconst (v := 0) hx hb dX8_isName_20 (by decide) ?_
      exact xi hx hb hr hlocks rfl hP hD hS ⟨⟨0, by omega, rfl⟩, rfl⟩ (Nat.le_of_ble_eq_true rfl) (Nat.le_of_ble_eq_true rfl) dX8_isName_21
    · refine lv_iconst (v := 1) hx hb dX8_isName_16 (by decide) ?_
      refine lv_goto (tgt := 21) hx hb dX8_isName_17 (by decide) ?_
      exact xi hx hb hr hlocks rfl hP hD hS ⟨⟨1, by omega, rfl⟩, rfl⟩ (Nat.le_of_ble_eq_true rfl) (Nat.le_of_ble_eq_true rfl) dX8_isName_21

set_option maxHeartbeats 4000000 in
set_option maxRecDepth 100000 in
theorem c_X8_isValue {l : Launch} {g : Gx} {h0 : Nat} {h0_spellings : Value} {h0_bytes : Value} {h0_length : Int32} {h0_at : Int32} {h0_kind : Int32} {h0_start : Int32} {h0_word : Int32} {h0_spelling : Int64} {h0_number : Int32} {h0_sign : Int32} (hb_h0_word : XM 17 h0_word) : MI l g yX8_isValue cX8_isValue 1 (some .boolean) 2 0 0 [.ref h0] [(h0, .inr (8, [h0_spellings, h0_bytes, .int h0_length, .int h0_at, .int h0_kind, .int h0_start, .int h0_word, .long h0_spelling, .int h0_number, .int h0_sign]))] (fun r W' => (((True) ∧ 0 = r) ∨ ((∃ m : Nat, m ≤ 6 ∧ h0_word = nI m) ∧ 1 = r)) ∧ W' = [(h0, .inr (8, [h0_spellings, h0_bytes, .int h0_length, .int h0_at, .int h0_kind, .int h0_start, .int h0_word, .long h0_spelling, .int h0_number, .int h0_sign]))]) := by
  refine MIof (by decide) (Nat.le_of_ble_eq_true rfl) ?_
  intro p e s m below meth c A ls H locs hcx hA hP hD hS hl
  obtain ⟨hx, hb, hml, hr, hlocks, hown, hts, hE, hnm⟩ := id hcx
  have hown : s.vm.findClass RX8 = some m.cls := hown
  have hK := hE.1
  have hl : lv_has ls 1 [(0, .ref h0)] := hl
  refine lv_aload_n hx hb dX8_isValue_0 rfl (lv_at hl 0 rfl) ?_
  refine va_get (D := g.1) (ci := 8) (v := Value.int h0_kind) (C := RX8) (T := TX8) (N := 10) hx hb hts inlX8 hown hK hP 0 rfl rfl 4 (by decide) (hts _ q17_15) (fun _ h9 => h9) rfl dX8_isValue_1 ?_
  refine lv_iconst (v := 1) hx hb dX8_isValue_4 (by decide) ?_
  refine lv_icmp_ne (tgt := 28) hx hb dX8_isValue_5 (by decide) (fun c1 => ?_) (fun c1 => ?_)
  · refine lv_iconst (v := 0) hx hb dX8_isValue_28 (by decide) ?_
    exact xi hx hb hr hlocks rfl hP hD hS ⟨(Or.inl ⟨trivial, rfl⟩), rfl⟩ (Nat.le_of_ble_eq_true rfl) (Nat.le_of_ble_eq_true rfl) dX8_isValue_29
  · refine lv_aload_n hx hb dX8_isValue_8 rfl (lv_at hl 0 rfl) ?_
    refine va_get (D := g.1) (ci := 8) (v := Value.int h0_word) (C := RX8) (T := TX8) (N := 10) hx hb hts inlX8 hown hK hP 0 rfl rfl 6 (by decide) (hts _ q18_4) (fun _ h9 => h9) rfl dX8_isValue_9 ?_
    refine lv_if_lt (tgt := 28) hx hb dX8_isValue_12 (by decide) (fun c2 => ?_) (fun c2 => ?_)
    · have e3 := XM_lt (by decide) hb_h0_word c2
      subst e3
      have hqq4 : mN (-1) = 0 := mN_m1
      refine lv_iconst (v := 0) hx hb dX8_isValue_28 (by decide) ?_
      exact xi hx hb hr hlocks rfl hP hD hS ⟨(Or.inl ⟨trivial, rfl⟩), rfl⟩ (Nat.le_of_ble_eq_true rfl) (Nat.le_of_ble_eq_true rfl) dX8_isValue_29
    · obtain ⟨m5, hm5, em5⟩ := XM_ge hb_h0_word c2
      subst em5
      have hqm5 := mN_n (a := m5) (by omega)
      refine lv_aload_n hx hb dX8_isValue_15 rfl (lv_at hl 0 rfl) ?_
      refine va_get (D := g.1) (ci := 8) (v := Value.int (nI m5)) (C := RX8) (T := TX8) (N := 10) hx hb hts inlX8 hown hK hP 0 rfl rfl 6 (by decide) (hts _ q18_4) (fun _ h9 => h9) rfl dX8_isValue_16 ?_
      refine lv_bipush (v := 7) hx hb dX8_isValue_19 (by decide) ?_
      refine lv_icmp_ge (tgt := 28) hx hb dX8_isValue_21 (by decide) (fun c6 => ?_) (fun c6 => ?_)
      · have hn7 := nle (a := 7) (b := m5) (by omega) (by omega) c6
        refine lv_iconst (v := 0) hx hb dX8_isValue_28 (by decide) ?_
        exact xi hx hb hr hlocks rfl hP hD hS ⟨(Or.inl ⟨trivial, rfl⟩), rfl⟩ (Nat.le_of_ble_eq_true rfl) (Nat.le_of_ble_eq_true rfl) dX8_isValue_29
      · have hn8 := nnle (a := 7) (b := m5) (by omega) (by omega) c6
        refine lv_iconst (v := 1) hx hb dX8_isValue_24 (by decide) ?_
        refine lv_goto (tgt := 29) hx hb dX8_isValue_25 (by decide) ?_
        exact xi hx hb hr hlocks rfl hP hD hS ⟨(Or.inr ⟨⟨m5, by omega, rfl⟩, rfl⟩), rfl⟩ (Nat.le_of_ble_eq_true rfl) (Nat.le_of_ble_eq_true rfl) dX8_isValue_29
