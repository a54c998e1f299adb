set_option maxHeartbeats 4000000 in
set_option maxRecDepth 100000 in
theorem c_X8_init {l : Launch} {g : Gx} {z : Sg} {h0 : Nat} : MVs l g z yX8_init cX8_init 3 6 2 18 [.ref h0] [(h0, .inr (8, [.null, .null, .int 0, .int 0, .int 0, .int 0, .int 0, .long 0, .int 0, .int 0]))] (fun W' => ∃ (z0 : Nat) (z1 : Value) (z2 : Nat → Int64), W' = [(h0, .inr (8, [.ref z0, z1, .int 0, .int 0, .int 0, .int 0, .int 0, .long 0, .int 0, .int 0])), (z0, .inl (gJ g, 18, .inr (.inl z2)))]) := by
  refine MVsof (by decide) (fun _ => Nat.le_of_ble_eq_true rfl) ?_
  intro p e s m below meth c A ls H locs hcx hF hA hP hD hS hl
  obtain ⟨hx, hb, hml, hr, hlocks, hown, hts, hE, hnm⟩ := id hcx
  have hown : s.vm.findClass RX8 = some m.cls := hown
  have hK := hE.1
  have hl : lv_has ls 3 [(0, .ref h0)] := hl
  refine lv_aload_n hx hb dX8_init_0 rfl (lv_at hl 0 rfl) ?_
  refine W.objInit hx hb hown (hts _ q3_13) (hts _ q1_10) (hts _ q1_11) rfl (by rw [hml]; exact hl.1) rfl dX8_init_1 (Nat.le_of_ble_eq_true rfl) (Nat.le_of_ble_eq_true rfl) ?_
  refine W.eq (g2 := F0 m 4 ls []) rfl ?_
  refine lv_aload_n hx hb dX8_init_4 rfl (lv_at hl 0 rfl) ?_
  refine lv_bipush (v := 18) hx hb dX8_init_5 (by decide) ?_
  refine va_newa (atype := .long) (a0 := (18, .inr (.inl (fun _ => 0)))) hx hb (hts _ q3_14) rfl hK hP hD hS hA (fun _ => rfl) (by decide) (N' := 18) (by decide) (by decide) (Nat.le_of_ble_eq_true rfl) (Nat.le_of_ble_eq_true rfl) dX8_init_7 (fun q1 cA H hKn hP hD hS => ?_)
  obtain rfl : cA = gJ g := ksame 2 (fun _ h => by cases h) rfl hKn
  have hP : va_P g.1 vwCl [(h0, .inr (8, [.null, .null, .int 0, .int 0, .int 0, .int 0, .int 0, .long 0, .int 0, .int 0])), (q1, .inl (gJ g, 18, .inr (.inl (fun _ => 0))))] H := hP
  have hD : va_D A [(h0, .inr (8, [.null, .null, .int 0, .int 0, .int 0, .int 0, .int 0, .long 0, .int 0, .int 0])), (q1, .inl (gJ g, 18, .inr (.inl (fun _ => 0))))] := hD
  refine va_putF (D := g.1) (ci := 8) (v := Value.ref q1) (ty := (.array .long)) (C := RX8) (T := TX8) (N := 10) hx hb hts inlX8 tyX8 tyX8_ok nmX8 hown hK hP hD hS 0 rfl rfl 0 (by decide) (hts _ q3_15) (fun _ h9 => h9) rfl hnm rfl (by decide +kernel) rfl rfl (Nat.le_of_ble_eq_true rfl) dX8_init_9 (fun H locs hP hD hS => ?_)
  have hP : va_P g.1 vwCl [(h0, .inr (8, [.ref q1, .null, .int 0, .int 0, .int 0, .int 0, .int 0, .long 0, .int 0, .int 0])), (q1, .inl (gJ g, 18, .inr (.inl (fun _ => 0))))] H := hP
  have hD : va_D A [(h0, .inr (8, [.ref q1, .null, .int 0, .int 0, .int 0, .int 0, .int 0, .long 0, .int 0, .int 0])), (q1, .inl (gJ g, 18, .inr (.inl (fun _ => 0))))] := hD
  refine lv_aload_n hx hb dX8_init_12 rfl (lv_at hl 0 rfl) ?_
  refine lv_iconst (v := 0) hx hb dX8_init_13 (by decide) ?_
  refine va_newa (atype := .byte) (a0 := (0, .inl (fun _ => 0))) hx hb (hts _ q1_12) rfl hK hP hD hS hA (fun _ => rfl) (by decide) (N' := 0) (by decide) (by decide) (Nat.le_of_ble_eq_true rfl) (Nat.le_of_ble_eq_true rfl) dX8_init_14 (fun q2 cA H hKn hP hD hS => ?_)
  obtain rfl : cA = gB g := ksame 0 (fun _ h => by cases h) rfl hKn
  have hP : va_P g.1 vwCl [(h0, .inr (8, [.ref q1, .null, .int 0, .int 0, .int 0, .int 0, .int 0, .long 0, .int 0, .int 0])), (q1, .inl (gJ g, 18, .inr (.inl (fun _ => 0)))), (q2, .inl (gB g, 0, .inl (fun _ => 0)))] H := hP
  have hD : va_D A [(h0, .inr (8, [.ref q1, .null, .int 0, .int 0, .int 0, .int 0, .int 0, .long 0, .int 0, .int 0])), (q1, .inl (gJ g, 18, .inr (.inl (fun _ => 0)))), (q2, .inl (gB g, 0, .inl (fun _ => 0)))] := hD
  refine va_put (D := g.1) (ci := 8) (v := Value.ref q2) (ty := (.array .byte)) (C := RX8) (T := TX8) (N := 10) hx hb hts inlX8 tyX8 tyX8_ok nmX8 hown hK hP hD hS 0 rfl rfl 1 (by decide) (hts _ q3_16) (fun _ h9 => h9) rfl (by decide +kernel) rfl rfl (Nat.le_of_ble_eq_true rfl) dX8_init_16 (fun H locs hP hD hS => ?_)
  have hP : va_P g.1 vwCl [(h0, .inr (8, [.ref q1, .ref q2, .int 0, .int 0, .int 0, .int 0, .int 0, .long 0, .int 0, .int 0])), (q1, .inl (gJ g, 18, .inr (.inl (fun _ => 0)))), (q2, .inl (gB g, 0, .inl (fun _ => 0)))] H := hP
  have hD : va_D A [(h0, .inr (8, [.ref q1, .ref q2, .int 0, .int 0, .int 0, .int 0, .int 0, .long 0, .int 0, .int 0])), (q1, .inl (gJ g, 18, .inr (.inl (fun _ => 0)))), (q2, .inl (gB g, 0, .inl (fun _ => 0)))] := hD
  refine lv_iconst (v := 0) hx hb dX8_init_19 (by decide) ?_
  refine lv_istore_n (lv' := [(1, .int 0), (0, .ref h0)]) hx hb dX8_init_20 rfl hl (by decide) rfl (fun ls hl => ?_)
  refine lv_iconst (v := 0) hx hb dX8_init_21 (by decide) ?_
  refine lv_istore_n (lv' := [(2, .int 0), (1, .int 0), (0, .ref h0)]) hx hb dX8_init_22 rfl hl (by decide) rfl (fun ls hl => ?_)
  have loop4 : ∀ (n k : Nat), k + n = 88 → ∀ (H : Heap) (locs : List Loc) (ls : Array Slot) (w : Nat) (f3 : Nat → Int64), (w ≤ 18) → va_P g.1 vwCl [(h0, .inr (8, [.ref q1, .ref q2, .int 0, .int 0, .int 0, .int 0, .int 0, .long 0, .int 0, .int 0])), (q1, .inl (gJ g, 18, .inr (.inl f3))), (q2, .inl (gB g, 0, .inl (fun _ => 0)))] H → va_D A [(h0, .inr (8, [.ref q1, .ref q2, .int 0, .int 0, .int 0, .int 0, .int 0, .long 0, .int 0, .int 0])), (q1, .inl (gJ g, 18, .inr (.inl f3))), (q2, .inl (gB g, 0, .inl (fun _ => 0)))] → va_S A s.heap H locs → lv_has ls 3 [(2, .int (nI k)), (1, .int (nI w)), (0, .ref h0)] → W p l e (rmD 6 2 18) s m ([Value.ref h0] : List Value).toArray below meth c H locs 2 18 (MQ below (QV g A (fun W' => ∃ (z0 : Nat) (z1 : Value) (z2 : Nat → Int64), W' = [(h0, .inr (8, [.ref z0, z1, .int 0, .int 0, .int 0, .int 0, .int 0, .long 0, .int 0, .int 0])), (z0, .inl (gJ g, 18, .inr (.inl z2)))])) ([Value.ref h0] : List Value).toArray s 2 18 A) (F0 m 23 ls []) := by
    intro n
    induction n with
    | zero =>
      intro k hk H locs ls w f3 hw hP hD hS hl
      obtain rfl : k = 88 := by omega
      refine lv_iload_n hx hb dX8_init_23 rfl (lv_at hl 0 rfl) ?_
      refine va_ldcS hx hb hown hF.1.1 dX8_init_24 ?_
      refine kI (wc := []) (wr := [(h0, .inr (8, [.ref q1, .ref q2, .int 0, .int 0, .int 0, .int 0, .int 0, .long 0, .int 0, .int 0])), (q1, .inl (gJ g, 18, .inr (.inl f3))), (q2, .inl (gB g, 0, .inl (fun _ => 0)))]) (rVs (As := []) (rest := [.int (nI 88)]) hcx hF hS hA (c_length H.size) (gdV q3_17 q3_18 q3_19 q3_20 q3_21) dvJ0_length_8abf5 ⟨Nat.le_of_ble_eq_true rfl, Nat.le_of_ble_eq_true rfl⟩ rfl hl.1 rfl (Nat.le_of_ble_eq_true rfl) dX8_init_26 ⟨Nat.le_of_ble_eq_true rfl, Nat.le_of_ble_eq_true rfl⟩) hP hD hS hA [] [0, 1, 2] rfl rfl (by decide) (by decide) (fun r5 W' H locs hw hP hD hS => ?_)
      obtain ⟨rfl, rfl⟩ := hw
      have hP : va_P g.1 vwCl [(h0, .inr (8, [.ref q1, .ref q2, .int 0, .int 0, .int 0, .int 0, .int 0, .long 0, .int 0, .int 0])), (q1, .inl (gJ g, 18, .inr (.inl f3))), (q2, .inl (gB g, 0, .inl (fun _ => 0)))] H := hP
      have hD : va_D A [(h0, .inr (8, [.ref q1, .ref q2, .int 0, .int 0, .int 0, .int 0, .int 0, .long 0, .int 0, .int 0])), (q1, .inl (gJ g, 18, .inr (.inl f3))), (q2, .inl (gB g, 0, .inl (fun _ => 0)))] := hD
      refine lv_icmp_ge (tgt := 82) hx hb dX8_init_29 (by decide) (fun _ => ?_) (fun c6 => absurd (by decide) c6)
      have hP9 : va_P g.1 vwCl [(h0, .inr (8, [.ref q1, .ref q2, .int 0, .int 0, .int 0, .int 0, .int 0, .long 0, .int 0, .int 0])), (q1, .inl (gJ g, 18, .inr (.inl f3)))] H := hP.sub [0, 1] rfl
      have hD9 : va_D A [(h0, .inr (8, [.ref q1, .ref q2, .int 0, .int 0, .int 0, .int 0, .int 0, .long 0, .int 0, .int 0])), (q1, .inl (gJ g, 18, .inr (.inl f3)))] := hD.sub [0, 1] (by decide) rfl
      exact xv hx hb hr hlocks hP9 hD9 hS ⟨q1, (.ref q2), f3, rfl⟩ (Nat.le_of_ble_eq_true rfl) (Nat.le_of_ble_eq_true rfl) dX8_init_82
    | succ n ih =>
      intro k hk H locs ls w f3 hw hP hD hS hl
      have hkN : k < 88 := by omega
      refine lv_iload_n hx hb dX8_init_23 rfl (lv_at hl 0 rfl) ?_
      refine va_ldcS hx hb hown hF.1.1 dX8_init_24 ?_
      refine kI (wc := []) (wr := [(h0, .inr (8, [.ref q1, .ref q2, .int 0, .int 0, .int 0, .int 0, .int 0, .long 0, .int 0, .int 0])), (q1, .inl (gJ g, 18, .inr (.inl f3))), (q2, .inl (gB g, 0, .inl (fun _ => 0)))]) (rVs (As := []) (rest := [.int (nI k)]) hcx hF hS hA (c_length H.size) (gdV q3_17 q3_18 q3_19 q3_20 q3_21) dvJ0_length_8abf5 ⟨Nat.le_of_ble_eq_true rfl, Nat.le_of_ble_eq_true rfl⟩ rfl hl.1 rfl (Nat.le_of_ble_eq_true rfl) dX8_init_26 ⟨Nat.le_of_ble_eq_true rfl, Nat.le_of_ble_eq_true rfl⟩) hP hD hS hA [] [0, 1, 2] rfl rfl (by decide) (by decide) (fun r7 W' H locs hw hP hD hS => ?_)
      obtain ⟨rfl, rfl⟩ := hw
      have hP : va_P g.1 vwCl [(h0, .inr (8, [.ref q1, .ref q2, .int 0, .int 0, .int 0, .int 0, .int 0, .long 0, .int 0, .int 0])), (q1, .inl (gJ g, 18, .inr (.inl f3))), (q2, .inl (gB g, 0, .inl (fun _ => 0)))] H := hP
      have hD : va_D A [(h0, .inr (8, [.ref q1, .ref q2, .int 0, .int 0, .int 0, .int 0, .int 0, .long 0, .int 0, .int 0])), (q1, .inl (gJ g, 18, .inr (.inl f3))), (q2, .inl (gB g, 0, .inl (fun _ => 0)))] := hD
      refine lv_icmp_ge (tgt := 82) hx hb dX8_init_29 (by decide) (fun c8 => absurd c8 (nI_ge (b := 88) hkN (by decide))) (fun _ => ?_)
      refine lv_iload_n hx hb dX8_init_32 rfl (lv_at hl 1 rfl) ?_
      refine lv_bipush (v := 18) hx hb dX8_init_33 (by decide) ?_
      refine lv_icmp_ge (tgt := 82) hx hb dX8_init_35 (by decide) (fun c9 => ?_) (fun c9 => ?_)
      · have hP9 : va_P g.1 vwCl [(h0, .inr (8, [.ref q1, .ref q2, .int 0, .int 0, .int 0, .int 0, .int 0, .long 0, .int 0, .int 0])), (q1, .inl (gJ g, 18, .inr (.inl f3)))] H := hP.sub [0, 1] rfl
        have hD9 : va_D A [(h0, .inr (8, [.ref q1, .ref q2, .int 0, .int 0, .int 0, .int 0, .int 0, .long 0, .int 0, .int 0])), (q1, .inl (gJ g, 18, .inr (.inl f3)))] := hD.sub [0, 1] (by decide) rfl
        exact xv hx hb hr hlocks hP9 hD9 hS ⟨q1, (.ref q2), f3, rfl⟩ (Nat.le_of_ble_eq_true rfl) (Nat.le_of_ble_eq_true rfl) dX8_init_82
      · have hwl : w < 18 := Nat.lt_of_not_le (fun q => c9 (nI_le (a := 18) q (by omega)))
        refine va_ldcS hx hb hown hF.1.1 dX8_init_38 ?_
        refine lv_iload_n hx hb dX8_init_40 rfl (lv_at hl 0 rfl) ?_
        refine kI (wc := []) (wr := [(h0, .inr (8, [.ref q1, .ref q2, .int 0, .int 0, .int 0, .int 0, .int 0, .long 0, .int 0, .int 0])), (q1, .inl (gJ g, 18, .inr (.inl f3))), (q2, .inl (gB g, 0, .inl (fun _ => 0)))]) (rVs (As := [.int (nI k)]) (rest := []) hcx hF hS hA (c_charAt hkN H.size) (gdV q4_5 q4_6 q4_7 q3_20 q4_8) dvJ0_charAt_5068e ⟨Nat.le_of_ble_eq_true rfl, Nat.le_of_ble_eq_true rfl⟩ rfl hl.1 rfl (Nat.le_of_ble_eq_true rfl) dX8_init_41 ⟨Nat.le_of_ble_eq_true rfl, Nat.le_of_ble_eq_true rfl⟩) hP hD hS hA [] [0, 1, 2] rfl rfl (by decide) (by decide) (fun r10 W' H locs hw hP hD hS => ?_)
        obtain ⟨hr10, rfl⟩ := hw
        have hP : va_P g.1 vwCl [(h0, .inr (8, [.ref q1, .ref q2, .int 0, .int 0, .int 0, .int 0, .int 0, .long 0, .int 0, .int 0])), (q1, .inl (gJ g, 18, .inr (.inl f3))), (q2, .inl (gB g, 0, .inl (fun _ => 0)))] H := hP
        have hD : va_D A [(h0, .inr (8, [.ref q1, .ref q2, .int 0, .int 0, .int 0, .int 0, .int 0, .long 0, .int 0, .int 0])), (q1, .inl (gJ g, 18, .inr (.inl f3))), (q2, .inl (gB g, 0, .inl (fun _ => 0)))] := hD
        refine lv_bipush (v := 32) hx hb dX8_init_44 (by decide) ?_
        refine lv_icmp_ne (tgt := 55) hx hb dX8_init_46 (by decide) (fun c11 => ?_) (fun c11 => ?_)
        · refine lv_aload_n hx hb dX8_init_55 rfl (lv_at hl 2 rfl) ?_
          refine va_get (D := g.1) (ci := 8) (v := Value.ref q1) (C := RX8) (T := TX8) (N := 10) hx hb hts inlX8 hown hK hP 0 rfl rfl 0 (by decide) (hts _ q3_15) (fun _ h9 => h9) rfl dX8_init_56 ?_
          refine lv_iload_n hx hb dX8_init_59 rfl (lv_at hl 1 rfl) ?_
          refine lv_aload_n hx hb dX8_init_60 rfl (lv_at hl 2 rfl) ?_
          refine va_get (D := g.1) (ci := 8) (v := Value.ref q1) (C := RX8) (T := TX8) (N := 10) hx hb hts inlX8 hown hK hP 0 rfl rfl 0 (by decide) (hts _ q3_15) (fun _ h9 => h9) rfl dX8_init_61 ?_
          refine lv_iload_n hx hb dX8_init_64 rfl (lv_at hl 1 rfl) ?_
          refine la_ld hx hb hK hP 1 2 rfl rfl (w) rfl (by omega) (by decide) dX8_init_65 ?_
          refine lv_topl (fun x12 ex12 => ?_)
          refine va_ldcS hx hb hown hF.1.1 dX8_init_66 ?_
          refine lv_iload_n hx hb dX8_init_68 rfl (lv_at hl 0 rfl) ?_
          refine kI (wc := []) (wr := [(h0, .inr (8, [.ref q1, .ref q2, .int 0, .int 0, .int 0, .int 0, .int 0, .long 0, .int 0, .int 0])), (q1, .inl (gJ g, 18, .inr (.inl f3))), (q2, .inl (gB g, 0, .inl (fun _ => 0)))]) (rVs (As := [.int (nI k)]) (rest := [.long x12, .int (nI w), .ref q1]) hcx hF hS hA (c_charAt hkN H.size) (gdV q4_5 q4_6 q4_7 q3_20 q4_8) dvJ0_charAt_5068e ⟨Nat.le_of_ble_eq_true rfl, Nat.le_of_ble_eq_true rfl⟩ rfl hl.1 rfl (Nat.le_of_ble_eq_true rfl) dX8_init_69 ⟨Nat.le_of_ble_eq_true rfl, Nat.le_of_ble_eq_true rfl⟩) hP hD hS hA [] [0, 1, 2] rfl rfl (by decide) (by decide) (fun r13 W' H locs hw hP hD hS => ?_)
          obtain ⟨hr13, rfl⟩ := hw
          have hP : va_P g.1 vwCl [(h0, .inr (8, [.ref q1, .ref q2, .int 0, .int 0, .int 0, .int 0, .int 0, .long 0, .int 0, .int 0])), (q1, .inl (gJ g, 18, .inr (.inl f3))), (q2, .inl (gB g, 0, .inl (fun _ => 0)))] H := hP
          have hD : va_D A [(h0, .inr (8, [.ref q1, .ref q2, .int 0, .int 0, .int 0, .int 0, .int 0, .long 0, .int 0, .int 0])), (q1, .inl (gJ g, 18, .inr (.inl f3))), (q2, .inl (gB g, 0, .inl (fun _ => 0)))] := hD
          refine kL (wc := []) (wr := [(h0, .inr (8, [.ref q1, .ref q2, .int 0, .int 0, .int 0, .int 0, .int 0, .long 0, .int 0, .int 0])), (q1, .inl (gJ g, 18, .inr (.inl f3))), (q2, .inl (gB g, 0, .inl (fun _ => 0)))]) (rS (As := [.long x12, .int r13]) (rest := [.int (nI w), .ref q1]) hcx (c_X8_withLetter H.size) (gdS q5_18 q5_19 q3_7 q5_20) dvX8_withLetter.2 ⟨Nat.le_of_ble_eq_true rfl, Nat.le_of_ble_eq_true rfl⟩ (hP.sub [] rfl) (hD.sub [] (by decide) rfl) rfl hl.1 rfl (Nat.le_of_ble_eq_true rfl) dX8_init_72 ⟨Nat.le_of_ble_eq_true rfl, Nat.le_of_ble_eq_true rfl⟩) hP hD hS hA [] [0, 1, 2] rfl rfl (by decide) (by decide) (fun r14 W' H locs hw hP hD hS => ?_)
          obtain ⟨hr15, rfl⟩ := hw
          have hP : va_P g.1 vwCl [(h0, .inr (8, [.ref q1, .ref q2, .int 0, .int 0, .int 0, .int 0, .int 0, .long 0, .int 0, .int 0])), (q1, .inl (gJ g, 18, .inr (.inl f3))), (q2, .inl (gB g, 0, .inl (fun _ => 0)))] H := hP
          have hD : va_D A [(h0, .inr (8, [.ref q1, .ref q2, .int 0, .int 0, .int 0, .int 0, .int 0, .long 0, .int 0, .int 0])), (q1, .inl (gJ g, 18, .inr (.inl f3))), (q2, .inl (gB g, 0, .inl (fun _ => 0)))] := hD
          refine la_st hx hb hK hP hD hS 1 2 rfl rfl (w) rfl (by omega) (by decide) dX8_init_75 (fun f16 H locs hP hD hS => ?_)
          have hP : va_P g.1 vwCl [(h0, .inr (8, [.ref q1, .ref q2, .int 0, .int 0, .int 0, .int 0, .int 0, .long 0, .int 0, .int 0])), (q1, .inl (gJ g, 18, .inr (.inl f16))), (q2, .inl (gB g, 0, .inl (fun _ => 0)))] H := hP
          have hD : va_D A [(h0, .inr (8, [.ref q1, .ref q2, .int 0, .int 0, .int 0, .int 0, .int 0, .long 0, .int 0, .int 0])), (q1, .inl (gJ g, 18, .inr (.inl f16))), (q2, .inl (gB g, 0, .inl (fun _ => 0)))] := hD
          refine lv_iinc (v := (nI (k + 1))) (lv' := [(2, .int (nI (k + 1))), (1, .int (nI w)), (0, .ref h0)]) hx hb dX8_init_76 hl (k := 0) rfl (nI_1 _) (by decide) rfl (fun ls hl => ?_)
          refine lv_goto (tgt := 23) hx hb dX8_init_79 (by decide) ?_
          exact ih (k + 1) (by omega) H locs ls (w) _ (by omega) hP hD hS (lv_sub hl [0, 1, 2] rfl)
        · refine lv_iinc (v := (nI (w + 1))) (lv' := [(1, .int (nI (w + 1))), (2, .int (nI k)), (0, .ref h0)]) hx hb dX8_init_49 hl (k := 1) rfl (nI_1 _) (by decide) rfl (fun ls hl => ?_)
          refine lv_goto (tgt := 76) hx hb dX8_init_52 (by decide) ?_
          refine lv_iinc (v := (nI (k + 1))) (lv' := [(2, .int (nI (k + 1))), (1, .int (nI (w + 1))), (0, .ref h0)]) hx hb dX8_init_76 hl (k := 1) rfl (nI_1 _) (by decide) rfl (fun ls hl => ?_)
          refine lv_goto (tgt := 23) hx hb dX8_init_79 (by decide) ?_
          exact ih (k + 1) (by omega) H locs ls (w + 1) _ (by omega) hP hD hS (lv_sub hl [0, 1, 2] rfl)
  exact loop4 88 0 rfl H locs ls 0 _ ((by decide)) hP hD hS hl

set_option maxHeartbeats 4000000 in
set_option maxRecDepth 100000 in
theorem c_X5_init {l : Launch} {g : Gx} {z : Sg} {h0 : Nat} : MVs l g z yX5_init cX5_init 1 7 3 28 [.ref h0] [(h0, .inr (5, [.null, .int 0, .int 0, .int 0, .int 0]))] (fun W' => ∃ (z0 : Nat) (z1 : Nat) (z2 : Value) (z3 : Nat → Int64), W' = [(h0, .inr (5, [.ref z0, .int 0, .int 0, .int 0, .int (-1)])), (z0, .inr (8, [.ref z1, z2, .int 0, .int 0, .int 0, .int 0, .int 0, .long 0, .int 0, .int 0])), (z1, .inl (gJ g, 18, .inr (.inl z3)))]) := by
  refine MVsof (by decide) (fun _ => Nat.le_of_ble_eq_true rfl) ?_
  intro p e s m below meth c A ls H locs hcx hF hA hP hD hS hl
  obtain ⟨hx, hb, hml, hr, hlocks, hown, hts, hE, hnm⟩ := id hcx
  have hown : s.vm.findClass RX5 = some m.cls := hown
  have hK := hE.1
  have hl : lv_has ls 1 [(0, .ref h0)] := hl
  refine lv_aload_n hx hb dX5_init_0 rfl (lv_at hl 0 rfl) ?_
  refine W.objInit hx hb hown (hts _ q3_4) (hts _ q1_10) (hts _ q1_11) rfl (by rw [hml]; exact hl.1) rfl dX5_init_1 (Nat.le_of_ble_eq_true rfl) (Nat.le_of_ble_eq_true rfl) ?_
  refine W.eq (g2 := F0 m 4 ls []) rfl ?_
  refine lv_aload_n hx hb dX5_init_4 rfl (lv_at hl 0 rfl) ?_
  refine va_new (ci := 8) (fs := [.null, .null, .int 0, .int 0, .int 0, .int 0, .int 0, .long 0, .int 0, .int 0]) (C := RX8) (T := TX8) (N := 10) hx hb hts inlX8 tyX8 tyX8_ok hown (hts _ q3_5) (hts _ q3_6) (hts _ q3_7) hK hP hD hS hA rfl (by decide +kernel) (Nat.le_of_ble_eq_true rfl) (Nat.le_of_ble_eq_true rfl) dX5_init_5 (fun q1 H hP hD hS => ?_)
  have hP : va_P g.1 vwCl [(h0, .inr (5, [.null, .int 0, .int 0, .int 0, .int 0])), (q1, .inr (8, [.null, .null, .int 0, .int 0, .int 0, .int 0, .int 0, .long 0, .int 0, .int 0]))] H := hP
  have hD : va_D A [(h0, .inr (5, [.null, .int 0, .int 0, .int 0, .int 0])), (q1, .inr (8, [.null, .null, .int 0, .int 0, .int 0, .int 0, .int 0, .long 0, .int 0, .int 0]))] := hD
  refine lv_dup hx hb dX5_init_8 rfl ?_
  refine kV (wc := [(q1, .inr (8, [.null, .null, .int 0, .int 0, .int 0, .int 0, .int 0, .long 0, .int 0, .int 0]))]) (wr := [(h0, .inr (5, [.null, .int 0, .int 0, .int 0, .int 0]))]) (rNs (As := []) (rest := [.ref q1, .ref h0]) hcx hF hS (va_free (wc := [(q1, .inr (8, [.null, .null, .int 0, .int 0, .int 0, .int 0, .int 0, .long 0, .int 0, .int 0]))]) hD hS hA [1] rfl) (c_X8_init H.size) (gdC q3_12) q3_7 q3_10 q3_11 rfl dvX8_init.2 ⟨Nat.le_of_ble_eq_true rfl, Nat.le_of_ble_eq_true rfl⟩ (hP.sub [1] rfl) (hD.sub [1] (by decide) rfl) rfl hl.1 rfl (Nat.le_of_ble_eq_true rfl) dX5_init_9 ⟨Nat.le_of_ble_eq_true rfl, Nat.le_of_ble_eq_true rfl⟩) hP hD hS hA [1] [0] rfl rfl (by decide) (by decide) (fun W' H locs hw hP hD hS => ?_)
  obtain ⟨q2, x3, f4, rfl⟩ := hw
  have hP : va_P g.1 vwCl [(h0, .inr (5, [.null, .int 0, .int 0, .int 0, .int 0])), (q1, .inr (8, [.ref q2, x3, .int 0, .int 0, .int 0, .int 0, .int 0, .long 0, .int 0, .int 0])), (q2, .inl (gJ g, 18, .inr (.inl f4)))] H := hP
  have hD : va_D A [(h0, .inr (5, [.null, .int 0, .int 0, .int 0, .int 0])), (q1, .inr (8, [.ref q2, x3, .int 0, .int 0, .int 0, .int 0, .int 0, .long 0, .int 0, .int 0])), (q2, .inl (gJ g, 18, .inr (.inl f4)))] := hD
  refine va_putF (D := g.1) (ci := 5) (v := Value.ref q1) (ty := (.object "GuildBanner$Tokens")) (C := RX5) (T := TX5) (N := 5) hx hb hts inlX5 tyX5 tyX5_ok nmX5 hown hK hP hD hS 0 rfl rfl 0 (by decide) (hts _ q3_8) (fun _ h9 => h9) rfl hnm rfl (by decide +kernel) rfl rfl (Nat.le_of_ble_eq_true rfl) dX5_init_12 (fun H locs hP hD hS => ?_)
  have hP : va_P g.1 vwCl [(h0, .inr (5, [.ref q1, .int 0, .int 0, .int 0, .int 0])), (q1, .inr (8, [.ref q2, x3, .int 0, .int 0, .int 0, .int 0, .int 0, .long 0, .int 0, .int 0])), (q2, .inl (gJ g, 18, .inr (.inl f4)))] H := hP
  have hD : va_D A [(h0, .inr (5, [.ref q1, .int 0, .int 0, .int 0, .int 0])), (q1, .inr (8, [.ref q2, x3, .int 0, .int 0, .int 0, .int 0, .int 0, .long 0, .int 0, .int 0])), (q2, .inl (gJ g, 18, .inr (.inl f4)))] := hD
  refine lv_aload_n hx hb dX5_init_15 rfl (lv_at hl 0 rfl) ?_
  refine lv_iconst (v := (-1)) hx hb dX5_init_16 (by decide) ?_
  refine va_put (D := g.1) (ci := 5) (v := Value.int (-1)) (ty := .int) (C := RX5) (T := TX5) (N := 5) hx hb hts inlX5 tyX5 tyX5_ok nmX5 hown hK hP hD hS 0 rfl rfl 4 (by decide) (hts _ q3_9) (fun _ h9 => h9) rfl (by decide +kernel) rfl rfl (Nat.le_of_ble_eq_true rfl) dX5_init_17 (fun H locs hP hD hS => ?_)
  have hP : va_P g.1 vwCl [(h0, .inr (5, [.ref q1, .int 0, .int 0, .int 0, .int (-1)])), (q1, .inr (8, [.ref q2, x3, .int 0, .int 0, .int 0, .int 0, .int 0, .long 0, .int 0, .int 0])), (q2, .inl (gJ g, 18, .inr (.inl f4)))] H := hP
  have hD : va_D A [(h0, .inr (5, [.ref q1, .int 0, .int 0, .int 0, .int (-1)])), (q1, .inr (8, [.ref q2, x3, .int 0, .int 0, .int 0, .int 0, .int 0, .long 0, .int 0, .int 0])), (q2, .inl (gJ g, 18, .inr (.inl f4)))] := hD
  exact xv hx hb hr hlocks hP hD hS ⟨q1, q2, (x3), f4, rfl⟩ (Nat.le_of_ble_eq_true rfl) (Nat.le_of_ble_eq_true rfl) dX5_init_20
