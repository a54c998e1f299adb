theorem TNz {n B : Nat} : TN n B (fun _ => 0) := fun k _ => ⟨0, Nat.zero_le _, rfl⟩
theorem TMz {n B : Nat} : TM n B (fun _ => 0) := fun k _ => Or.inr ⟨0, Nat.zero_le _, rfl⟩
theorem snP {X P : va_W} {q : Nat × va_E} : List.Perm ((X ++ P) ++ [q]) ((X ++ [q]) ++ P) := by
  rw [List.append_assoc, List.append_assoc]
  exact List.Perm.append_left X List.perm_append_comm
theorem mvP {X S P : va_W} : List.Perm ((X ++ S) ++ P) (X ++ (P ++ S)) := by
  rw [List.append_assoc]
  exact List.Perm.append_left X List.perm_append_comm
theorem PLS_ext {g : Gx} {f f1 : Nat → Option Nat} {F : Nat → (Nat → Int32) → Prop} {k : Nat} {W : va_W} (h : PLS g f F k W) (e : ∀ i, i < k → f1 i = f i) : PLS g f1 F k W := by
  induction k generalizing W with
  | zero => exact h
  | succ k ih =>
    obtain ⟨W1, W2, a, fo, e1, h1, h2, h3, h4⟩ := h
    exact ⟨W1, W2, a, fo, e1, ih h1 (fun i hi => e i (by omega)), (e k (by omega)).trans h2, h3, h4⟩
set_option maxHeartbeats 4000000 in
set_option maxRecDepth 100000 in
theorem c_X2_init {l : Launch} {g : Gx} {h0 : Nat} : MV l g yX2_init cX2_init 2 3 247 1476 [.ref h0] [(h0, .inr (2, [.null, .int 0, .int 0, .int 0]))] (fun W' => ∃ (q : Nat) (f : Nat → Option Nat) (P : va_W), W' = [(h0, .inr (2, [.ref q, .int 0, .int 0, .int 0])), (q, .inl (gO g, 41, .inr (.inr (.inr (.inr f)))))] ++ P ∧ PLS g f (fun _ _ => True) 41 P) := by
  refine MVof (by decide) (Nat.le_of_ble_eq_true rfl) ?_
  intro p e s m below meth c A ls H locs hcx hA hP hD hS hl
  obtain ⟨hx, hb, hml, hr, hlocks, hown, hts, hE, hnm⟩ := id hcx
  have hown : s.vm.findClass RX2 = some m.cls := hown
  have hK := hE.1
  have hl : lv_has ls 2 [(0, .ref h0)] := hl
  refine lv_aload_n hx hb dX2_init_0 rfl (lv_at hl 0 rfl) ?_
  refine W.objInit hx hb hown (hts _ q7_16) (hts _ q1_10) (hts _ q1_11) rfl (by rw [hml]; exact hl.1) rfl dX2_init_1 (Nat.le_of_ble_eq_true rfl) (Nat.le_of_ble_eq_true rfl) ?_
  refine W.eq (g2 := F0 m 4 ls []) rfl ?_
  refine lv_aload_n hx hb dX2_init_4 rfl (lv_at hl 0 rfl) ?_
  refine lv_bipush (v := 41) hx hb dX2_init_5 (by decide) ?_
  refine va_newq (C := "GuildBanner$State") hx hb hown (hts _ q7_17) hE.2.2 hK hP hD hS hA (by decide) (N' := 41) (by decide) (by decide) (Nat.le_of_ble_eq_true rfl) (Nat.le_of_ble_eq_true rfl) dX2_init_7 (fun q1 cA H hKn hP hD hS => ?_)
  obtain rfl : cA = gO g := ksameO hKn
  have hP : va_P g.1 vwCl [(h0, .inr (2, [.null, .int 0, .int 0, .int 0])), (q1, .inl (gO g, 41, .inr (.inr (.inr (.inr (fun _ => none))))))] H := hP
  have hD : va_D A [(h0, .inr (2, [.null, .int 0, .int 0, .int 0])), (q1, .inl (gO g, 41, .inr (.inr (.inr (.inr (fun _ => none))))))] := hD
  refine va_putF (D := g.1) (ci := 2) (v := Value.ref q1) (ty := (.array (.object "GuildBanner$State"))) (C := RX2) (T := TX2) (N := 4) hx hb hts inlX2 tyX2 tyX2_ok nmX2 hown hK hP hD hS 0 rfl rfl 0 (by decide) (hts _ q7_18) (fun _ h9 => h9) rfl hnm rfl (by decide +kernel) rfl rfl (Nat.le_of_ble_eq_true rfl) dX2_init_10 (fun H locs hP hD hS => ?_)
  have hP : va_P g.1 vwCl [(h0, .inr (2, [.ref q1, .int 0, .int 0, .int 0])), (q1, .inl (gO g, 41, .inr (.inr (.inr (.inr (fun _ => none))))))] H := hP
  have hD : va_D A [(h0, .inr (2, [.ref q1, .int 0, .int 0, .int 0])), (q1, .inl (gO g, 41, .inr (.inr (.inr (.inr (fun _ => none))))))] := hD
  refine lv_iconst (v := 0) hx hb dX2_init_13 (by decide) ?_
  refine lv_istore_n (lv' := [(1, .int 0), (0, .ref h0)]) hx hb dX2_init_14 rfl hl (by decide) rfl (fun ls hl => ?_)
  have loop : ∀ (n k : Nat) (H : Heap) (locs : List Loc) (ls : Array Slot) (f : Nat → Option Nat) (P : va_W), k + n = 41 → PLS g f (fun _ _ => True) k P → va_P g.1 vwCl ([(h0, .inr (2, [.ref q1, .int 0, .int 0, .int 0])), (q1, .inl (gO g, 41, .inr (.inr (.inr (.inr f)))))] ++ P) H → va_D A ([(h0, .inr (2, [.ref q1, .int 0, .int 0, .int 0])), (q1, .inl (gO g, 41, .inr (.inr (.inr (.inr f)))))] ++ P) → va_S A s.heap H locs → lv_has ls 2 [(1, .int (nI k)), (0, .ref h0)] → W p l e (rmD 3 247 1476) s m ([Value.ref h0] : List Value).toArray below meth c H locs (1 + 6 * k) (41 + 35 * k) (MQ below (QV g A (fun W' => ∃ (q : Nat) (f : Nat → Option Nat) (P : va_W), W' = [(h0, .inr (2, [.ref q, .int 0, .int 0, .int 0])), (q, .inl (gO g, 41, .inr (.inr (.inr (.inr f)))))] ++ P ∧ PLS g f (fun _ _ => True) 41 P)) ([Value.ref h0] : List Value).toArray s 247 1476 A) (F0 m 15 ls []) := by
    intro n
    induction n with
    | zero =>
      intro k H locs ls f P hk hPL hP hD hS hl
      obtain rfl : k = 41 := by omega
      refine lv_iload_n hx hb dX2_init_15 rfl (lv_at hl 0 rfl) ?_
      refine lv_bipush (v := 41) hx hb dX2_init_16 (by decide) ?_
      refine lv_icmp_ge (tgt := 40) hx hb dX2_init_18 (by decide) (fun _ => ?_) (fun c1 => absurd (by decide) c1)
      exact xv hx hb hr hlocks hP hD hS ⟨q1, f, P, rfl, hPL⟩ (Nat.le_of_ble_eq_true rfl) (Nat.le_of_ble_eq_true rfl) dX2_init_40
    | succ n ih =>
      intro k H locs ls f P hk hPL hP hD hS hl
      have hk41 : k < 41 := by omega
      refine lv_iload_n hx hb dX2_init_15 rfl (lv_at hl 0 rfl) ?_
      refine lv_bipush (v := 41) hx hb dX2_init_16 (by decide) ?_
      refine lv_icmp_ge (tgt := 40) hx hb dX2_init_18 (by decide) (fun c2 => absurd c2 (nI_ge (a := k) (b := 41) (by omega) (by omega))) (fun _ => ?_)
      refine lv_aload_n hx hb dX2_init_21 rfl (lv_at hl 1 rfl) ?_
      refine va_get (D := g.1) (ci := 2) (v := Value.ref q1) (C := RX2) (T := TX2) (N := 4) hx hb hts inlX2 hown hK hP 0 rfl rfl 0 (by decide) (hts _ q7_18) (fun _ h9 => h9) rfl dX2_init_22 ?_
      refine lv_iload_n hx hb dX2_init_25 rfl (lv_at hl 0 rfl) ?_
      refine va_new (ci := 7) (fs := [.null, .null, .null, .null, .null, .int 0, .int 0, .int 0, .int 0, .int 0]) (C := RX7) (T := TX7) (N := 10) hx hb hts inlX7 tyX7 tyX7_ok hown (hts _ q7_17) (hts _ q2_4) (hts _ q2_5) hK hP hD hS hA rfl (by decide +kernel) (by show _ ≤ 247; omega) (by show _ ≤ 1476; omega) dX2_init_26 (fun q3 H hP hD hS => ?_)
      have hP : va_P g.1 vwCl ([(h0, .inr (2, [.ref q1, .int 0, .int 0, .int 0])), (q1, .inl (gO g, 41, .inr (.inr (.inr (.inr f))))), (q3, .inr (7, [.null, .null, .null, .null, .null, .int 0, .int 0, .int 0, .int 0, .int 0]))] ++ P) H := P_perm hP snP
      have hD : va_D A ([(h0, .inr (2, [.ref q1, .int 0, .int 0, .int 0])), (q1, .inl (gO g, 41, .inr (.inr (.inr (.inr f))))), (q3, .inr (7, [.null, .null, .null, .null, .null, .int 0, .int 0, .int 0, .int 0, .int 0]))] ++ P) := D_perm hD snP
      refine lv_dup hx hb dX2_init_29 rfl ?_
      refine kVq (wc := [(q3, .inr (7, [.null, .null, .null, .null, .null, .int 0, .int 0, .int 0, .int 0, .int 0]))]) (wr := [(h0, .inr (2, [.ref q1, .int 0, .int 0, .int 0])), (q1, .inl (gO g, 41, .inr (.inr (.inr (.inr f)))))]) (rM (As := []) (rest := [.ref q3, .int (nI k), .ref q1]) hcx (c_X7_init H.size) (gdC q7_6) q2_5 (List.mem_of_getElem? (i := 4) rfl) q7_5 rfl dvX7_init.2 ⟨Nat.le_of_ble_eq_true rfl, Nat.le_of_ble_eq_true rfl⟩ (hP.sub [2] rfl) (hD.sub [2] (by decide) rfl) rfl hl.1 rfl (Nat.le_of_ble_eq_true rfl) dX2_init_30 ⟨by show _ ≤ 247; omega, by show _ ≤ 1476; omega⟩) hP hD hS hA [2] [0, 1] rfl rfl (by decide) (by decide) (fun W' H locs hw hP hD hS => ?_)
      obtain ⟨q4, q5, q6, q7, q8, rfl⟩ := hw
      have hP : va_P g.1 vwCl ([(h0, .inr (2, [.ref q1, .int 0, .int 0, .int 0])), (q1, .inl (gO g, 41, .inr (.inr (.inr (.inr f))))), (q3, .inr (7, [.ref q4, .ref q5, .ref q6, .ref q7, .ref q8, .int 0, .int 0, .int 0, .int 0, .int 0])), (q4, .inl (gI g, 5, .inl (fun _ => 0))), (q5, .inl (gI g, 5, .inl (fun _ => 0))), (q6, .inl (gI g, 5, .inl (fun _ => 0))), (q7, .inl (gI g, 5, .inl (fun _ => 0))), (q8, .inl (gI g, 5, .inl (fun _ => 0)))] ++ P) H := hP
      have hD : va_D A ([(h0, .inr (2, [.ref q1, .int 0, .int 0, .int 0])), (q1, .inl (gO g, 41, .inr (.inr (.inr (.inr f))))), (q3, .inr (7, [.ref q4, .ref q5, .ref q6, .ref q7, .ref q8, .int 0, .int 0, .int 0, .int 0, .int 0])), (q4, .inl (gI g, 5, .inl (fun _ => 0))), (q5, .inl (gI g, 5, .inl (fun _ => 0))), (q6, .inl (gI g, 5, .inl (fun _ => 0))), (q7, .inl (gI g, 5, .inl (fun _ => 0))), (q8, .inl (gI g, 5, .inl (fun _ => 0)))] ++ P) := hD
      refine oa_st hx hb hK hP hD hS 1 4 2 7 rfl rfl rfl rfl (k) rfl (by omega) (by decide) dX2_init_33 (fun f1 H locs ef1 hP hD hS => ?_)
      have hP : va_P g.1 vwCl ([(h0, .inr (2, [.ref q1, .int 0, .int 0, .int 0])), (q1, .inl (gO g, 41, .inr (.inr (.inr (.inr f1))))), (q3, .inr (7, [.ref q4, .ref q5, .ref q6, .ref q7, .ref q8, .int 0, .int 0, .int 0, .int 0, .int 0])), (q4, .inl (gI g, 5, .inl (fun _ => 0))), (q5, .inl (gI g, 5, .inl (fun _ => 0))), (q6, .inl (gI g, 5, .inl (fun _ => 0))), (q7, .inl (gI g, 5, .inl (fun _ => 0))), (q8, .inl (gI g, 5, .inl (fun _ => 0)))] ++ P) H := hP
      have hD : va_D A ([(h0, .inr (2, [.ref q1, .int 0, .int 0, .int 0])), (q1, .inl (gO g, 41, .inr (.inr (.inr (.inr f1))))), (q3, .inr (7, [.ref q4, .ref q5, .ref q6, .ref q7, .ref q8, .int 0, .int 0, .int 0, .int 0, .int 0])), (q4, .inl (gI g, 5, .inl (fun _ => 0))), (q5, .inl (gI g, 5, .inl (fun _ => 0))), (q6, .inl (gI g, 5, .inl (fun _ => 0))), (q7, .inl (gI g, 5, .inl (fun _ => 0))), (q8, .inl (gI g, 5, .inl (fun _ => 0)))] ++ P) := hD
      have hP : va_P g.1 vwCl ([(h0, .inr (2, [.ref q1, .int 0, .int 0, .int 0])), (q1, .inl (gO g, 41, .inr (.inr (.inr (.inr f1)))))] ++ (P ++ [(q3, .inr (7, [.ref q4, .ref q5, .ref q6, .ref q7, .ref q8, .int 0, .int 0, .int 0, .int 0, .int 0])), (q4, .inl (gI g, 5, .inl (fun _ => 0))), (q5, .inl (gI g, 5, .inl (fun _ => 0))), (q6, .inl (gI g, 5, .inl (fun _ => 0))), (q7, .inl (gI g, 5, .inl (fun _ => 0))), (q8, .inl (gI g, 5, .inl (fun _ => 0)))])) H := P_perm (P_part (X' := [(h0, .inr (2, [.ref q1, .int 0, .int 0, .int 0])), (q1, .inl (gO g, 41, .inr (.inr (.inr (.inr f1)))))] ++ [(q3, .inr (7, [.ref q4, .ref q5, .ref q6, .ref q7, .ref q8, .int 0, .int 0, .int 0, .int 0, .int 0])), (q4, .inl (gI g, 5, .inl (fun _ => 0))), (q5, .inl (gI g, 5, .inl (fun _ => 0))), (q6, .inl (gI g, 5, .inl (fun _ => 0))), (q7, .inl (gI g, 5, .inl (fun _ => 0))), (q8, .inl (gI g, 5, .inl (fun _ => 0)))]) hP [0, 1, 2, 3, 4, 5, 6, 7] rfl) mvP
      have hD : va_D A ([(h0, .inr (2, [.ref q1, .int 0, .int 0, .int 0])), (q1, .inl (gO g, 41, .inr (.inr (.inr (.inr f1)))))] ++ (P ++ [(q3, .inr (7, [.ref q4, .ref q5, .ref q6, .ref q7, .ref q8, .int 0, .int 0, .int 0, .int 0, .int 0])), (q4, .inl (gI g, 5, .inl (fun _ => 0))), (q5, .inl (gI g, 5, .inl (fun _ => 0))), (q6, .inl (gI g, 5, .inl (fun _ => 0))), (q7, .inl (gI g, 5, .inl (fun _ => 0))), (q8, .inl (gI g, 5, .inl (fun _ => 0)))])) := D_perm (hD.part (cx := [(h0, .inr (2, [.ref q1, .int 0, .int 0, .int 0])), (q1, .inl (gO g, 41, .inr (.inr (.inr (.inr f1)))))] ++ [(q3, .inr (7, [.ref q4, .ref q5, .ref q6, .ref q7, .ref q8, .int 0, .int 0, .int 0, .int 0, .int 0])), (q4, .inl (gI g, 5, .inl (fun _ => 0))), (q5, .inl (gI g, 5, .inl (fun _ => 0))), (q6, .inl (gI g, 5, .inl (fun _ => 0))), (q7, .inl (gI g, 5, .inl (fun _ => 0))), (q8, .inl (gI g, 5, .inl (fun _ => 0)))]) [0, 1, 2, 3, 4, 5, 6, 7] (by decide +kernel) rfl) mvP
      have hPL1 : PLS g f1 (fun _ _ => True) (k + 1) (P ++ [(q3, .inr (7, [.ref q4, .ref q5, .ref q6, .ref q7, .ref q8, .int 0, .int 0, .int 0, .int 0, .int 0])), (q4, .inl (gI g, 5, .inl (fun _ => 0))), (q5, .inl (gI g, 5, .inl (fun _ => 0))), (q6, .inl (gI g, 5, .inl (fun _ => 0))), (q7, .inl (gI g, 5, .inl (fun _ => 0))), (q8, .inl (gI g, 5, .inl (fun _ => 0)))]) := ⟨P, [(q3, .inr (7, [.ref q4, .ref q5, .ref q6, .ref q7, .ref q8, .int 0, .int 0, .int 0, .int 0, .int 0])), (q4, .inl (gI g, 5, .inl (fun _ => 0))), (q5, .inl (gI g, 5, .inl (fun _ => 0))), (q6, .inl (gI g, 5, .inl (fun _ => 0))), (q7, .inl (gI g, 5, .inl (fun _ => 0))), (q8, .inl (gI g, 5, .inl (fun _ => 0)))], q3, (fun _ => 0), rfl, PLS_ext hPL (fun i hi => by rw [ef1]; exact va_up_ne _ _ (by omega)), by rw [ef1]; exact va_up_self _ _ _, ⟨q4, q5, q6, q7, q8, (fun _ => 0), (fun _ => 0), (fun _ => 0), (fun _ => 0), 0, 0, 0, 0, 0, rfl, TNz, TMz, TMz, by omega⟩, trivial⟩
      refine lv_iinc (v := (nI (k + 1))) (lv' := [(1, .int (nI (k + 1))), (0, .ref h0)]) hx hb dX2_init_34 hl (k := 0) rfl (nI_1 _) (by decide) rfl (fun ls hl => ?_)
      refine lv_goto (tgt := 15) hx hb dX2_init_37 (by decide) ?_
      refine W.widen (k := 1 + 6 * (k + 1)) (n := 41 + 35 * (k + 1)) (by omega) (by omega) ?_
      exact ih (k + 1) H locs ls f1 _ (by omega) hPL1 hP hD hS hl
  exact loop 41 0 H locs ls (fun _ => none) [] rfl rfl hP hD hS hl
