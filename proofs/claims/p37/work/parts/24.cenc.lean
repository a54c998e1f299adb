set_option maxHeartbeats 4000000 in
set_option maxRecDepth 100000 in
theorem c_J1_canEncode {l : Launch} {g : Gx} {p0 : Int32} : MI l g yJ1_canEncode_9a6ad cJ1_canEncode_9a6ad 1 (some .boolean) 2 0 0 [.int p0] [] (fun r W' => (∃ m : Nat, m ≤ 1 ∧ nI m = r) ∧ W' = []) := by
  refine MIof (by decide) (Nat.le_of_ble_eq_true rfl) ?_
  intro p e s m below meth c A ls H locs hcx hA hP hD hS hl
  obtain ⟨hx, hb, hml, hr, hlocks, hown, hts, hE, hnm⟩ := id hcx
  have hown : s.vm.findClass RJ1 = some m.cls := hown
  have hK := hE.1
  have hl : lv_has ls 1 [(0, .int p0)] := hl
  refine lv_iload_n hx hb dJ1_canEncode_9a6ad_0 rfl (lv_at hl 0 rfl) ?_
  refine lv_if_lt (tgt := 15) hx hb dJ1_canEncode_9a6ad_1 (by decide) (fun c1 => ?_) (fun c1 => ?_)
  · refine lv_iconst (v := 0) hx hb dJ1_canEncode_9a6ad_15 (by decide) ?_
    exact xi hx hb hr hlocks rfl hP hD hS ⟨⟨0, by omega, rfl⟩, rfl⟩ (Nat.le_of_ble_eq_true rfl) (Nat.le_of_ble_eq_true rfl) dJ1_canEncode_9a6ad_16
  · refine lv_iload_n hx hb dJ1_canEncode_9a6ad_4 rfl (lv_at hl 0 rfl) ?_
    refine lv_sipush (v := 255) hx hb dJ1_canEncode_9a6ad_5 (by decide) ?_
    refine lv_icmp_gt (tgt := 15) hx hb dJ1_canEncode_9a6ad_8 (by decide) (fun c2 => ?_) (fun c2 => ?_)
    · refine lv_iconst (v := 0) hx hb dJ1_canEncode_9a6ad_15 (by decide) ?_
      exact xi hx hb hr hlocks rfl hP hD hS ⟨⟨0, by omega, rfl⟩, rfl⟩ (Nat.le_of_ble_eq_true rfl) (Nat.le_of_ble_eq_true rfl) dJ1_canEncode_9a6ad_16
    · obtain ⟨m3, hm3, em3⟩ := inN (B := 255) (by omega) c1 c2
      subst em3
      refine lv_iconst (v := 1) hx hb dJ1_canEncode_9a6ad_11 (by decide) ?_
      refine lv_goto (tgt := 16) hx hb dJ1_canEncode_9a6ad_12 (by decide) ?_
      exact xi hx hb hr hlocks rfl hP hD hS ⟨⟨1, by omega, rfl⟩, rfl⟩ (Nat.le_of_ble_eq_true rfl) (Nat.le_of_ble_eq_true rfl) dJ1_canEncode_9a6ad_16
