/-- who bears a banner that is up -/
def BU (fh : Nat → Int32) (up : Int32) (g : Nat) : Prop := fh g = -1 ∧ up >>> (nI g &&& 31) &&& 1 = 1
def XB (B : Nat → Prop) (n : Nat) (x : Int32) : Prop := x = -1 ∨ ∃ a, a < n ∧ B a ∧ x = nI a
def LI (B : Nat → Prop) (n : Nat) (fo : Nat → Int32) (k : Nat) (f : Nat → Int32) : Prop := ∀ j, j < k → ∀ m, m < n → fo j = nI m → B m → XB B n (f m)
def AH (B : Nat → Prop) (n : Nat) (f : Nat → Int32) : Prop := ∀ m, m < n → B m → XB B n (f m)
def CR (B : Nat → Prop) (k : Nat) (f : Nat → Int32) : Prop := ∀ j, j < k → (B j ∧ ∃ t, t ≤ 3 ∧ f j = nI t) ∨ (¬ B j ∧ f j = -1)
/-- the first n places hold each of the first n guilds -/
def PERM (n : Nat) (f : Nat → Int32) : Prop := (∀ k, k < n → ∃ m, m < n ∧ f k = nI m) ∧ ∀ m, m < n → ∃ k, k < n ∧ f k = nI m
theorem LI_0 {B : Nat → Prop} {n : Nat} {fo f : Nat → Int32} : LI B n fo 0 f := fun j hj => absurd hj (Nat.not_lt_zero j)
theorem LI_skip {B : Nat → Prop} {n k m : Nat} {fo f : Nat → Int32} (hn : n ≤ 5) (h : LI B n fo k f) (hm : m ≤ 4) (e : fo k = nI m) (hb : ¬ B m) : LI B n fo (k + 1) f := fun j hj i hi ei hB => by
  by_cases q : j = k
  · subst q
    have : i = m := neq (by omega) (by omega) (ei.symm.trans e)
    subst this; exact absurd hB hb
  · exact h j (by omega) i hi ei hB
theorem LI_add {B : Nat → Prop} {n k m : Nat} {fo f : Nat → Int32} {x : Int32} (hn : n ≤ 5) (h : LI B n fo k f) (hm : m ≤ 4) (e : fo k = nI m) (hx : XB B n x) : LI B n fo (k + 1) (upd f m x) := fun j hj i hi ei hB => by
  by_cases q : i = m
  · subst q; rw [pk_us]; exact hx
  · rw [pk_un q]
    refine h j (Nat.lt_of_le_of_ne (by omega) (fun z => q ?_)) i hi ei hB
    subst z
    exact neq (by omega) (by omega) (ei.symm.trans e)
theorem LI_end {B : Nat → Prop} {n k : Nat} {fo f : Nat → Int32} (h : LI B n fo k f) (hk : n ≤ k) (hp : PERM n fo) : AH B n f := fun m hm hB => by
  obtain ⟨j, hj, ej⟩ := hp.2 m hm
  exact h j (by omega) m hm ej hB
theorem PERM_lt {n k m : Nat} {f : Nat → Int32} (hn : n ≤ 5) (h : PERM n f) (hk : k < n) (e : f k = nI m) (hm : m ≤ 4) : m < n := by
  obtain ⟨i, hi, ei⟩ := h.1 k hk
  have : m = i := neq (by omega) (by omega) (e.symm.trans ei)
  omega
theorem CR_0 {B : Nat → Prop} {f : Nat → Int32} : CR B 0 f := fun j hj => absurd hj (Nat.not_lt_zero j)
theorem CR_a {B : Nat → Prop} {k : Nat} {f : Nat → Int32} (h : CR B k f) (hb : ¬ B k) : CR B (k + 1) (upd f k (-1)) := fun j hj => by
  by_cases q : j = k
  · subst q; exact Or.inr ⟨hb, pk_us⟩
  · rw [pk_un q]; exact h j (by omega)
theorem CR_b {B : Nat → Prop} {k m : Nat} {f : Nat → Int32} {x : Int32} (h : CR B k f) (hb : B k) (hm : m ≤ 3) : CR B (k + 1) (upd (upd f k x) k (nI m)) := fun j hj => by
  by_cases q : j = k
  · subst q; exact Or.inl ⟨hb, m, hm, pk_us⟩
  · rw [pk_un q, pk_un q]; exact h j (by omega)
theorem CR_M {B : Nat → Prop} {n j : Nat} {f : Nat → Int32} (h : CR B n f) (hj : j < n) : XM 3 (f j) := by
  rcases h j hj with ⟨_, t, ht, e⟩ | ⟨_, e⟩
  · exact Or.inr ⟨t, ht, e⟩
  · exact Or.inl e
theorem CR_B {B : Nat → Prop} {n j m : Nat} {f : Nat → Int32} (h : CR B n f) (hj : j < n) (hm : m ≤ 3) (e : f j = nI m) : B j := by
  rcases h j hj with ⟨hb, _⟩ | ⟨_, e2⟩
  · exact hb
  · exact absurd (e.symm.trans e2) (nm1 (by omega))
theorem CR_t {B : Nat → Prop} {n j : Nat} {f : Nat → Int32} (h : CR B n f) (hj : j < n) (hb : B j) : ∃ t, t ≤ 3 ∧ f j = nI t := by
  rcases h j hj with ⟨_, h2⟩ | ⟨hn, _⟩
  · exact h2
  · exact absurd hb hn
theorem XB_M {B : Nat → Prop} {n : Nat} {x : Int32} (hn : n ≤ 5) (h : XB B n x) : XM 4 x := by
  rcases h with h | ⟨a, ha, _, e⟩
  · exact Or.inl h
  · exact Or.inr ⟨a, by omega, e⟩
theorem XB_n {B : Nat → Prop} {n a : Nat} (hn : n ≤ 5) (ha : a ≤ 4) (h : XB B n (nI a)) : a < n ∧ B a := by
  rcases h with h | ⟨b, hb, h2, e⟩
  · exact absurd h (nm1 (by omega))
  · have : a = b := neq (by omega) (by omega) e
    subst this; exact ⟨hb, h2⟩
set_option maxHeartbeats 4000000 in
set_option maxRecDepth 100000 in
theorem c_X7_isBearerUpE {l : Launch} {g : Gx} {h0 h0_ho : Nat} {h0_order : Value} {h0_reefs : Value} {h0_children : Value} {h0_guests : Value} {h0_up : Int32} {h0_standing : Nat} {h0_day : Int32} {h0_seed : Int32} {h0_firstTrue : Int32} {f_h0_ho : Nat → Int32} {p0 : Nat} (hb_h0_standing : h0_standing ≤ 8) (ht_h0_ho : TM 5 4 f_h0_ho) (hb_p0 : p0 ≤ 4) : MI l g yX7_isBearerUp cX7_isBearerUp 2 (some .boolean) 2 0 0 [.ref h0, .int (nI p0)] [(h0, .inr (7, [h0_order, h0_reefs, h0_children, .ref h0_ho, h0_guests, .int h0_up, .int (nI h0_standing), .int h0_day, .int h0_seed, .int h0_firstTrue])), (h0_ho, .inl (gI g, 5, .inl f_h0_ho))] (fun r W' => (((¬ BU f_h0_ho h0_up p0) ∧ 0 = r) ∨ ((BU f_h0_ho h0_up p0) ∧ 1 = r)) ∧ W' = [(h0, .inr (7, [h0_order, h0_reefs, h0_children, .ref h0_ho, h0_guests, .int h0_up, .int (nI h0_standing), .int h0_day, .int h0_seed, .int h0_firstTrue])), (h0_ho, .inl (gI g, 5, .inl f_h0_ho))]) := by
  refine MIof (by decide) (Nat.le_of_ble_eq_true rfl) ?_
  intro p e s m below meth c A ls H locs hcx hA hP hD hS hl
  obtain ⟨hx, hb, hml, hr, hlocks, hown, hts, hE, hnm⟩ := id hcx
  have hown : s.vm.findClass RX7 = some m.cls := hown
  have hK := hE.1
  have hl : lv_has ls 2 [(0, .ref h0), (1, .int (nI p0))] := hl
  refine lv_aload_n hx hb dX7_isBearerUp_0 rfl (lv_at hl 0 rfl) ?_
  refine va_get (D := g.1) (ci := 7) (v := Value.ref h0_ho) (C := RX7) (T := TX7) (N := 10) hx hb hts inlX7 hown hK hP 0 rfl rfl 3 (by decide) (hts _ q7_11) (fun _ h9 => h9) rfl dX7_isBearerUp_1 ?_
  refine lv_iload_n hx hb dX7_isBearerUp_4 rfl (lv_at hl 1 rfl) ?_
  refine ia_ld hx hb hK hP 1 1 rfl rfl (p0) rfl (by omega) (by decide) dX7_isBearerUp_5 ?_
  obtain ⟨x2, ex2⟩ : ∃ y : Int32, y = f_h0_ho (p0) := ⟨_, rfl⟩
  have hx2 : XM 4 x2 := by rw [ex2]; exact ht_h0_ho (p0) (by omega)
  refine lv_tope ex2.symm ?_
  refine lv_iconst (v := (-1)) hx hb dX7_isBearerUp_6 (by decide) ?_
  refine lv_icmp_ne (tgt := 26) hx hb dX7_isBearerUp_7 (by decide) (fun c3 => ?_) (fun c3 => ?_)
  · obtain ⟨m4, hm4, em4⟩ := hx2.resolve_left c3
    subst em4
    refine lv_iconst (v := 0) hx hb dX7_isBearerUp_26 (by decide) ?_
    exact xi hx hb hr hlocks rfl hP hD hS ⟨(Or.inl ⟨fun h => nm1 (a := m4) (by omega) (ex2.trans h.1), rfl⟩), rfl⟩ (Nat.le_of_ble_eq_true rfl) (Nat.le_of_ble_eq_true rfl) dX7_isBearerUp_27
  · subst c3
    have hqq5 : mN (-1) = 0 := mN_m1
    refine lv_aload_n hx hb dX7_isBearerUp_10 rfl (lv_at hl 0 rfl) ?_
    refine va_get (D := g.1) (ci := 7) (v := Value.int h0_up) (C := RX7) (T := TX7) (N := 10) hx hb hts inlX7 hown hK hP 0 rfl rfl 5 (by decide) (hts _ q10_22) (fun _ h9 => h9) rfl dX7_isBearerUp_11 ?_
    refine lv_iload_n hx hb dX7_isBearerUp_14 rfl (lv_at hl 1 rfl) ?_
    refine lv_ishr hx hb dX7_isBearerUp_15 ?_
    refine lv_topi (fun x6 ex6 => ?_)
    refine lv_iconst (v := 1) hx hb dX7_isBearerUp_16 (by decide) ?_
    refine lv_iand hx hb dX7_isBearerUp_17 ?_
    obtain ⟨m7, hm7, em7⟩ := and_c x6 (c := 1)
    refine lv_tope em7 ?_
    refine lv_iconst (v := 1) hx hb dX7_isBearerUp_18 (by decide) ?_
    refine lv_icmp_ne (tgt := 26) hx hb dX7_isBearerUp_19 (by decide) (fun c8 => ?_) (fun c8 => ?_)
    · have hn9 := nneq (a := m7) (b := 1) (by omega) (by omega) c8
      refine lv_iconst (v := 0) hx hb dX7_isBearerUp_26 (by decide) ?_
      exact xi hx hb hr hlocks rfl hP hD hS ⟨(Or.inl ⟨fun h => c8 (em7.symm.trans (ex6.symm ▸ h.2)), rfl⟩), rfl⟩ (Nat.le_of_ble_eq_true rfl) (Nat.le_of_ble_eq_true rfl) dX7_isBearerUp_27
    · have hn10 := neq (a := m7) (b := 1) (by omega) (by omega) c8
      refine lv_iconst (v := 1) hx hb dX7_isBearerUp_22 (by decide) ?_
      refine lv_goto (tgt := 27) hx hb dX7_isBearerUp_23 (by decide) ?_
      exact xi hx hb hr hlocks rfl hP hD hS ⟨(Or.inr ⟨⟨ex2.symm, ex6 ▸ (em7.trans c8)⟩, rfl⟩), rfl⟩ (Nat.le_of_ble_eq_true rfl) (Nat.le_of_ble_eq_true rfl) dX7_isBearerUp_27
