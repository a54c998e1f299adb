/-! THE CLAIM OUT OF ONE WALK OF THE LAW'S BODY. Your part is whole_start (and what it stands on); all else here is the same for every law, but numbers. -/
def R_law : String := "GuildBannerLaw"
def lw_P (b : Addr) (xs : List Int32) (args : Array Value) (s : State) : Prop := args = #[.ref b] ∧ s.IntsAt b xs ∧ xs.length ≤ 3072 ∧ (Jvm.Cond.and given_1 narrow_1).before args s = true
def lw_Q (_ : Array Value) (s : State) (o : Outcome) (t : State) : Prop := o = .returned (some (.int 1)) ∧ Framed s o t [] 600000 7302250
def lw_Z (below : List Frame) (a : Array Value) (s : State) : State → Prop := fun t => ∃ o, t.status = .running ∧ Ended t below o ∧ lw_Q a s o t
/-- the law's own end, with 1 on the stack, nothing written that was there before, its room as the claim has it -/
theorem lw_ret {p : Program} {l : Launch} {e : Env} {s : State} {m : MethodId} {below : List Frame} {meth : Method} {c : Code} {b : Nat} (hx : p.tables.exec = Jvm.exec) (hb : c.code = code) (hr : meth.sig.returnType = ret) (hlocks : meth.locks = false) {pc : Nat} {H : Heap} {ls : Array Slot} (hdg : decode code pc = .ok (.ireturn, 1)) : W p l e room_1 s m #[Value.ref b] below meth c H [] 600000 7302250 (lw_Z below #[Value.ref b] s) (F0 m pc ls [.int 1]) := by
  intro T hT X
  obtain ⟨fs, hret, hrun, hended, hW, hframe⟩ := X.leave (v := some (.int 1)) (hlocks := hlocks) (fun h => by rw [hr] at h; cases h)
  have hmeth' : T.vm.method? m = some meth := X.method'
  refine ⟨T.setFrames fs, ?_, .returned (some (.int 1)), hrun, hended, rfl, ⟨_, rfl⟩, hW, hframe⟩
  jvm_step X.here [X.here.top, hx, hb, hdg, hmeth', hr, ret, narrow_b1]
  (try refine ⟨rfl, ?_⟩); (try refine ⟨rfl, ?_⟩)
  first | (intro acts; rw [hret _ acts rfl rfl rfl]) | rw [hret _ _ rfl rfl rfl]
  exact Steps.refl _
/-- what holds at the law's entry: the machine, the code, the tables' words (any of lw_tbl by 'hts w (by decide +kernel)'), the script of L ints xs at the cell b, what the Statement gives of the start (any of its parts by flat_of_before) -/
def lw_At (p : Program) (s : State) (m : MethodId) (meth : Method) (c : Code) (b L : Nat) (xs : Nat → Int32) : Prop :=
  p.tables.exec = Jvm.exec ∧ c.code = code ∧ meth.sig.returnType = ret ∧ c.maxLocals = 4 ∧ s.vm.findClass R_law = some m.cls ∧ (∀ w ∈ lw_tbl, w.before #[Value.ref b] s = true) ∧ va_X b L xs s s.heap ∧ b < s.heap.size ∧ meth.locks = false ∧ (Jvm.Cond.and given_1 narrow_1).before #[Value.ref b] s = true
theorem law_ev {args : Array Value} {s : State} (hts : ∀ w ∈ lw_tbl, w.before args s = true) : ∃ g : Gx, Ev g s := by
  have hw : ∀ w ∈ wsL_law, w.before args s = true := fun w h => hts w (wsL_law_in w h)
  obtain ⟨k0, i0, h0⟩ := u_known (C := RX0) (T := TX0) (N := 4) (n := 4) hw inlX0 (hw _ q2_0)
  obtain ⟨k1, i1, h1⟩ := u_known (C := RX1) (T := TX1) (N := 6) (n := 6) hw inlX1 (hw _ q6_13)
  obtain ⟨k2, i2, h2⟩ := u_known (C := RX2) (T := TX2) (N := 4) (n := 4) hw inlX2 (hw _ q2_8)
  obtain ⟨k3, i3, h3⟩ := u_known (C := RX3) (T := TX3) (N := 2) (n := 2) hw inlX3 (hw _ q2_15)
  obtain ⟨k4, i4, h4⟩ := u_known (C := RX4) (T := TX4) (N := 12) (n := 12) hw inlX4 (hw _ q2_19)
  obtain ⟨k5, i5, h5⟩ := u_known (C := RX5) (T := TX5) (N := 5) (n := 5) hw inlX5 (hw _ q1_15)
  obtain ⟨k6, i6, h6⟩ := u_known (C := RX6) (T := TX6) (N := 13) (n := 13) hw inlX6 (hw _ q2_23)
  obtain ⟨k7, i7, h7⟩ := u_known (C := RX7) (T := TX7) (N := 10) (n := 10) hw inlX7 (hw _ q2_4)
  obtain ⟨k8, i8, h8⟩ := u_known (C := RX8) (T := TX8) (N := 10) (n := 10) hw inlX8 (hw _ q3_6)
  obtain ⟨k9, i9, h9⟩ := u_known (C := RX9) (T := TX9) (N := 17) (n := 17) hw inlX9 (hw _ q1_19)
  obtain ⟨k10, i10, h10⟩ := u_known (C := RX10) (T := TX10) (N := 14) (n := 14) hw inlX10 (hw _ q1_1)
  obtain ⟨k11, i11, h11⟩ := u_known (C := RX11) (T := TX11) (N := 69) (n := 69) hw inlX11 (hw _ q1_4)
  obtain ⟨cbyte, lbyte, mbyte, abyte, bbyte, dbyte⟩ := Cond.arrayClass_spec (hw _ q1_12)
  obtain ⟨cint, lint, mint, aint, bint, dint⟩ := Cond.arrayClass_spec (hw _ q6_2)
  obtain ⟨clong, llong, mlong, along, blong, dlong⟩ := Cond.arrayClass_spec (hw _ q3_14)
  obtain ⟨cboolean, lboolean, mboolean, aboolean, bboolean, dboolean⟩ := Cond.arrayClass_spec (hw _ q2_12)
  have hao : (Cond.arrayOver (.object "GuildBanner$State")).before args s = true := hts _ (List.mem_of_getElem? (i := 486) (by decide +kernel))
  obtain ⟨oc, ok, ol, o1, o2, o3, o4, o5⟩ := Cond.arrayOver_spec hao
  refine ⟨((fun k => match k with | 0 => k0 | 1 => k1 | 2 => k2 | 3 => k3 | 4 => k4 | 5 => k5 | 6 => k6 | 7 => k7 | 8 => k8 | 9 => k9 | 10 => k10 | _ => k11, fun k => match k with | 0 => i0 | 1 => i1 | 2 => i2 | 3 => i3 | 4 => i4 | 5 => i5 | 6 => i6 | 7 => i7 | 8 => i8 | 9 => i9 | 10 => i10 | _ => i11), (cbyte, cint, clong, cboolean, ok)), ⟨fun c q hq => ?_, fun k q hk => ?_⟩, fun q hq => ?_, va_AO.of hao⟩
  · match c, hq with
    | 0, hq => cases hq; exact h0
    | 1, hq => cases hq; exact h1
    | 2, hq => cases hq; exact h2
    | 3, hq => cases hq; exact h3
    | 4, hq => cases hq; exact h4
    | 5, hq => cases hq; exact h5
    | 6, hq => cases hq; exact h6
    | 7, hq => cases hq; exact h7
    | 8, hq => cases hq; exact h8
    | 9, hq => cases hq; exact h9
    | 10, hq => cases hq; exact h10
    | 11, hq => cases hq; exact h11
    | n + 12, hq => simp [vwCl] at hq
  · match k, hk with
    | 0, hk => cases hk; exact ⟨fun n z => ⟨fun k h => (by cases h), lbyte, bbyte, mbyte, dbyte⟩, abyte⟩
    | 1, hk => cases hk; exact ⟨fun n z => ⟨fun k h => (by cases h), lint, bint, mint, dint⟩, aint⟩
    | 2, hk => cases hk; exact ⟨fun n z => ⟨fun k h => (by cases h), llong, blong, mlong, dlong⟩, along⟩
    | 3, hk => cases hk; exact ⟨fun n z => ⟨fun k h => (by cases h), lboolean, bboolean, mboolean, dboolean⟩, aboolean⟩
    | 4, hk => cases hk; exact ⟨fun n z => ⟨fun k h => (by cases h), ol, o3, oc, o4⟩, ol, oc, o3, o4, o1, o5⟩
    | n + 5, hk => simp [gT] at hk
  · simp only [nwP, List.mem_cons, List.not_mem_nil, or_false] at hq
    rcases hq with rfl | rfl | rfl | rfl | rfl | rfl | rfl | rfl
    · exact va_Nw.of rfl (hts _ (List.mem_of_getElem? (i := 138) (by decide +kernel)))
    · exact va_Nw.of rfl (hts _ (List.mem_of_getElem? (i := 260) (by decide +kernel)))
    · exact va_Nw.of rfl (hts _ (List.mem_of_getElem? (i := 266) (by decide +kernel)))
    · exact va_Nw.of rfl (hts _ (List.mem_of_getElem? (i := 420) (by decide +kernel)))
    · exact va_Nw.of rfl (hts _ (List.mem_of_getElem? (i := 487) (by decide +kernel)))
    · exact va_Nw.of rfl (hts _ (List.mem_of_getElem? (i := 505) (by decide +kernel)))
    · exact va_Nw.of rfl (hts _ (List.mem_of_getElem? (i := 525) (by decide +kernel)))
    · exact va_Nw.of rfl (hts _ (List.mem_of_getElem? (i := 570) (by decide +kernel)))
def sBy : List Int32 := [119, 105, 110, 100, 32, 108, 101, 101, 32, 99, 108, 111, 116, 104, 32, 97, 104, 101, 97, 100, 32, 116, 114, 117, 101, 32, 115, 116, 114, 111, 110, 103, 32, 100, 97, 121, 32, 99, 111, 114, 110, 101, 114, 32, 103, 117, 115, 116, 32, 111, 102, 32, 103, 117, 105, 108, 100, 32, 114, 101, 101, 102, 32, 112, 117, 108, 108, 32, 104, 111, 108, 100, 32, 100, 114, 97, 119, 32, 111, 114, 32, 97, 110, 100, 32, 110, 111, 116]
set_option maxRecDepth 100000 in
theorem law_by : ∀ j, j < 88 → (Cond.eq (.elem (.field (Term.string "GuildBanner$Tokens" 19) "java/lang/String" "value" "[B") (.int (Int32.ofNat j))) (.int (sBy.getD j 0))) ∈ flatC (Jvm.Cond.and given_1 narrow_1) := by decide +kernel
set_option maxRecDepth 100000 in
theorem law_sf {args : Array Value} {s : State} {A : Nat → Prop} (hts : ∀ w ∈ lw_tbl, w.before args s = true) (hgv : (Jvm.Cond.and given_1 narrow_1).before args s = true) (hA : ∀ a : Nat, a < s.heap.size → ¬ A a) : ∃ z : Sg, SFg z A s s.heap := by
  have hs := flat_of_before _ hgv
  obtain ⟨adK, adV, hV, hT⟩ := vk_Sof (args := args) (s := s) (N := 1) (tm := fun _ => (Term.string "GuildBanner$Tokens" 19)) (len := [88]) (byt := [sBy]) (A := A) (fun i hi => by
      obtain rfl : i = 0 := by omega
      decide) (fun i hi => hs _ (by decide +kernel)) (fun i hi => hs _ (by decide +kernel)) (fun i hi => hs _ (by decide +kernel)) (fun i hi => by
      obtain rfl : i = 0 := by omega
      exact hs (Cond.eq (.length (.field (Term.string "GuildBanner$Tokens" 19) "java/lang/String" "value" "[B")) (.int 88)) (by decide +kernel)) (fun i hi j hj => by
      obtain rfl : i = 0 := by omega
      exact hs _ (law_by j hj)) (fun i j hi hj hij => absurd (show i = j by omega) hij) hA
  have hZ1 := va_Zof (A := A) (hts (.laysStatic "java/lang/String" "COMPACT_STRINGS" "Z") (List.mem_of_getElem? (i := 158) (by decide +kernel))) (hts (.initialized "java/lang/String") (List.mem_of_getElem? (i := 111) (by decide +kernel))) (va_eqi (hs (Cond.eq (.static "java/lang/String" "COMPACT_STRINGS" "Z") (.int 1)) (by decide +kernel))) hA
  have hZ2 := va_Zqof (A := A) (hts (.laysStatic "jdk/internal/util/Preconditions" "SIOOBE_FORMATTER" "Ljava/util/function/BiFunction;") (List.mem_of_getElem? (i := 174) (by decide +kernel))) (hts (.initialized "jdk/internal/util/Preconditions") (List.mem_of_getElem? (i := 113) (by decide +kernel))) (hs (Cond.isRef (.static "jdk/internal/util/Preconditions" "SIOOBE_FORMATTER" "Ljava/util/function/BiFunction;")) (by decide +kernel)) hA
  obtain ⟨v1, v2, v3, v4⟩ := hV.1 0 (by decide)
  have hR : vk_R RX8 19 "wind lee cloth ahead true strong day corner gust of guild reef pull hold draw or and not" (adK 0) s := by
    refine vk_R.of (A := args) (hts (.stringRef "GuildBanner$Tokens" 19 "wind lee cloth ahead true strong day corner gust of guild reef pull hold draw or and not") (List.mem_of_getElem? (i := 148) (by decide +kernel))) ?_
    exact hT 0 (by decide)
  rcases hZ2 with h | ⟨t, h⟩
  · exact ⟨(adK 0, adV 0, fun j => sBy.getD j 0, .null), ⟨hR, v1, v2, v3, v4, hZ1, h⟩, rfl⟩
  · exact ⟨(adK 0, adV 0, fun j => sBy.getD j 0, .ref t), ⟨hR, v1, v2, v3, v4, hZ1, h⟩, rfl⟩
def sBe : List Int32 := [59, 40, 41, 60, 62, 61, 43, 45, 42, 47, 37]
set_option maxRecDepth 100000 in
theorem law_be : ∀ j, j < 11 → (Cond.eq (.elem (.field (Term.string "GuildBanner$Tokens" 75) "java/lang/String" "value" "[B") (.int (Int32.ofNat j))) (.int (sBe.getD j 0))) ∈ flatC (Jvm.Cond.and given_1 narrow_1) := by decide +kernel
set_option maxRecDepth 100000 in
theorem law_se {args : Array Value} {s : State} {A : Nat → Prop} (hts : ∀ w ∈ lw_tbl, w.before args s = true) (hgv : (Jvm.Cond.and given_1 narrow_1).before args s = true) (hA : ∀ a : Nat, a < s.heap.size → ¬ A a) : ∃ z : Sg, SEg z A s s.heap := by
  have hs := flat_of_before _ hgv
  obtain ⟨adK, adV, hV, hT⟩ := vk_Sof (args := args) (s := s) (N := 1) (tm := fun _ => (Term.string "GuildBanner$Tokens" 75)) (len := [11]) (byt := [sBe]) (A := A) (fun i hi => by
      obtain rfl : i = 0 := by omega
      decide) (fun i hi => hs _ (by decide +kernel)) (fun i hi => hs _ (by decide +kernel)) (fun i hi => hs _ (by decide +kernel)) (fun i hi => by
      obtain rfl : i = 0 := by omega
      exact hs (Cond.eq (.length (.field (Term.string "GuildBanner$Tokens" 75) "java/lang/String" "value" "[B")) (.int 11)) (by decide +kernel)) (fun i hi j hj => by
      obtain rfl : i = 0 := by omega
      exact hs _ (law_be j hj)) (fun i j hi hj hij => absurd (show i = j by omega) hij) hA
  have hZ1 := va_Zof (A := A) (hts (.laysStatic "java/lang/String" "COMPACT_STRINGS" "Z") (List.mem_of_getElem? (i := 158) (by decide +kernel))) (hts (.initialized "java/lang/String") (List.mem_of_getElem? (i := 111) (by decide +kernel))) (va_eqi (hs (Cond.eq (.static "java/lang/String" "COMPACT_STRINGS" "Z") (.int 1)) (by decide +kernel))) hA
  have hZ2 := va_Zqof (A := A) (hts (.laysStatic "jdk/internal/util/Preconditions" "SIOOBE_FORMATTER" "Ljava/util/function/BiFunction;") (List.mem_of_getElem? (i := 174) (by decide +kernel))) (hts (.initialized "jdk/internal/util/Preconditions") (List.mem_of_getElem? (i := 113) (by decide +kernel))) (hs (Cond.isRef (.static "jdk/internal/util/Preconditions" "SIOOBE_FORMATTER" "Ljava/util/function/BiFunction;")) (by decide +kernel)) hA
  obtain ⟨v1, v2, v3, v4⟩ := hV.1 0 (by decide)
  have hR : vk_R RX8 75 ";()<>=+-*/%" (adK 0) s := by
    refine vk_R.of (A := args) (hts (.stringRef "GuildBanner$Tokens" 75 ";()<>=+-*/%") (List.mem_of_getElem? (i := 760) (by decide +kernel))) ?_
    exact hT 0 (by decide)
  rcases hZ2 with h | ⟨t, h⟩
  · exact ⟨(adK 0, adV 0, fun j => sBe.getD j 0, .null), ⟨hR, v1, v2, v3, v4, hZ1, h⟩, rfl⟩
  · exact ⟨(adK 0, adV 0, fun j => sBe.getD j 0, .ref t), ⟨hR, v1, v2, v3, v4, hZ1, h⟩, rfl⟩
section SCR
variable {p : Program} {l : Launch} {e : Env} {R : Room} {s : State} {m : MethodId} {args : Array Value} {below : List Frame} {meth : Method} {c : Code} {H : Heap} {locs : List Loc} {cells slots : Nat} {Q : State → Prop}
theorem sc_ld {cc : ByteArray} {pc : Nat} {ls : Array Slot} {rest : List Value} {A : Nat → Prop} {H0 : Heap} (hexec : p.tables.exec = Jvm.exec) (hb : c.code = cc) {b L : Nat} {xs : Nat → Int32} (hX : va_X b L xs s H0) (hbl : b < H0.size) (hbA : ¬ A b) (hS : va_S A H0 H locs) {i : Int32} (j : Nat) (hj : i = nI j) (hjn : j < L) (hn : L < 2 ^ 31) (hdg : decode cc pc = .ok (.iaload, 1))
    (kk : W p l e R s m args below meth c H locs cells slots Q (F0 m (pc + 1) ls (.int (xs j) :: rest))) : W p l e R s m args below meth c H locs cells slots Q (F0 m pc ls (.int i :: .ref b :: rest)) := by
  obtain ⟨h1, h2⟩ := ix_in hj hjn hn
  refine va_sld hexec hb hX hbl hbA hS h1 hdg ?_
  rw [h2]
  exact kk
end SCR
theorem LT_det {t p r t1 r2 t2 : Int32} (h : LT t p r t1) (h2 : LT t p r2 t2) : r = r2 ∧ t2 = t1 := by
  rcases h with ⟨a, e1, e2⟩ | ⟨a, e1, e2⟩ <;> rcases h2 with ⟨b, f1, f2⟩ | ⟨b, f1, f2⟩
  · exact ⟨e1.trans f1.symm, f2.trans e2.symm⟩
  · exact absurd a b
  · exact absurd b a
  · exact ⟨e1.trans f1.symm, f2.trans e2.symm⟩
theorem sw_0 {P : Nat → Prop} (h : P 0) : ∀ v, v ≤ 0 → P v := fun v hv => by rw [Nat.le_zero.mp hv]; exact h
theorem sw_s {P : Nat → Prop} {n : Nat} (h : ∀ v, v ≤ n → P v) (h1 : P (n + 1)) : ∀ v, v ≤ n + 1 → P v := fun v hv => by
  rcases Nat.lt_or_ge n v with q | q
  · rw [show v = n + 1 by omega]; exact h1
  · exact h v q
set_option maxHeartbeats 40000000 in
set_option maxRecDepth 100000 in
theorem lr_later2 {p : Program} {l : Launch} {e : Env} {s : State} {m : MethodId} {below : List Frame} {meth : Method} {c : Code} {g : Gx} {b : Nat} {A : Nat → Prop} {H : Heap} {locs : List Loc} {ls : Array Slot} {nc ns : Nat} {Q : State → Prop} {h0 m_tape m_text m_corners m_guilds m_gusts m_units m_draw m_told m_wind m_lee m_gust m_blow m_cloth m_truth m_strong m_reefTold m_ruleFrom m_ruleTo m_cName m_gName m_code m_codeNumber m_eWhat m_eSign m_pile m_all m_was m_kept m_laidRow m_fell m_good m_least m_with m_upBy m_sCorners m_sGuild m_sIs m_sTold m_sUntold m_parts m_boxAll m_isBoxed : Nat} {h0_time : Int32} (x1 : Int32) {r0 : Int32} {WI pl : va_W} (hnc : nc ≤ 10000) (hns : ns ≤ 1000000) (hcx : Cx p s m #[Value.ref b] meth c cL_law 4 ret RL meth.name g) (hA : ∀ q : Nat, s.heap.size ≤ q → A q) (hls : ls.size = 4) (hI : RI g h0 m_tape m_text m_corners m_guilds m_gusts m_units m_draw m_told m_wind m_lee m_gust m_blow m_cloth m_truth m_strong m_reefTold m_ruleFrom m_ruleTo m_cName m_gName m_code m_codeNumber m_eWhat m_eSign m_pile m_all m_was m_kept m_laidRow m_fell m_good m_least m_with m_upBy m_sCorners m_sGuild m_sIs m_sTold m_sUntold m_parts m_boxAll m_isBoxed h0_time WI) (hP : va_P g.1 vwCl (WI ++ pl) H) (hD : va_D A (WI ++ pl)) (hS : va_S A s.heap H locs) (kk : ∀ (r : Int32) (t9 : Int32) (W9 : va_W) (H1 : Heap) (locs1 : List Loc), LT h0_time x1 r t9 → RI g h0 m_tape m_text m_corners m_guilds m_gusts m_units m_draw m_told m_wind m_lee m_gust m_blow m_cloth m_truth m_strong m_reefTold m_ruleFrom m_ruleTo m_cName m_gName m_code m_codeNumber m_eWhat m_eSign m_pile m_all m_was m_kept m_laidRow m_fell m_good m_least m_with m_upBy m_sCorners m_sGuild m_sIs m_sTold m_sUntold m_parts m_boxAll m_isBoxed t9 W9 → va_P g.1 vwCl (W9 ++ pl) H1 → va_D A (W9 ++ pl) → va_S A s.heap H1 locs1 → W p l e room_1 s m #[Value.ref b] below meth c H1 locs1 nc ns Q (F0 m 1115 ls [.int r, .int r0])) : W p l e room_1 s m #[Value.ref b] below meth c H locs nc ns Q (F0 m 1112 ls [.int x1, .ref h0, .int r0]) := by
  obtain ⟨hx, hb, hml, hr, hlocks, hown, hts, hE, hnm⟩ := id hcx
  have hK := hE.1
  refine Exists.elim hI ?_; clear hI; intro h0_taped hI
  refine Exists.elim hI ?_; clear hI; intro h0_size hI
  refine Exists.elim hI ?_; clear hI; intro h0_faultKind hI
  refine Exists.elim hI ?_; clear hI; intro h0_faultPlace hI
  refine Exists.elim hI ?_; clear hI; intro h0_at hI
  refine Exists.elim hI ?_; clear hI; intro h0_end hI
  refine Exists.elim hI ?_; clear hI; intro h0_token hI
  refine Exists.elim hI ?_; clear hI; intro h0_number hI
  refine Exists.elim hI ?_; clear hI; intro h0_name hI
  refine Exists.elim hI ?_; clear hI; intro h0_bank hI
  refine Exists.elim hI ?_; clear hI; intro h0_rb hI
  refine Exists.elim hI ?_; clear hI; intro h0_codes hI
  refine Exists.elim hI ?_; clear hI; intro h0_within hI
  refine Exists.elim hI ?_; clear hI; intro h0_piled hI
  refine Exists.elim hI ?_; clear hI; intro h0_unitsInRule hI
  refine Exists.elim hI ?_; clear hI; intro h0_askWind hI
  refine Exists.elim hI ?_; clear hI; intro h0_askLee hI
  refine Exists.elim hI ?_; clear hI; intro h0_askCloth hI
  refine Exists.elim hI ?_; clear hI; intro h0_askAhead hI
  refine Exists.elim hI ?_; clear hI; intro h0_askTrue hI
  refine Exists.elim hI ?_; clear hI; intro h0_askStrong hI
  refine Exists.elim hI ?_; clear hI; intro h0_thought hI
  refine Exists.elim hI ?_; clear hI; intro h0_acts hI
  refine Exists.elim hI ?_; clear hI; intro h0_undone hI
  refine Exists.elim hI ?_; clear hI; intro h0_laid hI
  refine Exists.elim hI ?_; clear hI; intro h0_seens hI
  refine Exists.elim hI ?_; clear hI; intro f_m_tape hI
  refine Exists.elim hI ?_; clear hI; intro f_m_text hI
  refine Exists.elim hI ?_; clear hI; intro f_m_corners hI
  refine Exists.elim hI ?_; clear hI; intro f_m_guilds hI
  refine Exists.elim hI ?_; clear hI; intro f_m_gusts hI
  refine Exists.elim hI ?_; clear hI; intro f_m_units hI
  refine Exists.elim hI ?_; clear hI; intro f_m_draw hI
  refine Exists.elim hI ?_; clear hI; intro f_m_told hI
  refine Exists.elim hI ?_; clear hI; intro f_m_wind hI
  refine Exists.elim hI ?_; clear hI; intro f_m_lee hI
  refine Exists.elim hI ?_; clear hI; intro f_m_gust hI
  refine Exists.elim hI ?_; clear hI; intro f_m_blow hI
  refine Exists.elim hI ?_; clear hI; intro f_m_cloth hI
  refine Exists.elim hI ?_; clear hI; intro f_m_truth hI
  refine Exists.elim hI ?_; clear hI; intro f_m_strong hI
  refine Exists.elim hI ?_; clear hI; intro f_m_reefTold hI
  refine Exists.elim hI ?_; clear hI; intro f_m_ruleFrom hI
  refine Exists.elim hI ?_; clear hI; intro f_m_ruleTo hI
  refine Exists.elim hI ?_; clear hI; intro f_m_cName hI
  refine Exists.elim hI ?_; clear hI; intro f_m_gName hI
  refine Exists.elim hI ?_; clear hI; intro f_m_code hI
  refine Exists.elim hI ?_; clear hI; intro f_m_codeNumber hI
  refine Exists.elim hI ?_; clear hI; intro f_m_eWhat hI
  refine Exists.elim hI ?_; clear hI; intro f_m_eSign hI
  refine Exists.elim hI ?_; clear hI; intro f_m_pile hI
  refine Exists.elim hI ?_; clear hI; intro f_m_all hI
  refine Exists.elim hI ?_; clear hI; intro f_m_was hI
  refine Exists.elim hI ?_; clear hI; intro f_m_kept hI
  refine Exists.elim hI ?_; clear hI; intro f_m_laidRow hI
  refine Exists.elim hI ?_; clear hI; intro f_m_fell hI
  refine Exists.elim hI ?_; clear hI; intro f_m_good hI
  refine Exists.elim hI ?_; clear hI; intro f_m_least hI
  refine Exists.elim hI ?_; clear hI; intro f_m_with hI
  refine Exists.elim hI ?_; clear hI; intro f_m_upBy hI
  refine Exists.elim hI ?_; clear hI; intro f_m_sCorners hI
  refine Exists.elim hI ?_; clear hI; intro f_m_sGuild hI
  refine Exists.elim hI ?_; clear hI; intro f_m_sIs hI
  refine Exists.elim hI ?_; clear hI; intro f_m_sTold hI
  refine Exists.elim hI ?_; clear hI; intro f_m_sUntold hI
  refine Exists.elim hI ?_; clear hI; intro f_m_parts hI
  refine Exists.elim hI ?_; clear hI; intro f_m_boxAll hI
  refine Exists.elim hI ?_; clear hI; intro f_m_isBoxed hI
  refine Exists.elim hI ?_; clear hI; intro ms hI
  refine Exists.elim hI ?_; clear hI; intro ks hI
  obtain ⟨rfl, hb_h0_taped, hb_h0_bank, hb_h0_unitsInRule, hb_h0_acts, hb_h0_undone, hb_h0_laid, hb_h0_seens, ht_m_corners, ht_m_guilds, ht_m_units, ht_m_told, ht_m_ruleFrom, ht_m_ruleTo, ht_m_fell, ht_m_with, ht_m_upBy, ht_m_sCorners, ht_m_isBoxed, ht_m_all, hb_ms, ht_m_kept, hb_ks, hPM, hWS, hAU, hBX, hRQ⟩ := hI
  obtain ⟨mg, hmg5, hmg⟩ := ht_m_guilds h0_bank (by omega)
  obtain ⟨mw, hmw8, hmw⟩ := ht_m_corners h0_bank (by omega)
  have hRU := RUK_of (by omega) hRQ
  refine kIq (X := [(h0, .inr (11, [.ref m_tape, .ref m_text, .int (nI h0_taped), .int h0_size, .int h0_faultKind, .int h0_faultPlace, .int h0_at, .int h0_end, .int h0_token, .int h0_number, .long h0_name, .ref m_corners, .ref m_guilds, .ref m_gusts, .ref m_units, .ref m_draw, .ref m_told, .ref m_wind, .ref m_lee, .ref m_gust, .ref m_blow, .ref m_cloth, .ref m_truth, .ref m_strong, .ref m_reefTold, .ref m_ruleFrom, .ref m_ruleTo, .ref m_cName, .ref m_gName, .ref m_code, .ref m_codeNumber, .ref m_eWhat, .ref m_eSign, .ref m_pile, .int (nI h0_bank), .int h0_rb, .int h0_codes, .int h0_within, .int h0_piled, .int (nI h0_unitsInRule), .int h0_askWind, .int h0_askLee, .int h0_askCloth, .int h0_askAhead, .int h0_askTrue, .int h0_askStrong, .ref m_all, .int h0_thought, .ref m_was, .int (nI h0_acts), .int (nI h0_undone), .ref m_kept, .ref m_laidRow, .ref m_fell, .int (nI h0_laid), .ref m_good, .ref m_least, .ref m_with, .ref m_upBy, .ref m_sCorners, .ref m_sGuild, .ref m_sIs, .ref m_sTold, .ref m_sUntold, .ref m_parts, .int (nI h0_seens), .int h0_time, .ref m_boxAll, .ref m_isBoxed])), (m_tape, .inl (gB g, 1620, .inl f_m_tape)), (m_text, .inl (gB g, 1600, .inl f_m_text)), (m_corners, .inl (gI g, 2, .inl f_m_corners)), (m_guilds, .inl (gI g, 2, .inl f_m_guilds)), (m_gusts, .inl (gI g, 2, .inl f_m_gusts)), (m_units, .inl (gI g, 2, .inl f_m_units)), (m_draw, .inl (gI g, 2, .inl f_m_draw)), (m_told, .inl (gI g, 2, .inl f_m_told)), (m_wind, .inl (gI g, 16, .inl f_m_wind)), (m_lee, .inl (gI g, 16, .inl f_m_lee)), (m_gust, .inl (gI g, 16, .inl f_m_gust)), (m_blow, .inl (gI g, 16, .inl f_m_blow)), (m_cloth, .inl (gI g, 10, .inl f_m_cloth)), (m_truth, .inl (gI g, 10, .inl f_m_truth)), (m_strong, .inl (gI g, 10, .inl f_m_strong)), (m_reefTold, .inl (gI g, 10, .inl f_m_reefTold)), (m_ruleFrom, .inl (gI g, 4, .inl f_m_ruleFrom)), (m_ruleTo, .inl (gI g, 4, .inl f_m_ruleTo)), (m_cName, .inl (gJ g, 16, .inr (.inl f_m_cName))), (m_gName, .inl (gJ g, 10, .inr (.inl f_m_gName))), (m_code, .inl (gI g, 1120, .inl f_m_code)), (m_codeNumber, .inl (gI g, 1120, .inl f_m_codeNumber)), (m_eWhat, .inl (gI g, 90, .inl f_m_eWhat)), (m_eSign, .inl (gI g, 90, .inl f_m_eSign)), (m_pile, .inl (gI g, 60, .inl f_m_pile)), (m_all, .inl (gI g, 24, .inl f_m_all)), (m_was, .inl (gI g, 984, .inl f_m_was)), (m_kept, .inl (gI g, 24, .inl f_m_kept)), (m_laidRow, .inl (gI g, 5, .inl f_m_laidRow)), (m_fell, .inl (gI g, 8, .inl f_m_fell)), (m_good, .inl (gI g, 72, .inl f_m_good)), (m_least, .inl (gI g, 32, .inl f_m_least)), (m_with, .inl (gI g, 32, .inl f_m_with)), (m_upBy, .inl (gI g, 909, .inl f_m_upBy)), (m_sCorners, .inl (gI g, 30, .inl f_m_sCorners)), (m_sGuild, .inl (gI g, 30, .inl f_m_sGuild)), (m_sIs, .inl (gI g, 30, .inl f_m_sIs)), (m_sTold, .inl (gI g, 30, .inl f_m_sTold)), (m_sUntold, .inl (gI g, 30, .inl f_m_sUntold)), (m_parts, .inl (gI g, 32, .inl f_m_parts)), (m_boxAll, .inl (gI g, 72, .inl f_m_boxAll)), (m_isBoxed, .inl (gZ g, 3, .inl f_m_isBoxed))]) (wc := [(h0, .inr (11, [.ref m_tape, .ref m_text, .int (nI h0_taped), .int h0_size, .int h0_faultKind, .int h0_faultPlace, .int h0_at, .int h0_end, .int h0_token, .int h0_number, .long h0_name, .ref m_corners, .ref m_guilds, .ref m_gusts, .ref m_units, .ref m_draw, .ref m_told, .ref m_wind, .ref m_lee, .ref m_gust, .ref m_blow, .ref m_cloth, .ref m_truth, .ref m_strong, .ref m_reefTold, .ref m_ruleFrom, .ref m_ruleTo, .ref m_cName, .ref m_gName, .ref m_code, .ref m_codeNumber, .ref m_eWhat, .ref m_eSign, .ref m_pile, .int (nI h0_bank), .int h0_rb, .int h0_codes, .int h0_within, .int h0_piled, .int (nI h0_unitsInRule), .int h0_askWind, .int h0_askLee, .int h0_askCloth, .int h0_askAhead, .int h0_askTrue, .int h0_askStrong, .ref m_all, .int h0_thought, .ref m_was, .int (nI h0_acts), .int (nI h0_undone), .ref m_kept, .ref m_laidRow, .ref m_fell, .int (nI h0_laid), .ref m_good, .ref m_least, .ref m_with, .ref m_upBy, .ref m_sCorners, .ref m_sGuild, .ref m_sIs, .ref m_sTold, .ref m_sUntold, .ref m_parts, .int (nI h0_seens), .int h0_time, .ref m_boxAll, .ref m_isBoxed]))]) (wr := [(m_tape, .inl (gB g, 1620, .inl f_m_tape)), (m_text, .inl (gB g, 1600, .inl f_m_text)), (m_corners, .inl (gI g, 2, .inl f_m_corners)), (m_guilds, .inl (gI g, 2, .inl f_m_guilds)), (m_gusts, .inl (gI g, 2, .inl f_m_gusts)), (m_units, .inl (gI g, 2, .inl f_m_units)), (m_draw, .inl (gI g, 2, .inl f_m_draw)), (m_told, .inl (gI g, 2, .inl f_m_told)), (m_wind, .inl (gI g, 16, .inl f_m_wind)), (m_lee, .inl (gI g, 16, .inl f_m_lee)), (m_gust, .inl (gI g, 16, .inl f_m_gust)), (m_blow, .inl (gI g, 16, .inl f_m_blow)), (m_cloth, .inl (gI g, 10, .inl f_m_cloth)), (m_truth, .inl (gI g, 10, .inl f_m_truth)), (m_strong, .inl (gI g, 10, .inl f_m_strong)), (m_reefTold, .inl (gI g, 10, .inl f_m_reefTold)), (m_ruleFrom, .inl (gI g, 4, .inl f_m_ruleFrom)), (m_ruleTo, .inl (gI g, 4, .inl f_m_ruleTo)), (m_cName, .inl (gJ g, 16, .inr (.inl f_m_cName))), (m_gName, .inl (gJ g, 10, .inr (.inl f_m_gName))), (m_code, .inl (gI g, 1120, .inl f_m_code)), (m_codeNumber, .inl (gI g, 1120, .inl f_m_codeNumber)), (m_eWhat, .inl (gI g, 90, .inl f_m_eWhat)), (m_eSign, .inl (gI g, 90, .inl f_m_eSign)), (m_pile, .inl (gI g, 60, .inl f_m_pile)), (m_all, .inl (gI g, 24, .inl f_m_all)), (m_was, .inl (gI g, 984, .inl f_m_was)), (m_kept, .inl (gI g, 24, .inl f_m_kept)), (m_laidRow, .inl (gI g, 5, .inl f_m_laidRow)), (m_fell, .inl (gI g, 8, .inl f_m_fell)), (m_good, .inl (gI g, 72, .inl f_m_good)), (m_least, .inl (gI g, 32, .inl f_m_least)), (m_with, .inl (gI g, 32, .inl f_m_with)), (m_upBy, .inl (gI g, 909, .inl f_m_upBy)), (m_sCorners, .inl (gI g, 30, .inl f_m_sCorners)), (m_sGuild, .inl (gI g, 30, .inl f_m_sGuild)), (m_sIs, .inl (gI g, 30, .inl f_m_sIs)), (m_sTold, .inl (gI g, 30, .inl f_m_sTold)), (m_sUntold, .inl (gI g, 30, .inl f_m_sUntold)), (m_parts, .inl (gI g, 32, .inl f_m_parts)), (m_boxAll, .inl (gI g, 72, .inl f_m_boxAll)), (m_isBoxed, .inl (gZ g, 3, .inl f_m_isBoxed))]) (rV (As := [.int x1]) (rest := [.int r0]) (meth2 := "") hcx (c_X11_later (by omega) H.size) (gdV q63_1 q63_2 q63_3 q1_5 q63_4) dvX11_later ⟨Nat.le_of_ble_eq_true rfl, Nat.le_of_ble_eq_true rfl⟩ (hP.sub [0] rfl) (hD.sub [0] (by decide +kernel) rfl) (va_recv hK hP (ci := 11) (q0 := 0) rfl rfl) rfl hls rfl (Nat.le_of_ble_eq_true rfl) dL_law_1112 ⟨by show _ + 0 ≤ 600000; omega, by show _ + 0 ≤ 7302250; omega⟩) hP hD hS hA [0] [1, 2, 3, 4, 5, 6, 7, 8, 9, 10, 11, 12, 13, 14, 15, 16, 17, 18, 19, 20, 21, 22, 23, 24, 25, 26, 27, 28, 29, 30, 31, 32, 33, 34, 35, 36, 37, 38, 39, 40, 41, 42] rfl rfl (by decide +kernel) (by decide +kernel) (fun r1 W' H locs hw hP hD hS => ?_)
  obtain ⟨hr2, x3, rfl, hf4⟩ := hw
  exact kk _ _ [(h0, .inr (11, [.ref m_tape, .ref m_text, .int (nI h0_taped), .int h0_size, .int h0_faultKind, .int h0_faultPlace, .int h0_at, .int h0_end, .int h0_token, .int h0_number, .long h0_name, .ref m_corners, .ref m_guilds, .ref m_gusts, .ref m_units, .ref m_draw, .ref m_told, .ref m_wind, .ref m_lee, .ref m_gust, .ref m_blow, .ref m_cloth, .ref m_truth, .ref m_strong, .ref m_reefTold, .ref m_ruleFrom, .ref m_ruleTo, .ref m_cName, .ref m_gName, .ref m_code, .ref m_codeNumber, .ref m_eWhat, .ref m_eSign, .ref m_pile, .int (nI h0_bank), .int h0_rb, .int h0_codes, .int h0_within, .int h0_piled, .int (nI h0_unitsInRule), .int h0_askWind, .int h0_askLee, .int h0_askCloth, .int h0_askAhead, .int h0_askTrue, .int h0_askStrong, .ref m_all, .int h0_thought, .ref m_was, .int (nI h0_acts), .int (nI h0_undone), .ref m_kept, .ref m_laidRow, .ref m_fell, .int (nI h0_laid), .ref m_good, .ref m_least, .ref m_with, .ref m_upBy, .ref m_sCorners, .ref m_sGuild, .ref m_sIs, .ref m_sTold, .ref m_sUntold, .ref m_parts, .int (nI h0_seens), .int x3, .ref m_boxAll, .ref m_isBoxed])), (m_tape, .inl (gB g, 1620, .inl f_m_tape)), (m_text, .inl (gB g, 1600, .inl f_m_text)), (m_corners, .inl (gI g, 2, .inl f_m_corners)), (m_guilds, .inl (gI g, 2, .inl f_m_guilds)), (m_gusts, .inl (gI g, 2, .inl f_m_gusts)), (m_units, .inl (gI g, 2, .inl f_m_units)), (m_draw, .inl (gI g, 2, .inl f_m_draw)), (m_told, .inl (gI g, 2, .inl f_m_told)), (m_wind, .inl (gI g, 16, .inl f_m_wind)), (m_lee, .inl (gI g, 16, .inl f_m_lee)), (m_gust, .inl (gI g, 16, .inl f_m_gust)), (m_blow, .inl (gI g, 16, .inl f_m_blow)), (m_cloth, .inl (gI g, 10, .inl f_m_cloth)), (m_truth, .inl (gI g, 10, .inl f_m_truth)), (m_strong, .inl (gI g, 10, .inl f_m_strong)), (m_reefTold, .inl (gI g, 10, .inl f_m_reefTold)), (m_ruleFrom, .inl (gI g, 4, .inl f_m_ruleFrom)), (m_ruleTo, .inl (gI g, 4, .inl f_m_ruleTo)), (m_cName, .inl (gJ g, 16, .inr (.inl f_m_cName))), (m_gName, .inl (gJ g, 10, .inr (.inl f_m_gName))), (m_code, .inl (gI g, 1120, .inl f_m_code)), (m_codeNumber, .inl (gI g, 1120, .inl f_m_codeNumber)), (m_eWhat, .inl (gI g, 90, .inl f_m_eWhat)), (m_eSign, .inl (gI g, 90, .inl f_m_eSign)), (m_pile, .inl (gI g, 60, .inl f_m_pile)), (m_all, .inl (gI g, 24, .inl f_m_all)), (m_was, .inl (gI g, 984, .inl f_m_was)), (m_kept, .inl (gI g, 24, .inl f_m_kept)), (m_laidRow, .inl (gI g, 5, .inl f_m_laidRow)), (m_fell, .inl (gI g, 8, .inl f_m_fell)), (m_good, .inl (gI g, 72, .inl f_m_good)), (m_least, .inl (gI g, 32, .inl f_m_least)), (m_with, .inl (gI g, 32, .inl f_m_with)), (m_upBy, .inl (gI g, 909, .inl f_m_upBy)), (m_sCorners, .inl (gI g, 30, .inl f_m_sCorners)), (m_sGuild, .inl (gI g, 30, .inl f_m_sGuild)), (m_sIs, .inl (gI g, 30, .inl f_m_sIs)), (m_sTold, .inl (gI g, 30, .inl f_m_sTold)), (m_sUntold, .inl (gI g, 30, .inl f_m_sUntold)), (m_parts, .inl (gI g, 32, .inl f_m_parts)), (m_boxAll, .inl (gI g, 72, .inl f_m_boxAll)), (m_isBoxed, .inl (gZ g, 3, .inl f_m_isBoxed))] H locs hf4 ⟨(h0_taped), (h0_size), (h0_faultKind), (h0_faultPlace), (h0_at), (h0_end), (h0_token), (h0_number), (h0_name), (h0_bank), (h0_rb), (h0_codes), (h0_within), (h0_piled), (h0_unitsInRule), (h0_askWind), (h0_askLee), (h0_askCloth), (h0_askAhead), (h0_askTrue), (h0_askStrong), (h0_thought), (h0_acts), (h0_undone), (h0_laid), (h0_seens), (f_m_tape), (f_m_text), (f_m_corners), (f_m_guilds), (f_m_gusts), (f_m_units), (f_m_draw), (f_m_told), (f_m_wind), (f_m_lee), (f_m_gust), (f_m_blow), (f_m_cloth), (f_m_truth), (f_m_strong), (f_m_reefTold), (f_m_ruleFrom), (f_m_ruleTo), (f_m_cName), (f_m_gName), (f_m_code), (f_m_codeNumber), (f_m_eWhat), (f_m_eSign), (f_m_pile), (f_m_all), (f_m_was), (f_m_kept), (f_m_laidRow), (f_m_fell), (f_m_good), (f_m_least), (f_m_with), (f_m_upBy), (f_m_sCorners), (f_m_sGuild), (f_m_sIs), (f_m_sTold), (f_m_sUntold), (f_m_parts), (f_m_boxAll), (f_m_isBoxed), (ms), (ks), rfl, by omega, by omega, by omega, by omega, by omega, by omega, by omega, ht_m_corners, ht_m_guilds, ht_m_units, ht_m_told, ht_m_ruleFrom, ht_m_ruleTo, ht_m_fell, ht_m_with, ht_m_upBy, ht_m_sCorners, ht_m_isBoxed, ht_m_all, by omega, ht_m_kept, by omega, hPM, (WS_le hWS (by omega)), by omega, hBX, hRQ⟩ (P_part hP [42, 0, 1, 2, 3, 4, 5, 6, 7, 8, 9, 10, 11, 12, 13, 14, 15, 16, 17, 18, 19, 20, 21, 22, 23, 24, 25, 26, 27, 28, 29, 30, 31, 32, 33, 34, 35, 36, 37, 38, 39, 40, 41] rfl) (hD.part [42, 0, 1, 2, 3, 4, 5, 6, 7, 8, 9, 10, 11, 12, 13, 14, 15, 16, 17, 18, 19, 20, 21, 22, 23, 24, 25, 26, 27, 28, 29, 30, 31, 32, 33, 34, 35, 36, 37, 38, 39, 40, 41] (by decide +kernel) rfl) hS
