/-! THE CLAIM OUT OF ONE WALK OF THE LAW'S BODY. Your part is whole_start (and what it stands on); all else here is the same for every law, but numbers. -/
def R_law : String := "GuildBannerLaw"
def lw_P (b : Addr) (xs : List Int32) (args : Array Value) (s : State) : Prop := args = #[.ref b] ∧ s.IntsAt b xs ∧ xs.length ≤ 6 ∧ (Jvm.Cond.and given_1 narrow_1).before args s = true
def lw_Q (_ : Array Value) (s : State) (o : Outcome) (t : State) : Prop := o = .returned (some (.int 1)) ∧ Framed s o t [] 600000 7302250
def lw_Z (below : List Frame) (a : Array Value) (s : State) : State → Prop := fun t => ∃ o, t.status = .running ∧ Ended t below o ∧ lw_Q a s o t
/-- the law's own end, with 1 on the stack, nothing written that was there before, its room as the claim has it -/
theorem lw_ret {p : Program} {l : Launch} {e : Env} {s : State} {m : MethodId} {below : List Frame} {meth : Method} {c : Code} {b : Nat} (hx : p.tables.exec = Jvm.exec) (hb : c.code = code) (hr : meth.sig.returnType = ret) (hlocks : meth.locks = false) {pc : Nat} {H : Heap} {ls : Array Slot} (hdg : decode code pc = .ok (.ireturn, 1)) : W p l e room_1 s m #[Value.ref b] below meth c H [] 600000 7302250 (lw_Z below #[Value.ref b] s) (F0 m pc ls [.int 1]) := by
  intro T hT X
  obtain ⟨fs, hret, hrun, hended, hW, hframe⟩ := X.leave (v := some (.int 1)) (hlocks := hlocks) (fun h => by rw [hr] at h; cases h)
  have hmeth' : T.vm.method? m = some meth := X.method'
  refine ⟨T.setFrames fs, ?_, .returned (some (.int 1)), hrun, hended, rfl, ⟨_, rfl⟩, hW, hframe⟩
  jvm_step X.here [X.here.top, hx, hb, hdg, hmeth', hr, ret, narrow_b1]
  (try refine ⟨rfl, ?_⟩); (try refine ⟨rfl, ?_⟩)
  first | (intro acts; rw [hret _ acts rfl rfl rfl]) | rw [hret _ _ rfl rfl rfl]
  exact Steps.refl _
/-- what holds at the law's entry: the machine, the code, the tables' words (any of lw_tbl by 'hts w (by decide +kernel)'), the script of L ints xs at the cell b, what the Statement gives of the start (any of its parts by flat_of_before) -/
def lw_At (p : Program) (s : State) (m : MethodId) (meth : Method) (c : Code) (b L : Nat) (xs : Nat → Int32) : Prop :=
  p.tables.exec = Jvm.exec ∧ c.code = code ∧ meth.sig.returnType = ret ∧ c.maxLocals = 4 ∧ s.vm.findClass R_law = some m.cls ∧ (∀ w ∈ lw_tbl, w.before #[Value.ref b] s = true) ∧ va_X b L xs s s.heap ∧ b < s.heap.size ∧ meth.locks = false ∧ (Jvm.Cond.and given_1 narrow_1).before #[Value.ref b] s = true
theorem law_ev {args : Array Value} {s : State} (hts : ∀ w ∈ lw_tbl, w.before args s = true) : ∃ g : Gx, Ev g s := by
  have hw : ∀ w ∈ wsL_law, w.before args s = true := fun w h => hts w (wsL_law_in w h)
  obtain ⟨k0, i0, h0⟩ := u_known (C := RX0) (T := TX0) (N := 4) (n := 4) hw inlX0 (hw _ q2_0)
  obtain ⟨k1, i1, h1⟩ := u_known (C := RX1) (T := TX1) (N := 6) (n := 6) hw inlX1 (hw _ q6_13)
  obtain ⟨k2, i2, h2⟩ := u_known (C := RX2) (T := TX2) (N := 4) (n := 4) hw inlX2 (hw _ q2_8)
  obtain ⟨k3, i3, h3⟩ := u_known (C := RX3) (T := TX3) (N := 2) (n := 2) hw inlX3 (hw _ q2_15)
  obtain ⟨k4, i4, h4⟩ := u_known (C := RX4) (T := TX4) (N := 12) (n := 12) hw inlX4 (hw _ q2_19)
  obtain ⟨k5, i5, h5⟩ := u_known (C := RX5) (T := TX5) (N := 5) (n := 5) hw inlX5 (hw _ q1_15)
  obtain ⟨k6, i6, h6⟩ := u_known (C := RX6) (T := TX6) (N := 13) (n := 13) hw inlX6 (hw _ q2_23)
  obtain ⟨k7, i7, h7⟩ := u_known (C := RX7) (T := TX7) (N := 10) (n := 10) hw inlX7 (hw _ q2_4)
  obtain ⟨k8, i8, h8⟩ := u_known (C := RX8) (T := TX8) (N := 10) (n := 10) hw inlX8 (hw _ q3_6)
  obtain ⟨k9, i9, h9⟩ := u_known (C := RX9) (T := TX9) (N := 17) (n := 17) hw inlX9 (hw _ q1_19)
  obtain ⟨k10, i10, h10⟩ := u_known (C := RX10) (T := TX10) (N := 14) (n := 14) hw inlX10 (hw _ q1_1)
  obtain ⟨k11, i11, h11⟩ := u_known (C := RX11) (T := TX11) (N := 69) (n := 69) hw inlX11 (hw _ q1_4)
  obtain ⟨cbyte, lbyte, mbyte, abyte, bbyte, dbyte⟩ := Cond.arrayClass_spec (hw _ q1_12)
  obtain ⟨cint, lint, mint, aint, bint, dint⟩ := Cond.arrayClass_spec (hw _ q6_2)
  obtain ⟨clong, llong, mlong, along, blong, dlong⟩ := Cond.arrayClass_spec (hw _ q3_14)
  obtain ⟨cboolean, lboolean, mboolean, aboolean, bboolean, dboolean⟩ := Cond.arrayClass_spec (hw _ q2_12)
  have hao : (Cond.arrayOver (.object "GuildBanner$State")).before args s = true := hts _ (List.mem_of_getElem? (i := 486) (by decide +kernel))
  obtain ⟨oc, ok, ol, o1, o2, o3, o4, o5⟩ := Cond.arrayOver_spec hao
  refine ⟨((fun k => match k with | 0 => k0 | 1 => k1 | 2 => k2 | 3 => k3 | 4 => k4 | 5 => k5 | 6 => k6 | 7 => k7 | 8 => k8 | 9 => k9 | 10 => k10 | _ => k11, fun k => match k with | 0 => i0 | 1 => i1 | 2 => i2 | 3 => i3 | 4 => i4 | 5 => i5 | 6 => i6 | 7 => i7 | 8 => i8 | 9 => i9 | 10 => i10 | _ => i11), (cbyte, cint, clong, cboolean, ok)), ⟨fun c q hq => ?_, fun k q hk => ?_⟩, fun q hq => ?_, va_AO.of hao⟩
  · match c, hq with
    | 0, hq => cases hq; exact h0
    | 1, hq => cases hq; exact h1
    | 2, hq => cases hq; exact h2
    | 3, hq => cases hq; exact h3
    | 4, hq => cases hq; exact h4
    | 5, hq => cases hq; exact h5
    | 6, hq => cases hq; exact h6
    | 7, hq => cases hq; exact h7
    | 8, hq => cases hq; exact h8
    | 9, hq => cases hq; exact h9
    | 10, hq => cases hq; exact h10
    | 11, hq => cases hq; exact h11
    | n + 12, hq => simp [vwCl] at hq
  · match k, hk with
    | 0, hk => cases hk; exact ⟨fun n z => ⟨fun k h => (by cases h), lbyte, bbyte, mbyte, dbyte⟩, abyte⟩
    | 1, hk => cases hk; exact ⟨fun n z => ⟨fun k h => (by cases h), lint, bint, mint, dint⟩, aint⟩
    | 2, hk => cases hk; exact ⟨fun n z => ⟨fun k h => (by cases h), llong, blong, mlong, dlong⟩, along⟩
    | 3, hk => cases hk; exact ⟨fun n z => ⟨fun k h => (by cases h), lboolean, bboolean, mboolean, dboolean⟩, aboolean⟩
    | 4, hk => cases hk; exact ⟨fun n z => ⟨fun k h => (by cases h), ol, o3, oc, o4⟩, ol, oc, o3, o4, o1, o5⟩
    | n + 5, hk => simp [gT] at hk
  · simp only [nwP, List.mem_cons, List.not_mem_nil, or_false] at hq
    rcases hq with rfl | rfl | rfl | rfl | rfl | rfl | rfl | rfl
    · exact va_Nw.of rfl (hts _ (List.mem_of_getElem? (i := 138) (by decide +kernel)))
    · exact va_Nw.of rfl (hts _ (List.mem_of_getElem? (i := 260) (by decide +kernel)))
    · exact va_Nw.of rfl (hts _ (List.mem_of_getElem? (i := 266) (by decide +kernel)))
    · exact va_Nw.of rfl (hts _ (List.mem_of_getElem? (i := 420) (by decide +kernel)))
    · exact va_Nw.of rfl (hts _ (List.mem_of_getElem? (i := 487) (by decide +kernel)))
    · exact va_Nw.of rfl (hts _ (List.mem_of_getElem? (i := 505) (by decide +kernel)))
    · exact va_Nw.of rfl (hts _ (List.mem_of_getElem? (i := 525) (by decide +kernel)))
    · exact va_Nw.of rfl (hts _ (List.mem_of_getElem? (i := 570) (by decide +kernel)))
def sBy : List Int32 := [119, 105, 110, 100, 32, 108, 101, 101, 32, 99, 108, 111, 116, 104, 32, 97, 104, 101, 97, 100, 32, 116, 114, 117, 101, 32, 115, 116, 114, 111, 110, 103, 32, 100, 97, 121, 32, 99, 111, 114, 110, 101, 114, 32, 103, 117, 115, 116, 32, 111, 102, 32, 103, 117, 105, 108, 100, 32, 114, 101, 101, 102, 32, 112, 117, 108, 108, 32, 104, 111, 108, 100, 32, 100, 114, 97, 119, 32, 111, 114, 32, 97, 110, 100, 32, 110, 111, 116]
set_option maxRecDepth 100000 in
theorem law_by : ∀ j, j < 88 → (Cond.eq (.elem (.field (Term.string "GuildBanner$Tokens" 19) "java/lang/String" "value" "[B") (.int (Int32.ofNat j))) (.int (sBy.getD j 0))) ∈ flatC (Jvm.Cond.and given_1 narrow_1) := by decide +kernel
set_option maxRecDepth 100000 in
theorem law_sf {args : Array Value} {s : State} {A : Nat → Prop} (hts : ∀ w ∈ lw_tbl, w.before args s = true) (hgv : (Jvm.Cond.and given_1 narrow_1).before args s = true) (hA : ∀ a : Nat, a < s.heap.size → ¬ A a) : ∃ z : Sg, SFg z A s s.heap := by
  have hs := flat_of_before _ hgv
  obtain ⟨adK, adV, hV, hT⟩ := vk_Sof (args := args) (s := s) (N := 1) (tm := fun _ => (Term.string "GuildBanner$Tokens" 19)) (len := [88]) (byt := [sBy]) (A := A) (fun i hi => by
      obtain rfl : i = 0 := by omega
      decide) (fun i hi => hs _ (by decide +kernel)) (fun i hi => hs _ (by decide +kernel)) (fun i hi => hs _ (by decide +kernel)) (fun i hi => by
      obtain rfl : i = 0 := by omega
      exact hs (Cond.eq (.length (.field (Term.string "GuildBanner$Tokens" 19) "java/lang/String" "value" "[B")) (.int 88)) (by decide +kernel)) (fun i hi j hj => by
      obtain rfl : i = 0 := by omega
      exact hs _ (law_by j hj)) (fun i j hi hj hij => absurd (show i = j by omega) hij) hA
  have hZ1 := va_Zof (A := A) (hts (.laysStatic "java/lang/String" "COMPACT_STRINGS" "Z") (List.mem_of_getElem? (i := 158) (by decide +kernel))) (hts (.initialized "java/lang/String") (List.mem_of_getElem? (i := 111) (by decide +kernel))) (va_eqi (hs (Cond.eq (.static "java/lang/String" "COMPACT_STRINGS" "Z") (.int 1)) (by decide +kernel))) hA
  have hZ2 := va_Zqof (A := A) (hts (.laysStatic "jdk/internal/util/Preconditions" "SIOOBE_FORMATTER" "Ljava/util/function/BiFunction;") (List.mem_of_getElem? (i := 174) (by decide +kernel))) (hts (.initialized "jdk/internal/util/Preconditions") (List.mem_of_getElem? (i := 113) (by decide +kernel))) (hs (Cond.isRef (.static "jdk/internal/util/Preconditions" "SIOOBE_FORMATTER" "Ljava/util/function/BiFunction;")) (by decide +kernel)) hA
  obtain ⟨v1, v2, v3, v4⟩ := hV.1 0 (by decide)
  have hR : vk_R RX8 19 "wind lee cloth ahead true strong day corner gust of guild reef pull hold draw or and not" (adK 0) s := by
    refine vk_R.of (A := args) (hts (.stringRef "GuildBanner$Tokens" 19 "wind lee cloth ahead true strong day corner gust of guild reef pull hold draw or and not") (List.mem_of_getElem? (i := 148) (by decide +kernel))) ?_
    exact hT 0 (by decide)
  rcases hZ2 with h | ⟨t, h⟩
  · exact ⟨(adK 0, adV 0, fun j => sBy.getD j 0, .null), ⟨hR, v1, v2, v3, v4, hZ1, h⟩, rfl⟩
  · exact ⟨(adK 0, adV 0, fun j => sBy.getD j 0, .ref t), ⟨hR, v1, v2, v3, v4, hZ1, h⟩, rfl⟩
section SCR
variable {p : Program} {l : Launch} {e : Env} {R : Room} {s : State} {m : MethodId} {args : Array Value} {below : List Frame} {meth : Method} {c : Code} {H : Heap} {locs : List Loc} {cells slots : Nat} {Q : State → Prop}
theorem sc_ld {cc : ByteArray} {pc : Nat} {ls : Array Slot} {rest : List Value} {A : Nat → Prop} {H0 : Heap} (hexec : p.tables.exec = Jvm.exec) (hb : c.code = cc) {b L : Nat} {xs : Nat → Int32} (hX : va_X b L xs s H0) (hbl : b < H0.size) (hbA : ¬ A b) (hS : va_S A H0 H locs) {i : Int32} (j : Nat) (hj : i = nI j) (hjn : j < L) (hn : L < 2 ^ 31) (hdg : decode cc pc = .ok (.iaload, 1))
    (kk : W p l e R s m args below meth c H locs cells slots Q (F0 m (pc + 1) ls (.int (xs j) :: rest))) : W p l e R s m args below meth c H locs cells slots Q (F0 m pc ls (.int i :: .ref b :: rest)) := by
  obtain ⟨h1, h2⟩ := ix_in hj hjn hn
  refine va_sld hexec hb hX hbl hbA hS h1 hdg ?_
  rw [h2]
  exact kk
end SCR
theorem L_lt : ∀ L, L < 6 → Int32.ofNat L - 6 < 0 := by decide
