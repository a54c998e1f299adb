/-! STRINGS 2: the one constant that a constructor reads, by what the start says of it; calls below that fact -/
def SE (sa st : Nat) (fb : Nat → Int32) (fm : Value) (A : Nat → Prop) (U : State) (H : Heap) : Prop :=
  vk_R RX8 75 ";()<>=+-*/%" sa U ∧ va_O "java/lang/String" sa A U H ∧ va_OF "java/lang/String" "coder" "B" (.int 0) sa A U H ∧ va_OF "java/lang/String" "value" "[B" (.ref st) sa A U H ∧ va_T .byte st 11 (fun j => .int (fb j)) A U H ∧ va_Z "java/lang/String" "COMPACT_STRINGS" "Z" (.int 1) A U H ∧ va_Z "jdk/internal/util/Preconditions" "SIOOBE_FORMATTER" "Ljava/util/function/BiFunction;" fm A U H
theorem SE.warm {sa st : Nat} {fb : Nat → Int32} {fm : Value} {A : Nat → Prop} {s U : State} {H : Heap} (hW : s.WarmedH U.vm) (h : SE sa st fb fm A s H) : SE sa st fb fm A U H :=
  ⟨vk_R.warm hW h.1, va_O.moved hW.alike h.2.1, va_OF.moved hW.alike h.2.2.1, va_OF.moved hW.alike h.2.2.2.1, va_T.moved hW.alike h.2.2.2.2.1, va_Z.moved hW.alike h.2.2.2.2.2.1, va_Z.moved hW.alike h.2.2.2.2.2.2⟩
theorem SE.call {sa st : Nat} {fb : Nat → Int32} {fm : Value} {A : Nat → Prop} {U : State} {H : Heap} (f : JFrame) (mk : MethodId) (a : Array Value) (h : SE sa st fb fm A U H) : SE sa st fb fm A (U.calling f mk a) H :=
  ⟨vk_R.same (u := U) (U := U.calling f mk a) rfl h.1, va_O.moved (u := U) (U := U.calling f mk a) (Vm.Alike.refl U.vm) h.2.1, va_OF.moved (u := U) (U := U.calling f mk a) (Vm.Alike.refl U.vm) h.2.2.1, va_OF.moved (u := U) (U := U.calling f mk a) (Vm.Alike.refl U.vm) h.2.2.2.1, va_T.moved (u := U) (U := U.calling f mk a) (Vm.Alike.refl U.vm) h.2.2.2.2.1, va_Z.moved (u := U) (U := U.calling f mk a) (Vm.Alike.refl U.vm) h.2.2.2.2.2.1, va_Z.moved (u := U) (U := U.calling f mk a) (Vm.Alike.refl U.vm) h.2.2.2.2.2.2⟩
theorem SE.kept {sa st : Nat} {fb : Nat → Int32} {fm : Value} {A : Nat → Prop} {U : State} {H H1 : Heap} (h : SE sa st fb fm A U H) (hq : ∀ a : Nat, a < H.size → ¬ A a → H1[a]? = H[a]?) : SE sa st fb fm A U H1 :=
  ⟨h.1, h.2.1.kept hq, h.2.2.1.kept hq, h.2.2.2.1.kept hq, h.2.2.2.2.1.kept hq, h.2.2.2.2.2.1.kept hq, h.2.2.2.2.2.2.kept hq⟩
theorem SE.narrow {sa st : Nat} {fb : Nat → Int32} {fm : Value} {A B : Nat → Prop} {U : State} {H : Heap} (h : SE sa st fb fm A U H) (hAB : ∀ q, B q → A q) : SE sa st fb fm B U H :=
  ⟨h.1, h.2.1.narrow hAB, h.2.2.1.narrow hAB, h.2.2.2.1.narrow hAB, h.2.2.2.2.1.narrow hAB, h.2.2.2.2.2.1.narrow hAB, h.2.2.2.2.2.2.narrow hAB⟩
def SEg (z : Sg) (A : Nat → Prop) (U : State) (H : Heap) : Prop := SE z.1 z.2.1 z.2.2.1 z.2.2.2 A U H ∧ z.2.2.2.category = 1
def PcE (g : Gx) (z : Sg) (av : List Value) (WS : va_W) (sz : Nat) : Array Value → State → Prop := va_Pc av (fun U => (U.heap.size = sz ∧ va_P g.1 vwCl WS U.heap ∧ Ev g U ∧ va_D (fun _ => True) WS) ∧ SEg z (va_A WS sz) U U.heap)
def MIe (l : Launch) (g : Gx) (z : Sg) (y : MethodName) (cy : ByteArray) (mx : Nat) (ret : Option FieldType) (d mc ms : Nat) (av : List Value) (WS : va_W) (post : Int32 → va_W → Prop) : Prop := ∀ sz, Met l y (cd y cy mx ret) (rmD d mc ms) (PcE g z av WS sz) (QI g (va_A WS sz) post) mc ms (va_A WS sz)
def MVe (l : Launch) (g : Gx) (z : Sg) (y : MethodName) (cy : ByteArray) (mx : Nat) (d mc ms : Nat) (av : List Value) (WS : va_W) (post : va_W → Prop) : Prop := ∀ sz, Met l y (cd y cy mx none) (rmD d mc ms) (PcE g z av WS sz) (QV g (va_A WS sz) post) mc ms (va_A WS sz)
section S2
variable {l : Launch} {g : Gx} {z : Sg} {y : MethodName} {cy : ByteArray} {mx : Nat} {ret : Option FieldType} {d mc ms : Nat} {av : List Value} {WS : va_W}
theorem Mwe {sz : Nat} (Qf : (Nat → Prop) → Array Value → State → Outcome → State → Prop) (hy : plainName y.cls = true) (hlen : z.2.2.2.category = 1 → (lg_sl av).length ≤ mx)
    (body : ∀ (p : Program) (e : Env) (s : State) (m : MethodId) (below : List Frame) (meth : Method) (c : Code) (A : Nat → Prop) (ls : Array Slot) (H : Heap) (locs : List Loc), Cx p s m av.toArray meth c cy mx ret y.cls y.name g → SEg z A s s.heap → (∀ q, s.heap.size ≤ q → A q) → va_P g.1 vwCl WS H → va_D A WS → va_S A s.heap H locs → lv_has ls mx (lv_args 0 av) →
      W p l e (rmD d mc ms) s m av.toArray below meth c H locs 0 0 (MQ below (Qf A) av.toArray s mc ms A) (F0 m 0 ls [])) :
    Met l y (cd y cy mx ret) (rmD d mc ms) (PcE g z av WS sz) (Qf (va_A WS sz)) mc ms (va_A WS sz) := by
  refine Met.ofW (cc := cy) (maxL := mx) (ret := ret) hy rfl ?_
  intro p e s m args below meth c s₁ B hml hv
  obtain ⟨rfl, ⟨hsz, hP, hE, hD0⟩, hF⟩ := hv
  have hts := atoms_spec (ws := cd y cy mx ret) B.pre
  have hown : s.vm.findClass y.cls = some m.cls := findClass_of_methodNamed B.named
  have hD := hD0.self (sz := sz)
  have hA : ∀ q : Nat, s.heap.size ≤ q → va_A WS sz q := fun q h => Or.inr (by rw [← hsz]; exact h)
  have hl := lv_entry av (n := mx) (hlen hF.2)
  rw [lg_entry_eq]
  exact body p e s m below meth c _ _ s.heap [] ⟨B.exec, B.bytes, hml, B.returns, B.notSynchronized, hown, fun w h => hts w (List.mem_cons_of_mem _ h), hE, (name_of_methodNamed B.named B.method).1⟩ hF hA hP hD va_S.rf hl
theorem MIeof {post : Int32 → va_W → Prop} (hy : plainName y.cls = true) (hlen : z.2.2.2.category = 1 → (lg_sl av).length ≤ mx)
    (body : ∀ (p : Program) (e : Env) (s : State) (m : MethodId) (below : List Frame) (meth : Method) (c : Code) (A : Nat → Prop) (ls : Array Slot) (H : Heap) (locs : List Loc), Cx p s m av.toArray meth c cy mx ret y.cls y.name g → SEg z A s s.heap → (∀ q, s.heap.size ≤ q → A q) → va_P g.1 vwCl WS H → va_D A WS → va_S A s.heap H locs → lv_has ls mx (lv_args 0 av) →
      W p l e (rmD d mc ms) s m av.toArray below meth c H locs 0 0 (MQ below (QI g A post) av.toArray s mc ms A) (F0 m 0 ls [])) : MIe l g z y cy mx ret d mc ms av WS post := fun _ => Mwe (fun A => QI g A post) hy hlen body
theorem MVeof {post : va_W → Prop} (hy : plainName y.cls = true) (hlen : z.2.2.2.category = 1 → (lg_sl av).length ≤ mx)
    (body : ∀ (p : Program) (e : Env) (s : State) (m : MethodId) (below : List Frame) (meth : Method) (c : Code) (A : Nat → Prop) (ls : Array Slot) (H : Heap) (locs : List Loc), Cx p s m av.toArray meth c cy mx none y.cls y.name g → SEg z A s s.heap → (∀ q, s.heap.size ≤ q → A q) → va_P g.1 vwCl WS H → va_D A WS → va_S A s.heap H locs → lv_has ls mx (lv_args 0 av) →
      W p l e (rmD d mc ms) s m av.toArray below meth c H locs 0 0 (MQ below (QV g A post) av.toArray s mc ms A) (F0 m 0 ls [])) : MVe l g z y cy mx d mc ms av WS post := fun _ => Mwe (fun A => QV g A post) hy hlen body
end S2
section S3
variable {p : Program} {l : Launch} {e : Env} {R : Room} {s : State} {m : MethodId} {args : Array Value} {below : List Frame} {meth : Method} {c : Code} {H : Heap} {locs : List Loc} {cells slots : Nat} {Q : State → Prop}
variable {cc : ByteArray} {pc : Nat} {ls : Array Slot} {rest st0 : List Value} {g : Gx} {z : Sg} {ws wc wr W' : va_W} {A : Nat → Prop} {mc ms : Nat} {a : Array Value}
theorem SEg.down (hF : SEg z A s s.heap) (hS : va_S A s.heap H locs) (hFc : ∀ q, va_A wc H.size q → A q) {U : State} (hU : U.heap = H) (hW : s.WarmedH U.vm) : SEg z (va_A wc H.size) U U.heap :=
  ⟨by rw [hU]; exact ((hF.1.kept hS.2.1).narrow hFc).warm hW, hF.2⟩
theorem pSe {av : List Value} (hE : Ev g s) (hP : va_P g.1 vwCl wc H) (hD : va_D A wc) (hF : SEg z A s s.heap) (hS : va_S A s.heap H locs) (hFc : ∀ q, va_A wc H.size q → A q) : PreS s H (PcE g z av wc H.size) av := ⟨fun a U f mk q => by obtain ⟨q0, ⟨q1, qP, qE, qD⟩, qF⟩ := q; exact ⟨q0, ⟨q1, qP, qE.call f mk a, qD⟩, qF.1.call f mk a, qF.2⟩, fun U hU hW => ⟨rfl, ⟨by rw [hU], by rw [hU]; exact hP, hE.warm hW, hD.weaken (fun _ _ _ _ => trivial)⟩, hF.down hS hFc hU hW⟩⟩
theorem pVe {C : String} {b : Nat} {As : List Value} (hE : Ev g s) (hP : va_P g.1 vwCl wc H) (hD : va_D A wc) (hF : SEg z A s s.heap) (hS : va_S A s.heap H locs) (hFc : ∀ q, va_A wc H.size q → A q) (hrv : ∃ cell : Cell, H[b]? = some cell ∧ cell.vm.isStatics = false ∧ s.vm.findClass C = some cell.cls) : PreV s H C b (PcE g z (.ref b :: As) wc H.size) As := ⟨(pSe hE hP hD hF hS hFc).1, hrv, (pSe hE hP hD hF hS hFc).2⟩
theorem rcvE (hF : SEg z A s s.heap) (hS : va_S A s.heap H locs) : ∃ cell : Cell, H[z.1]? = some cell ∧ cell.vm.isStatics = false ∧ s.vm.findClass RJ0 = some cell.cls := by
  obtain ⟨cell, h1, h2, h3, -⟩ := hF.1.2.1.kept hS.2.1
  exact ⟨cell, h1, h2, h3⟩
theorem rVe {nL : Nat} {own nm : String} {ret2 : Option FieldType} (hcx : Cx p s m args meth c cc nL ret2 own nm g) (hF : SEg z A s s.heap) (hS : va_S A s.heap H locs) (hA : ∀ q, s.heap.size ≤ q → A q) {y : MethodName} {cy : ByteArray} {mx idx d n : Nat} {ret : Option FieldType} {As : List Value} {Qc : Array Value → State → Outcome → State → Prop} {free : Addr → Prop}
    (hM : Met l y (cd y cy mx ret) (rmD d mc ms) (PcE g z (.ref z.1 :: As) [] H.size) Qc mc ms free) (hG : GoodIn wsL_law (wsV own idx RJ0 y (cd y cy mx ret))) (hd : DV y RJ0 n) (hR : d + 1 ≤ R.frames ∧ 8 + (mx + 11) + 200 * d ≤ R.locals)
    (hn : As.length = n) (hsz : ls.size = nL) (hst : st0 = As.reverse ++ .ref z.1 :: rest) (hW : (rest.map fun v => v.category).sum ≤ 8) (hdg : decode cc pc = .ok (.invokevirtual idx, 3)) (hf : cells + mc ≤ R.cells ∧ slots + ms ≤ R.slots) :
    va_Run p l e R s m args below meth c H locs cells slots mc ms (F0 m pc ls st0) rest (Qc (Value.ref z.1 :: As).toArray) free := by
  obtain ⟨hx, hb, hml, hr, hlocks, hown, hts, hE, hnm⟩ := hcx
  have h0 : va_P g.1 vwCl [] H := fun k q h => by simp at h
  have h1 : va_D A [] := ⟨fun i j p q h => by simp at h, fun k q h => by simp at h⟩
  exact va_runV (As := As) (rest := rest) ⟨hx, hb, hml, hown, hts⟩ hM (cwV n hts hG rfl rfl rfl hd hR) (pVe hE h0 h1 hF hS (va_free (wc := []) h1 hS hA [] rfl) (rcvE hF hS)) rfl hn hsz hst (lv_room hW) hdg hf
theorem rSe {nL : Nat} {own nm : String} {ret2 : Option FieldType} (hcx : Cx p s m args meth c cc nL ret2 own nm g) (hF : SEg z A s s.heap) (hS : va_S A s.heap H locs) (hA : ∀ q, s.heap.size ≤ q → A q) {y : MethodName} {cy : ByteArray} {mx idx d n : Nat} {ret : Option FieldType} {As : List Value} {Qc : Array Value → State → Outcome → State → Prop} {free : Addr → Prop}
    (hM : Met l y (cd y cy mx ret) (rmD d mc ms) (PcE g z As [] H.size) Qc mc ms free) (hG : GoodIn wsL_law (va_wsS own idx y (cd y cy mx ret))) (hd : y.cls ≠ "java/lang/invoke/MethodHandle" ∧ y.cls ≠ "java/lang/invoke/VarHandle" ∧ (parseMethodDescriptor y.desc).map (fun d => d.parameters.length) = some n) (hR : d + 1 ≤ R.frames ∧ 8 + (mx + 11) + 200 * d ≤ R.locals)
    (hn : As.length = n) (hsz : ls.size = nL) (hst : st0 = As.reverse ++ rest) (hW : (rest.map fun v => v.category).sum ≤ 8) (hdg : decode cc pc = .ok (.invokestatic idx, 3)) (hf : cells + mc ≤ R.cells ∧ slots + ms ≤ R.slots) :
    va_Run p l e R s m args below meth c H locs cells slots mc ms (F0 m pc ls st0) rest (Qc As.toArray) free := by
  obtain ⟨hx, hb, hml, hr, hlocks, hown, hts, hE, hnm⟩ := hcx
  have h0 : va_P g.1 vwCl [] H := fun k q h => by simp at h
  have h1 : va_D A [] := ⟨fun i j p q h => by simp at h, fun k q h => by simp at h⟩
  exact va_runS (As := As) (rest := rest) ⟨hx, hb, hml, hown, hts⟩ hM (va_cwS n hts hG rfl rfl rfl hd hR) (pSe hE h0 h1 hF hS (va_free (wc := []) h1 hS hA [] rfl)) rfl hn hsz hst (lv_room hW) hdg hf
theorem rNe {nL : Nat} {own nm : String} {ret2 : Option FieldType} (hcx : Cx p s m args meth c cc nL ret2 own nm g) (hF : SEg z A s s.heap) (hS : va_S A s.heap H locs) (hFc : ∀ q, va_A wc H.size q → A q) {y : MethodName} {cy : ByteArray} {mx idx d n b : Nat} {As : List Value} {Qc : Array Value → State → Outcome → State → Prop} {free : Addr → Prop}
    (hM : Met l y (cd y cy mx none) (rmD d mc ms) (PcE g z (.ref b :: As) wc H.size) Qc mc ms free) (hG : GoodIn wsL_law (cd y cy mx none)) (hini : Cond.initialized y.cls ∈ wsL_law) (hlk : Cond.methodLink own idx y ∈ wsL_law) (hins : Cond.instanceMethod y ∈ wsL_law) (hy1 : y.name = "<init>") (hd : y.cls ≠ "java/lang/invoke/MethodHandle" ∧ y.cls ≠ "java/lang/invoke/VarHandle" ∧ (parseMethodDescriptor y.desc).map (fun d => d.parameters.length) = some n) (hR : d + 1 ≤ R.frames ∧ 8 + (mx + 11) + 200 * d ≤ R.locals) (hP : va_P g.1 vwCl wc H) (hD : va_D A wc)
    (hn : As.length = n) (hsz : ls.size = nL) (hst : st0 = As.reverse ++ .ref b :: rest) (hW : (rest.map fun v => v.category).sum ≤ 8) (hdg : decode cc pc = .ok (.invokespecial idx, 3)) (hf : cells + mc ≤ R.cells ∧ slots + ms ≤ R.slots) :
    va_Run p l e R s m args below meth c H locs cells slots mc ms (F0 m pc ls st0) rest (Qc (Value.ref b :: As).toArray) free := by
  obtain ⟨hx, hb, hml, hr, hlocks, hown, hts, hE, hnm⟩ := hcx
  exact va_runI (As := As) (rest := rest) ⟨hx, hb, hml, hown, hts⟩ hM (cwI n hts hG rfl rfl rfl (hts _ hini) (hts _ hlk) (hts _ hins) hy1 hd hR) (pSe hE hP hD hF hS hFc) rfl hn hsz hst (lv_room hW) hdg hf
theorem rMe {nL : Nat} {own nm : String} {ret2 : Option FieldType} (hcx : Cx p s m args meth c cc nL ret2 own nm g) (hF : SEg z A s s.heap) (hS : va_S A s.heap H locs) (hFc : ∀ q, va_A wc H.size q → A q) {y : MethodName} {cy : ByteArray} {mx idx d n b : Nat} {As : List Value} {Qc : Array Value → State → Outcome → State → Prop} {free : Addr → Prop}
    (hM : Met l y (cd y cy mx none) (rmD d mc ms) (PcE g z (.ref b :: As) wc H.size) Qc mc ms free) (hG : GoodIn wsL_law (cd y cy mx none)) (hini : Cond.initialized y.cls ∈ wsL_law) (hlk : (own, idx, y) ∈ nwP) (hins : Cond.instanceMethod y ∈ wsL_law) (hy1 : y.name = "<init>") (hd : y.cls ≠ "java/lang/invoke/MethodHandle" ∧ y.cls ≠ "java/lang/invoke/VarHandle" ∧ (parseMethodDescriptor y.desc).map (fun d => d.parameters.length) = some n) (hR : d + 1 ≤ R.frames ∧ 8 + (mx + 11) + 200 * d ≤ R.locals) (hP : va_P g.1 vwCl wc H) (hD : va_D A wc)
    (hn : As.length = n) (hsz : ls.size = nL) (hst : st0 = As.reverse ++ .ref b :: rest) (hW : (rest.map fun v => v.category).sum ≤ 8) (hdg : decode cc pc = .ok (.invokespecial idx, 3)) (hf : cells + mc ≤ R.cells ∧ slots + ms ≤ R.slots) :
    va_Run p l e R s m args below meth c H locs cells slots mc ms (F0 m pc ls st0) rest (Qc (Value.ref b :: As).toArray) free := by
  obtain ⟨hx, hb, hml, hr, hlocks, hown, hts, hE, hnm⟩ := hcx
  exact va_runIN (As := As) (rest := rest) ⟨hx, hb, hml, hown, hts⟩ hM ⟨va_cnB n hts hG rfl rfl rfl (hE.2.1 _ hlk) (hts _ hini) hd hR, hy1, hts _ hins⟩ (pSe hE hP hD hF hS hFc) rfl hn hsz hst (lv_room hW) hdg hf
theorem rVE {nL : Nat} {own nm : String} {ret2 : Option FieldType} (hcx : Cx p s m args meth c cc nL ret2 own nm g) (hF : SEg z A s s.heap) (hS : va_S A s.heap H locs) (hFc : ∀ q, va_A wc H.size q → A q) {y : MethodName} {cy : ByteArray} {mx idx d n b : Nat} {ret : Option FieldType} {C : String} {As : List Value} {Qc : Array Value → State → Outcome → State → Prop} {free : Addr → Prop}
    (hM : Met l y (cd y cy mx ret) (rmD d mc ms) (PcE g z (.ref b :: As) wc H.size) Qc mc ms free) (hG : GoodIn wsL_law (wsV own idx C y (cd y cy mx ret))) (hd : DV y C n) (hR : d + 1 ≤ R.frames ∧ 8 + (mx + 11) + 200 * d ≤ R.locals) (hP : va_P g.1 vwCl wc H) (hD : va_D A wc) (hrv : ∃ cell : Cell, H[b]? = some cell ∧ cell.vm.isStatics = false ∧ s.vm.findClass C = some cell.cls)
    (hn : As.length = n) (hsz : ls.size = nL) (hst : st0 = As.reverse ++ .ref b :: rest) (hW : (rest.map fun v => v.category).sum ≤ 8) (hdg : decode cc pc = .ok (.invokevirtual idx, 3)) (hf : cells + mc ≤ R.cells ∧ slots + ms ≤ R.slots) :
    va_Run p l e R s m args below meth c H locs cells slots mc ms (F0 m pc ls st0) rest (Qc (Value.ref b :: As).toArray) free := by
  obtain ⟨hx, hb, hml, hr, hlocks, hown, hts, hE, hnm⟩ := hcx
  exact va_runV (As := As) (rest := rest) ⟨hx, hb, hml, hown, hts⟩ hM (cwV n hts hG rfl rfl rfl hd hR) (pVe hE hP hD hF hS hFc hrv) rfl hn hsz hst (lv_room hW) hdg hf
end S3
set_option maxHeartbeats 4000000 in
set_option maxRecDepth 100000 in
theorem c_coderE {l : Launch} {g : Gx} {z : Sg} : MIe l g z yJ0_coder_7d493 cJ0_coder_7d493 1 (some .byte) 2 0 0 [.ref z.1] [] (fun r W' => 0 = r ∧ W' = []) := by
  refine MIeof (by decide) (fun _ => Nat.le_of_ble_eq_true rfl) ?_
  intro p e s m below meth c A ls H locs hcx hF hA hP hD hS hl
  obtain ⟨hx, hb, hml, hr, hlocks, hown, hts, hE, hnm⟩ := id hcx
  have hown : s.vm.findClass RJ0 = some m.cls := hown
  have hK := hE.1
  have hl : lv_has ls 1 [(0, .ref z.1)] := hl
  refine va_gets (v := .int 1) hx hb hF.1.2.2.2.2.2.1 hS hown (hts _ q4_3) (fun _ h9 => h9) dJ0_coder_7d493_0 ?_
  refine lv_if_eq (tgt := 13) hx hb dJ0_coder_7d493_3 (by decide) (fun c1 => absurd c1 (by decide)) (fun _ => ?_)
  refine lv_aload_n hx hb dJ0_coder_7d493_6 rfl (lv_at hl 0 rfl) ?_
  refine vk_getf (v := .int 0) hx hb hF.1.2.2.1 hS hown (hts _ q4_4) (fun _ h9 => h9) dJ0_coder_7d493_7 ?_
  refine lv_goto (tgt := 14) hx hb dJ0_coder_7d493_10 (by decide) ?_
  exact xi hx hb hr hlocks rfl hP hD hS ⟨rfl, rfl⟩ (Nat.le_of_ble_eq_true rfl) (Nat.le_of_ble_eq_true rfl) dJ0_coder_7d493_14
set_option maxHeartbeats 4000000 in
set_option maxRecDepth 100000 in
theorem c_isLatin1E {l : Launch} {g : Gx} {z : Sg} : MIe l g z yJ0_isLatin1_aae02 cJ0_isLatin1_aae02 1 (some .boolean) 2 0 0 [.ref z.1] [] (fun r W' => 1 = r ∧ W' = []) := by
  refine MIeof (by decide) (fun _ => Nat.le_of_ble_eq_true rfl) ?_
  intro p e s m below meth c A ls H locs hcx hF hA hP hD hS hl
  obtain ⟨hx, hb, hml, hr, hlocks, hown, hts, hE, hnm⟩ := id hcx
  have hown : s.vm.findClass RJ0 = some m.cls := hown
  have hK := hE.1
  have hl : lv_has ls 1 [(0, .ref z.1)] := hl
  refine va_gets (v := .int 1) hx hb hF.1.2.2.2.2.2.1 hS hown (hts _ q4_3) (fun _ h9 => h9) dJ0_isLatin1_aae02_0 ?_
  refine lv_if_eq (tgt := 17) hx hb dJ0_isLatin1_aae02_3 (by decide) (fun c1 => absurd c1 (by decide)) (fun _ => ?_)
  refine lv_aload_n hx hb dJ0_isLatin1_aae02_6 rfl (lv_at hl 0 rfl) ?_
  refine vk_getf (v := .int 0) hx hb hF.1.2.2.1 hS hown (hts _ q4_4) (fun _ h9 => h9) dJ0_isLatin1_aae02_7 ?_
  refine lv_if_ne (tgt := 17) hx hb dJ0_isLatin1_aae02_10 (by decide) (fun c1 => absurd (by decide) c1) (fun _ => ?_)
  refine lv_iconst (v := 1) hx hb dJ0_isLatin1_aae02_13 (by decide) ?_
  refine lv_goto (tgt := 18) hx hb dJ0_isLatin1_aae02_14 (by decide) ?_
  exact xi hx hb hr hlocks rfl hP hD hS ⟨rfl, rfl⟩ (Nat.le_of_ble_eq_true rfl) (Nat.le_of_ble_eq_true rfl) dJ0_isLatin1_aae02_18
set_option maxHeartbeats 4000000 in
set_option maxRecDepth 100000 in
theorem c_lengthE {l : Launch} {g : Gx} {z : Sg} : MIe l g z yJ0_length_8abf5 cJ0_length_8abf5 1 (some .int) 3 0 0 [.ref z.1] [] (fun r W' => 11 = r ∧ W' = []) := by
  refine MIeof (by decide) (fun _ => Nat.le_of_ble_eq_true rfl) ?_
  intro p e s m below meth c A ls H locs hcx hF hA hP hD hS hl
  obtain ⟨hx, hb, hml, hr, hlocks, hown, hts, hE, hnm⟩ := id hcx
  have hown : s.vm.findClass RJ0 = some m.cls := hown
  have hK := hE.1
  have hl : lv_has ls 1 [(0, .ref z.1)] := hl
  refine lv_aload_n hx hb dJ0_length_8abf5_0 rfl (lv_at hl 0 rfl) ?_
  refine vk_getf (v := .ref z.2.1) hx hb hF.1.2.2.2.1 hS hown (hts _ q3_22) (fun _ h9 => h9) dJ0_length_8abf5_1 ?_
  refine va_tlen (v := 11) hx hb hF.1.2.2.2.2.1 hS rfl dJ0_length_8abf5_4 ?_
  refine lv_aload_n hx hb dJ0_length_8abf5_5 rfl (lv_at hl 0 rfl) ?_
  refine kI (wc := []) (wr := []) (rVe (As := []) (rest := [.int 11]) hcx hF hS hA (c_coderE H.size) (gdV q3_23 q4_0 q4_1 q3_20 q4_2) dvJ0_coder_7d493 ⟨Nat.le_of_ble_eq_true rfl, Nat.le_of_ble_eq_true rfl⟩ rfl hl.1 rfl (Nat.le_of_ble_eq_true rfl) dJ0_length_8abf5_6 ⟨Nat.le_of_ble_eq_true rfl, Nat.le_of_ble_eq_true rfl⟩) hP hD hS hA [] [] rfl rfl (by decide) (by decide) (fun r W' H locs hw hP hD hS => ?_)
  obtain ⟨rfl, rfl⟩ := hw
  have hP : va_P g.1 vwCl [] H := hP
  have hD : va_D A [] := hD
  refine lv_ishr hx hb dJ0_length_8abf5_9 ?_
  refine lv_tope (y := 11) (by decide) ?_
  exact xi hx hb hr hlocks rfl hP hD hS ⟨rfl, rfl⟩ (Nat.le_of_ble_eq_true rfl) (Nat.le_of_ble_eq_true rfl) dJ0_length_8abf5_10
set_option maxHeartbeats 4000000 in
set_option maxRecDepth 100000 in
theorem c_indexOfCharE {l : Launch} {g : Gx} {z : Sg} {x : Int32} : MIe l g z yJ1_indexOfChar_4cfef cJ1_indexOfChar_4cfef 6 (some .int) 2 0 0 [.ref z.2.1, .int x, .int 0, .int 11] [] (fun r W' => True ∧ W' = []) := by
  refine MIeof (by decide) (fun _ => Nat.le_of_ble_eq_true rfl) ?_
  intro p e s m below meth c A ls H locs hcx hF hA hP hD hS hl
  obtain ⟨hx, hb, hml, hr, hlocks, hown, hts, hE, hnm⟩ := id hcx
  have hown : s.vm.findClass RJ1 = some m.cls := hown
  have hK := hE.1
  have hl : lv_has ls 6 [(0, .ref z.2.1), (1, .int x), (2, .int 0), (3, .int 11)] := hl
  refine lv_iload_n hx hb dJ1_indexOfChar_4cfef_0 rfl (lv_at hl 1 rfl) ?_
  refine lv_i2b hx hb dJ1_indexOfChar_4cfef_1 rfl ?_
  refine lv_topi (fun x4 e4 => ?_)
  refine lv_istore (lv' := [(4, .int x4), (0, .ref z.2.1), (1, .int x), (2, .int 0), (3, .int 11)]) hx hb dJ1_indexOfChar_4cfef_2 hl (by decide) rfl (fun ls hl => ?_)
  refine lv_iload_n hx hb dJ1_indexOfChar_4cfef_4 rfl (lv_at hl 3 rfl) ?_
  refine lv_istore (lv' := [(5, .int 0), (4, .int x4), (0, .ref z.2.1), (1, .int x), (2, .int 0), (3, .int 11)]) hx hb dJ1_indexOfChar_4cfef_5 hl (by decide) rfl (fun ls hl => ?_)
  have loop : ∀ (n : Nat) (ls : Array Slot) (k : Nat), k ≤ 11 → 12 - k < n → lv_has ls 6 [(5, .int (nI k)), (4, .int x4), (0, .ref z.2.1), (1, .int x), (2, .int 0), (3, .int 11)] → W p l e (rmD 2 0 0) s m ([Value.ref z.2.1, Value.int x, Value.int 0, Value.int 11] : List Value).toArray below meth c H locs 0 0 (MQ below (QI g A (fun r W' => True ∧ W' = [])) ([Value.ref z.2.1, Value.int x, Value.int 0, Value.int 11] : List Value).toArray s 0 0 A) (F0 m 7 ls []) := by
    intro n
    induction n with
    | zero => intro ls k hk hm; exact absurd hm (Nat.not_lt_zero _)
    | succ n ih =>
      intro ls k hk hm hl
      refine lv_iload hx hb dJ1_indexOfChar_4cfef_7 (lv_at hl 0 rfl) ?_
      refine lv_iload_n hx hb dJ1_indexOfChar_4cfef_9 rfl (lv_at hl 5 rfl) ?_
      refine lv_icmp_ge (tgt := 31) hx hb dJ1_indexOfChar_4cfef_10 (by decide) (fun c1 => ?_) (fun c1 => ?_)
      · refine lv_iconst (v := (-1)) hx hb dJ1_indexOfChar_4cfef_31 (by decide) ?_
        exact xi hx hb hr hlocks rfl hP hD hS ⟨trivial, rfl⟩ (Nat.le_of_ble_eq_true rfl) (Nat.le_of_ble_eq_true rfl) dJ1_indexOfChar_4cfef_32
      · have hn := nnle (a := 11) (b := k) (by omega) (by omega) c1
        refine lv_aload_n hx hb dJ1_indexOfChar_4cfef_13 rfl (lv_at hl 2 rfl) ?_
        refine lv_iload hx hb dJ1_indexOfChar_4cfef_14 (lv_at hl 0 rfl) ?_
        refine va_tb (v := .int (z.2.2.1 (nI k).toNatClampNeg)) hx hb hF.1.2.2.2.2.1 hS (vp_in_nI hn (by decide)) rfl dJ1_indexOfChar_4cfef_16 ?_
        refine lv_iload hx hb dJ1_indexOfChar_4cfef_17 (lv_at hl 1 rfl) ?_
        refine lv_icmp_ne (tgt := 25) hx hb dJ1_indexOfChar_4cfef_19 (by decide) (fun c2 => ?_) (fun c2 => ?_)
        · refine lv_iinc (v := (nI (k + 1))) (lv' := [(5, .int (nI (k + 1))), (4, .int x4), (0, .ref z.2.1), (1, .int x), (2, .int 0), (3, .int 11)]) hx hb dJ1_indexOfChar_4cfef_25 hl (k := 0) rfl (nI_1 _) (by decide) rfl (fun ls hl => ?_)
          refine lv_goto (tgt := 7) hx hb dJ1_indexOfChar_4cfef_28 (by decide) ?_
          exact ih ls (k + 1) (by omega) (by omega) hl
        · refine lv_iload hx hb dJ1_indexOfChar_4cfef_22 (lv_at hl 0 rfl) ?_
          exact xi hx hb hr hlocks rfl hP hD hS ⟨trivial, rfl⟩ (Nat.le_of_ble_eq_true rfl) (Nat.le_of_ble_eq_true rfl) dJ1_indexOfChar_4cfef_24
  exact loop 13 ls 0 (by decide) (by decide) hl
set_option maxHeartbeats 4000000 in
set_option maxRecDepth 100000 in
theorem c_indexOfLE {l : Launch} {g : Gx} {z : Sg} {x : Int32} : MIe l g z yJ1_indexOf_4cfef cJ1_indexOf_4cfef 4 (some .int) 3 0 0 [.ref z.2.1, .int x, .int 0, .int 11] [] (fun r W' => True ∧ W' = []) := by
  refine MIeof (by decide) (fun _ => Nat.le_of_ble_eq_true rfl) ?_
  intro p e s m below meth c A ls H locs hcx hF hA hP hD hS hl
  obtain ⟨hx, hb, hml, hr, hlocks, hown, hts, hE, hnm⟩ := id hcx
  have hown : s.vm.findClass RJ1 = some m.cls := hown
  have hK := hE.1
  have hl : lv_has ls 4 [(0, .ref z.2.1), (1, .int x), (2, .int 0), (3, .int 11)] := hl
  refine lv_iload_n hx hb dJ1_indexOf_4cfef_0 rfl (lv_at hl 1 rfl) ?_
  refine kI (wc := []) (wr := []) (rS (As := [.int x]) (rest := []) hcx (c_J1_canEncode H.size) (gdS q19_9 q19_10 q4_15 q19_11) dvJ1_canEncode_9a6ad.2 ⟨Nat.le_of_ble_eq_true rfl, Nat.le_of_ble_eq_true rfl⟩ (hP.sub [] rfl) (hD.sub [] (by decide) rfl) rfl hl.1 rfl (Nat.le_of_ble_eq_true rfl) dJ1_indexOf_4cfef_1 ⟨Nat.le_of_ble_eq_true rfl, Nat.le_of_ble_eq_true rfl⟩) hP hD hS hA [] [] rfl rfl (by decide) (by decide) (fun r W' H locs hw hP hD hS => ?_)
  obtain ⟨⟨m1, hm1, rfl⟩, rfl⟩ := hw
  have hP : va_P g.1 vwCl [] H := hP
  have hD : va_D A [] := hD
  refine lv_if_ne (tgt := 9) hx hb dJ1_indexOf_4cfef_4 (by decide) (fun c1 => ?_) (fun c1 => ?_)
  · refine lv_iload_n hx hb dJ1_indexOf_4cfef_9 rfl (lv_at hl 2 rfl) ?_
    refine lv_iconst (v := 0) hx hb dJ1_indexOf_4cfef_10 (by decide) ?_
    refine va_mmax hx hb (hml.trans hl.1.symm) hown (hts _ q19_5) (hts _ q19_6) (hts _ q17_6) (hts _ q19_7) (Nat.le_of_ble_eq_true rfl) (Nat.le_of_ble_eq_true rfl) (Nat.le_of_ble_eq_true rfl) (Nat.le_of_ble_eq_true rfl) dJ1_indexOf_4cfef_11 ?_
    refine lv_tope (y := 0) (by decide) ?_
    refine lv_istore_n (lv' := [(2, .int 0), (0, .ref z.2.1), (1, .int x), (3, .int 11)]) hx hb dJ1_indexOf_4cfef_14 rfl hl (by decide) rfl (fun ls hl => ?_)
    refine lv_iload_n hx hb dJ1_indexOf_4cfef_15 rfl (lv_at hl 3 rfl) ?_
    refine lv_aload_n hx hb dJ1_indexOf_4cfef_16 rfl (lv_at hl 1 rfl) ?_
    refine va_tlen (v := 11) hx hb hF.1.2.2.2.2.1 hS rfl dJ1_indexOf_4cfef_17 ?_
    refine va_mmin hx hb (hml.trans hl.1.symm) hown (hts _ q19_8) (hts _ q17_5) (hts _ q17_6) (hts _ q17_7) (Nat.le_of_ble_eq_true rfl) (Nat.le_of_ble_eq_true rfl) (Nat.le_of_ble_eq_true rfl) (Nat.le_of_ble_eq_true rfl) dJ1_indexOf_4cfef_18 ?_
    refine lv_tope (y := 11) (by decide) ?_
    refine lv_istore_n (lv' := [(3, .int 11), (2, .int 0), (0, .ref z.2.1), (1, .int x)]) hx hb dJ1_indexOf_4cfef_21 rfl hl (by decide) rfl (fun ls hl => ?_)
    refine lv_iload_n hx hb dJ1_indexOf_4cfef_22 rfl (lv_at hl 1 rfl) ?_
    refine lv_iload_n hx hb dJ1_indexOf_4cfef_23 rfl (lv_at hl 0 rfl) ?_
    refine lv_icmp_lt (tgt := 29) hx hb dJ1_indexOf_4cfef_24 (by decide) (fun _ => ?_) (fun c2 => absurd (by decide) c2)
    refine lv_aload_n hx hb dJ1_indexOf_4cfef_29 rfl (lv_at hl 2 rfl) ?_
    refine lv_iload_n hx hb dJ1_indexOf_4cfef_30 rfl (lv_at hl 3 rfl) ?_
    refine lv_iload_n hx hb dJ1_indexOf_4cfef_31 rfl (lv_at hl 1 rfl) ?_
    refine lv_iload_n hx hb dJ1_indexOf_4cfef_32 rfl (lv_at hl 0 rfl) ?_
    refine kI (wc := []) (wr := []) (rSe (As := [.ref z.2.1, .int x, .int 0, .int 11]) (rest := []) hcx hF hS hA (c_indexOfCharE H.size) (gdS q19_12 q19_13 q4_15 q19_14) dvJ1_indexOfChar_4cfef.2 ⟨Nat.le_of_ble_eq_true rfl, Nat.le_of_ble_eq_true rfl⟩ rfl hl.1 rfl (Nat.le_of_ble_eq_true rfl) dJ1_indexOf_4cfef_33 ⟨Nat.le_of_ble_eq_true rfl, Nat.le_of_ble_eq_true rfl⟩) hP hD hS hA [] [] rfl rfl (by decide) (by decide) (fun r W' H locs hw hP hD hS => ?_)
    obtain ⟨_, rfl⟩ := hw
    have hP : va_P g.1 vwCl [] H := hP
    have hD : va_D A [] := hD
    exact xi hx hb hr hlocks rfl hP hD hS ⟨trivial, rfl⟩ (Nat.le_of_ble_eq_true rfl) (Nat.le_of_ble_eq_true rfl) dJ1_indexOf_4cfef_36
  · refine lv_iconst (v := (-1)) hx hb dJ1_indexOf_4cfef_7 (by decide) ?_
    exact xi hx hb hr hlocks rfl hP hD hS ⟨trivial, rfl⟩ (Nat.le_of_ble_eq_true rfl) (Nat.le_of_ble_eq_true rfl) dJ1_indexOf_4cfef_8
set_option maxHeartbeats 4000000 in
set_option maxRecDepth 100000 in
theorem c_indexOf2E {l : Launch} {g : Gx} {z : Sg} {x : Int32} : MIe l g z yJ0_indexOf_7cf53 cJ0_indexOf_7cf53 3 (some .int) 4 0 0 [.ref z.1, .int x, .int 0] [] (fun r W' => True ∧ W' = []) := by
  refine MIeof (by decide) (fun _ => Nat.le_of_ble_eq_true rfl) ?_
  intro p e s m below meth c A ls H locs hcx hF hA hP hD hS hl
  obtain ⟨hx, hb, hml, hr, hlocks, hown, hts, hE, hnm⟩ := id hcx
  have hown : s.vm.findClass RJ0 = some m.cls := hown
  have hK := hE.1
  have hl : lv_has ls 3 [(0, .ref z.1), (1, .int x), (2, .int 0)] := hl
  refine lv_aload_n hx hb dJ0_indexOf_7cf53_0 rfl (lv_at hl 0 rfl) ?_
  refine kI (wc := []) (wr := []) (rVe (As := []) (rest := []) hcx hF hS hA (c_isLatin1E H.size) (gdV q4_9 q4_10 q4_11 q3_20 q4_12) dvJ0_isLatin1_aae02 ⟨Nat.le_of_ble_eq_true rfl, Nat.le_of_ble_eq_true rfl⟩ rfl hl.1 rfl (Nat.le_of_ble_eq_true rfl) dJ0_indexOf_7cf53_1 ⟨Nat.le_of_ble_eq_true rfl, Nat.le_of_ble_eq_true rfl⟩) hP hD hS hA [] [] rfl rfl (by decide) (by decide) (fun r W' H locs hw hP hD hS => ?_)
  obtain ⟨rfl, rfl⟩ := hw
  have hP : va_P g.1 vwCl [] H := hP
  have hD : va_D A [] := hD
  refine lv_if_eq (tgt := 23) hx hb dJ0_indexOf_7cf53_4 (by decide) (fun c1 => absurd c1 (by decide)) (fun _ => ?_)
  refine lv_aload_n hx hb dJ0_indexOf_7cf53_7 rfl (lv_at hl 0 rfl) ?_
  refine vk_getf (v := .ref z.2.1) hx hb hF.1.2.2.2.1 hS hown (hts _ q3_22) (fun _ h9 => h9) dJ0_indexOf_7cf53_8 ?_
  refine lv_iload_n hx hb dJ0_indexOf_7cf53_11 rfl (lv_at hl 1 rfl) ?_
  refine lv_iload_n hx hb dJ0_indexOf_7cf53_12 rfl (lv_at hl 2 rfl) ?_
  refine lv_aload_n hx hb dJ0_indexOf_7cf53_13 rfl (lv_at hl 0 rfl) ?_
  refine kI (wc := []) (wr := []) (rVe (As := []) (rest := [.int 0, .int x, .ref z.2.1]) hcx hF hS hA (c_lengthE H.size) (gdV q19_1 q3_18 q3_19 q3_20 q3_21) dvJ0_length_8abf5 ⟨Nat.le_of_ble_eq_true rfl, Nat.le_of_ble_eq_true rfl⟩ rfl hl.1 rfl (Nat.le_of_ble_eq_true rfl) dJ0_indexOf_7cf53_14 ⟨Nat.le_of_ble_eq_true rfl, Nat.le_of_ble_eq_true rfl⟩) hP hD hS hA [] [] rfl rfl (by decide) (by decide) (fun r W' H locs hw hP hD hS => ?_)
  obtain ⟨rfl, rfl⟩ := hw
  have hP : va_P g.1 vwCl [] H := hP
  have hD : va_D A [] := hD
  refine kI (wc := []) (wr := []) (rSe (As := [.ref z.2.1, .int x, .int 0, .int 11]) (rest := []) hcx hF hS hA (c_indexOfLE H.size) (gdS q19_2 q19_3 q4_15 q19_4) dvJ1_indexOf_4cfef.2 ⟨Nat.le_of_ble_eq_true rfl, Nat.le_of_ble_eq_true rfl⟩ rfl hl.1 rfl (Nat.le_of_ble_eq_true rfl) dJ0_indexOf_7cf53_17 ⟨Nat.le_of_ble_eq_true rfl, Nat.le_of_ble_eq_true rfl⟩) hP hD hS hA [] [] rfl rfl (by decide) (by decide) (fun r W' H locs hw hP hD hS => ?_)
  obtain ⟨_, rfl⟩ := hw
  have hP : va_P g.1 vwCl [] H := hP
  have hD : va_D A [] := hD
  refine lv_goto (tgt := 36) hx hb dJ0_indexOf_7cf53_20 (by decide) ?_
  exact xi hx hb hr hlocks rfl hP hD hS ⟨trivial, rfl⟩ (Nat.le_of_ble_eq_true rfl) (Nat.le_of_ble_eq_true rfl) dJ0_indexOf_7cf53_36
set_option maxHeartbeats 4000000 in
set_option maxRecDepth 100000 in
theorem c_indexOfE {l : Launch} {g : Gx} {z : Sg} {x : Int32} : MIe l g z yJ0_indexOf_0f7a4 cJ0_indexOf_0f7a4 2 (some .int) 5 0 0 [.ref z.1, .int x] [] (fun r W' => True ∧ W' = []) := by
  refine MIeof (by decide) (fun _ => Nat.le_of_ble_eq_true rfl) ?_
  intro p e s m below meth c A ls H locs hcx hF hA hP hD hS hl
  obtain ⟨hx, hb, hml, hr, hlocks, hown, hts, hE, hnm⟩ := id hcx
  have hown : s.vm.findClass RJ0 = some m.cls := hown
  have hK := hE.1
  have hl : lv_has ls 2 [(0, .ref z.1), (1, .int x)] := hl
  refine lv_aload_n hx hb dJ0_indexOf_0f7a4_0 rfl (lv_at hl 0 rfl) ?_
  refine lv_iload_n hx hb dJ0_indexOf_0f7a4_1 rfl (lv_at hl 1 rfl) ?_
  refine lv_iconst (v := 0) hx hb dJ0_indexOf_0f7a4_2 (by decide) ?_
  refine kI (wc := []) (wr := []) (rVe (As := [.int x, .int 0]) (rest := []) hcx hF hS hA (c_indexOf2E H.size) (gdV q18_21 q18_22 q18_23 q3_20 q19_0) dvJ0_indexOf_7cf53 ⟨Nat.le_of_ble_eq_true rfl, Nat.le_of_ble_eq_true rfl⟩ rfl hl.1 rfl (Nat.le_of_ble_eq_true rfl) dJ0_indexOf_0f7a4_3 ⟨Nat.le_of_ble_eq_true rfl, Nat.le_of_ble_eq_true rfl⟩) hP hD hS hA [] [] rfl rfl (by decide) (by decide) (fun r W' H locs hw hP hD hS => ?_)
  obtain ⟨_, rfl⟩ := hw
  have hP : va_P g.1 vwCl [] H := hP
  have hD : va_D A [] := hD
  exact xi hx hb hr hlocks rfl hP hD hS ⟨trivial, rfl⟩ (Nat.le_of_ble_eq_true rfl) (Nat.le_of_ble_eq_true rfl) dJ0_indexOf_0f7a4_6
