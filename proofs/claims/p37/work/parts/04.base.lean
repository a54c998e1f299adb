/-! BASE: one world for all contracts, contracts of four kinds, calls with the frame rule in one row -/
/-- the tables' numbers: classes, slots, the array classes byte, int, long, boolean, State -/
abbrev Gx : Type := va_G × (ClassId × ClassId × ClassId × ClassId × ClassId)
abbrev gB (g : Gx) : ClassId := g.2.1
abbrev gI (g : Gx) : ClassId := g.2.2.1
abbrev gJ (g : Gx) : ClassId := g.2.2.2.1
abbrev gZ (g : Gx) : ClassId := g.2.2.2.2.1
abbrev gO (g : Gx) : ClassId := g.2.2.2.2.2
abbrev gT (g : Gx) : List (ClassId × FieldType) := [(gB g, .byte), (gI g, .int), (gJ g, .long), (gZ g, .boolean), (gO g, .object "GuildBanner$State")]
def nwP : List (String × Nat × MethodName) := [(RX10, 15, yX5_init), (RX10, 22, yX9_init), (RX9, 45, yX1_init), (RX10, 41, yX7_init), (RX2, 17, yX7_init), (RX10, 63, yX3_init), (RX4, 13, yX7_init), (RX6, 11, yX7_init)]
def Nws (U : State) : Prop := ∀ q ∈ nwP, va_Nw (.methodLinkNest q.1 q.2.1 q.2.2 "GuildBanner") U
def Ev (g : Gx) (U : State) : Prop := va_K g.1 vwCl (gT g) U ∧ Nws U ∧ va_AO "GuildBanner$State" U
theorem Ev.warm {g : Gx} {s U : State} (hW : s.WarmedH U.vm) (h : Ev g s) : Ev g U := ⟨va_K.moved hW.alike h.1, fun q hq => va_Nw.warmM hW (h.2.1 q hq), va_AO.moved hW.alike h.2.2⟩
theorem Ev.call {g : Gx} {U : State} (f : JFrame) (mk : MethodId) (a : Array Value) (h : Ev g U) : Ev g (U.calling f mk a) := ⟨va_K.moved (u := U) (U := U.calling f mk a) (Vm.Alike.refl U.vm) h.1, fun q hq => va_Nw.same (u := U) (U := U.calling f mk a) rfl rfl (h.2.1 q hq), va_AO.moved (u := U) (U := U.calling f mk a) (Vm.Alike.refl U.vm) h.2.2⟩
def rmD (d mc ms : Nat) : Room := { frames := d, cells := mc, slots := ms, locals := 200 * d }
def cd (y : MethodName) (cy : ByteArray) (mx : Nat) (ret : Option FieldType) : List Cond := Cond.code y cy mx ret :: wsL_law
def PcW (g : Gx) (av : List Value) (WS : va_W) (sz : Nat) : Array Value → State → Prop := va_Pc av (fun U => U.heap.size = sz ∧ va_P g.1 vwCl WS U.heap ∧ Ev g U ∧ va_D (fun _ => True) WS)
def BA (g : Gx) (A : Nat → Prop) (W' : va_W) (t : State) : Prop := va_P g.1 vwCl W' t.heap ∧ va_D A W'
def BR (g : Gx) (A : Nat → Prop) (W' : va_W) (_ : Nat) (t : State) : Prop := va_P g.1 vwCl W' t.heap ∧ va_D A W'
abbrev QI (g : Gx) (A : Nat → Prop) (post : Int32 → va_W → Prop) : Array Value → State → Outcome → State → Prop := va_Qi post (BA g A) A
abbrev QL (g : Gx) (A : Nat → Prop) (post : Int64 → va_W → Prop) : Array Value → State → Outcome → State → Prop := va_Ql post (BA g A) A
abbrev QV (g : Gx) (A : Nat → Prop) (post : va_W → Prop) : Array Value → State → Outcome → State → Prop := va_Qv post (BA g A) A
/-- an answer that is a reference: the post says which -/
def QR (g : Gx) (A : Nat → Prop) (post : Nat → va_W → Prop) : Array Value → State → Outcome → State → Prop := va_Qr (S := va_W × Nat) (fun u => post u.2 u.1) (fun u a t => a = u.2 ∧ BA g A u.1 t) A
def MI (l : Launch) (g : Gx) (y : MethodName) (cy : ByteArray) (mx : Nat) (ret : Option FieldType) (d mc ms : Nat) (av : List Value) (WS : va_W) (post : Int32 → va_W → Prop) : Prop := ∀ sz, Met l y (cd y cy mx ret) (rmD d mc ms) (PcW g av WS sz) (QI g (va_A WS sz) post) mc ms (va_A WS sz)
def ML (l : Launch) (g : Gx) (y : MethodName) (cy : ByteArray) (mx : Nat) (ret : Option FieldType) (d mc ms : Nat) (av : List Value) (WS : va_W) (post : Int64 → va_W → Prop) : Prop := ∀ sz, Met l y (cd y cy mx ret) (rmD d mc ms) (PcW g av WS sz) (QL g (va_A WS sz) post) mc ms (va_A WS sz)
def MV (l : Launch) (g : Gx) (y : MethodName) (cy : ByteArray) (mx : Nat) (d mc ms : Nat) (av : List Value) (WS : va_W) (post : va_W → Prop) : Prop := ∀ sz, Met l y (cd y cy mx none) (rmD d mc ms) (PcW g av WS sz) (QV g (va_A WS sz) post) mc ms (va_A WS sz)
def MR (l : Launch) (g : Gx) (y : MethodName) (cy : ByteArray) (mx : Nat) (ret : Option FieldType) (d mc ms : Nat) (av : List Value) (WS : va_W) (post : Nat → va_W → Prop) : Prop := ∀ sz, Met l y (cd y cy mx ret) (rmD d mc ms) (PcW g av WS sz) (QR g (va_A WS sz) post) mc ms (va_A WS sz)
/-- what a walk stands on -/
abbrev Cx (p : Program) (s : State) (m : MethodId) (args : Array Value) (meth : Method) (c : Code) (cy : ByteArray) (mx : Nat) (ret : Option FieldType) (own nm : String) (g : Gx) : Prop :=
  p.tables.exec = Jvm.exec ∧ c.code = cy ∧ c.maxLocals = mx ∧ meth.sig.returnType = ret ∧ meth.locks = false ∧ s.vm.findClass own = some m.cls ∧ (∀ w ∈ wsL_law, w.before args s = true) ∧ Ev g s ∧ meth.name = nm
/-- the walk that a contract is: any end Qc -/
theorem Mx {l : Launch} {g : Gx} {y : MethodName} {cy : ByteArray} {mx : Nat} {ret : Option FieldType} {d mc ms : Nat} {av : List Value} {WS : va_W} {sz : Nat} {Qc : Array Value → State → Outcome → State → Prop} (hy : plainName y.cls = true) (hlen : (lg_sl av).length ≤ mx)
    (body : ∀ (p : Program) (e : Env) (s : State) (m : MethodId) (below : List Frame) (meth : Method) (c : Code) (A : Nat → Prop) (ls : Array Slot), va_A WS sz = A → s.heap.size = sz → Cx p s m av.toArray meth c cy mx ret y.cls y.name g → (∀ q, s.heap.size ≤ q → A q) → va_P g.1 vwCl WS s.heap → va_D A WS → va_S A s.heap s.heap [] → lv_has ls mx (lv_args 0 av) →
      W p l e (rmD d mc ms) s m av.toArray below meth c s.heap [] 0 0 (MQ below Qc av.toArray s mc ms A) (F0 m 0 ls [])) :
    Met l y (cd y cy mx ret) (rmD d mc ms) (PcW g av WS sz) Qc mc ms (va_A WS sz) := by
  refine Met.ofW (cc := cy) (maxL := mx) (ret := ret) hy rfl ?_
  intro p e s m args below meth c s₁ B hml hv
  obtain ⟨rfl, hsz, hP, hE, hD0⟩ := hv
  have hts := atoms_spec (ws := cd y cy mx ret) B.pre
  have hown : s.vm.findClass y.cls = some m.cls := findClass_of_methodNamed B.named
  have hD := hD0.self (sz := sz)
  have hA : ∀ q : Nat, s.heap.size ≤ q → va_A WS sz q := fun q h => Or.inr (by rw [← hsz]; exact h)
  have hl := lv_entry av (n := mx) hlen
  rw [lg_entry_eq]
  exact body p e s m below meth c _ _ rfl hsz ⟨B.exec, B.bytes, hml, B.returns, B.notSynchronized, hown, fun w h => hts w (List.mem_cons_of_mem _ h), hE, (name_of_methodNamed B.named B.method).1⟩ hA hP hD va_S.rf hl
section BASE
variable {p : Program} {l : Launch} {e : Env} {R : Room} {s : State} {m : MethodId} {args : Array Value} {below : List Frame} {meth : Method} {c : Code} {H : Heap} {locs : List Loc} {cells slots : Nat} {Q : State → Prop}
variable {cc : ByteArray} {pc : Nat} {ls : Array Slot} {rest st0 : List Value} {g : Gx} {ws wc wr W' : va_W} {A : Nat → Prop} {mc ms : Nat} {a : Array Value}
theorem lv_tope {x y : Int32} (h : x = y) (k : W p l e R s m args below meth c H locs cells slots Q (F0 m pc ls (.int y :: rest))) : W p l e R s m args below meth c H locs cells slots Q (F0 m pc ls (.int x :: rest)) := h ▸ k
theorem lv_topv {x y : Value} (h : x = y) (k : W p l e R s m args below meth c H locs cells slots Q (F0 m pc ls (y :: rest))) : W p l e R s m args below meth c H locs cells slots Q (F0 m pc ls (x :: rest)) := h ▸ k
/-- the ends -/
theorem xi {post : Int32 → va_W → Prop} {v : Int32} {ty : FieldType} (hx : p.tables.exec = Jvm.exec) (hb : c.code = cc) (hr : meth.sig.returnType = some ty) (hlocks : meth.locks = false) (hn : narrow ty (.int v) = .int v) (hP : va_P g.1 vwCl W' H) (hD : va_D A W') (hS : va_S A s.heap H locs) (hq : post v W') (hc : cells ≤ mc) (hs : slots ≤ ms) (hdg : decode cc pc = .ok (.ireturn, 1)) : W p l e R s m args below meth c H locs cells slots (MQ below (QI g A post) args s mc ms A) (F0 m pc ls [.int v]) :=
  W.widen hc hs (W.zret hx hb hr hn (fun t ht hW => ⟨⟨v, W', rfl, hq, by rw [ht]; exact hP, hD⟩, hS.F ht⟩) hS.2.2 hdg hlocks)
theorem xv {post : va_W → Prop} (hx : p.tables.exec = Jvm.exec) (hb : c.code = cc) (hr : meth.sig.returnType = none) (hlocks : meth.locks = false) (hP : va_P g.1 vwCl W' H) (hD : va_D A W') (hS : va_S A s.heap H locs) (hq : post W') (hc : cells ≤ mc) (hs : slots ≤ ms) (hdg : decode cc pc = .ok (.return_, 1)) : W p l e R s m args below meth c H locs cells slots (MQ below (QV g A post) args s mc ms A) (F0 m pc ls []) :=
  W.widen hc hs (W.vret hx hb hr (fun t ht hW => ⟨⟨W', rfl, hq, by rw [ht]; exact hP, hD⟩, hS.F ht⟩) hS.2.2 hdg hlocks)
theorem xl {post : Int64 → va_W → Prop} {v : Int64} (hx : p.tables.exec = Jvm.exec) (hb : c.code = cc) (hr : meth.sig.returnType = some .long) (hlocks : meth.locks = false) (hP : va_P g.1 vwCl W' H) (hD : va_D A W') (hS : va_S A s.heap H locs) (hq : post v W') (hc : cells ≤ mc) (hs : slots ≤ ms) (hdg : decode cc pc = .ok (.lreturn, 1)) : W p l e R s m args below meth c H locs cells slots (MQ below (QL g A post) args s mc ms A) (F0 m pc ls [.long v]) :=
  W.widen hc hs (W.lret hx hb hr (fun t ht hW => ⟨⟨v, W', rfl, hq, by rw [ht]; exact hP, hD⟩, hS.F ht⟩) hS.2.2 hdg)
theorem xr {post : Nat → va_W → Prop} {v : Nat} {C : String} (hx : p.tables.exec = Jvm.exec) (hb : c.code = cc) (hr : meth.sig.returnType = some (.object C)) (hlocks : meth.locks = false) (hP : va_P g.1 vwCl W' H) (hD : va_D A W') (hS : va_S A s.heap H locs) (hq : post v W') (hc : cells ≤ mc) (hs : slots ≤ ms) (hdg : decode cc pc = .ok (.areturn, 1)) : W p l e R s m args below meth c H locs cells slots (MQ below (QR g A post) args s mc ms A) (F0 m pc ls [.ref v]) :=
  W.widen hc hs (W.aret hx hb hr (Or.inl ⟨_, rfl⟩) (Or.inr ⟨_, rfl⟩) (fun t ht hW => ⟨⟨(W', v), v, rfl, hq, rfl, by rw [ht]; exact hP, hD⟩, hS.F ht⟩) hS.2.2 hdg hlocks)
/-- behind a call: what came back beside the rest -/
theorem kI {post : Int32 → va_W → Prop} (hr : va_Run p l e R s m args below meth c H locs cells slots mc ms (F0 m pc ls st0) rest (QI g (va_A wc H.size) post a) (va_A wc H.size)) (hP : va_P g.1 vwCl ws H) (hD : va_D A ws) (hS : va_S A s.heap H locs) (hA : ∀ q, s.heap.size ≤ q → A q) (isC isR : List Nat) (hC : isC.map (fun i => ws[i]?) = wc.map some) (hR : isR.map (fun i => ws[i]?) = wr.map some) (hn : va_nd isR = true) (hdis : ∀ i ∈ isR, i ∉ isC)
    (kk : ∀ (r : Int32) (W' : va_W) (H1 : Heap) (locs1 : List Loc), post r W' → va_P g.1 vwCl (wr ++ W') H1 → va_D A (wr ++ W') → va_S A s.heap H1 locs1 → W p l e R s m args below meth c H1 locs1 (cells + mc) (slots + ms) Q (F0 m (pc + 3) ls (.int r :: rest))) : W p l e R s m args below meth c H locs cells slots Q (F0 m pc ls st0) := by
  have hFc := va_free (wc := wc) hD hS hA isC hC
  refine va_calli hr hS (fun q _ h => hFc q h) hFc (fun r u t H1 locs1 ht hvm hw hB hz1 hk1 hS1 => ?_)
  obtain ⟨hP1, hD1⟩ := hB
  rw [ht] at hP1
  obtain ⟨hP2, hD2⟩ := va_join (wr := wr) (w1 := u) hP hD isC isR hC hR hn hdis hk1 hFc hP1 hD1
  exact kk r u H1 locs1 hw hP2 hD2 hS1
theorem kL {post : Int64 → va_W → Prop} (hr : va_Run p l e R s m args below meth c H locs cells slots mc ms (F0 m pc ls st0) rest (QL g (va_A wc H.size) post a) (va_A wc H.size)) (hP : va_P g.1 vwCl ws H) (hD : va_D A ws) (hS : va_S A s.heap H locs) (hA : ∀ q, s.heap.size ≤ q → A q) (isC isR : List Nat) (hC : isC.map (fun i => ws[i]?) = wc.map some) (hR : isR.map (fun i => ws[i]?) = wr.map some) (hn : va_nd isR = true) (hdis : ∀ i ∈ isR, i ∉ isC)
    (kk : ∀ (r : Int64) (W' : va_W) (H1 : Heap) (locs1 : List Loc), post r W' → va_P g.1 vwCl (wr ++ W') H1 → va_D A (wr ++ W') → va_S A s.heap H1 locs1 → W p l e R s m args below meth c H1 locs1 (cells + mc) (slots + ms) Q (F0 m (pc + 3) ls (.long r :: rest))) : W p l e R s m args below meth c H locs cells slots Q (F0 m pc ls st0) := by
  have hFc := va_free (wc := wc) hD hS hA isC hC
  refine va_calll hr hS (fun q _ h => hFc q h) hFc (fun r u t H1 locs1 ht hvm hw hB hz1 hk1 hS1 => ?_)
  obtain ⟨hP1, hD1⟩ := hB
  rw [ht] at hP1
  obtain ⟨hP2, hD2⟩ := va_join (wr := wr) (w1 := u) hP hD isC isR hC hR hn hdis hk1 hFc hP1 hD1
  exact kk r u H1 locs1 hw hP2 hD2 hS1
theorem kV {post : va_W → Prop} (hr : va_Run p l e R s m args below meth c H locs cells slots mc ms (F0 m pc ls st0) rest (QV g (va_A wc H.size) post a) (va_A wc H.size)) (hP : va_P g.1 vwCl ws H) (hD : va_D A ws) (hS : va_S A s.heap H locs) (hA : ∀ q, s.heap.size ≤ q → A q) (isC isR : List Nat) (hC : isC.map (fun i => ws[i]?) = wc.map some) (hR : isR.map (fun i => ws[i]?) = wr.map some) (hn : va_nd isR = true) (hdis : ∀ i ∈ isR, i ∉ isC)
    (kk : ∀ (W' : va_W) (H1 : Heap) (locs1 : List Loc), post W' → va_P g.1 vwCl (wr ++ W') H1 → va_D A (wr ++ W') → va_S A s.heap H1 locs1 → W p l e R s m args below meth c H1 locs1 (cells + mc) (slots + ms) Q (F0 m (pc + 3) ls rest)) : W p l e R s m args below meth c H locs cells slots Q (F0 m pc ls st0) := by
  have hFc := va_free (wc := wc) hD hS hA isC hC
  refine va_callv hr hS (fun q _ h => hFc q h) hFc (fun u t H1 locs1 ht hvm hw hB hz1 hk1 hS1 => ?_)
  obtain ⟨hP1, hD1⟩ := hB
  rw [ht] at hP1
  obtain ⟨hP2, hD2⟩ := va_join (wr := wr) (w1 := u) hP hD isC isR hC hR hn hdis hk1 hFc hP1 hD1
  exact kk u H1 locs1 hw hP2 hD2 hS1
theorem kR {post : Nat → va_W → Prop} (hr : va_Run p l e R s m args below meth c H locs cells slots mc ms (F0 m pc ls st0) rest (QR g (va_A wc H.size) post a) (va_A wc H.size)) (hP : va_P g.1 vwCl ws H) (hD : va_D A ws) (hS : va_S A s.heap H locs) (hA : ∀ q, s.heap.size ≤ q → A q) (isC isR : List Nat) (hC : isC.map (fun i => ws[i]?) = wc.map some) (hR : isR.map (fun i => ws[i]?) = wr.map some) (hn : va_nd isR = true) (hdis : ∀ i ∈ isR, i ∉ isC)
    (kk : ∀ (r : Nat) (W' : va_W) (H1 : Heap) (locs1 : List Loc), post r W' → va_P g.1 vwCl (wr ++ W') H1 → va_D A (wr ++ W') → va_S A s.heap H1 locs1 → W p l e R s m args below meth c H1 locs1 (cells + mc) (slots + ms) Q (F0 m (pc + 3) ls (.ref r :: rest))) : W p l e R s m args below meth c H locs cells slots Q (F0 m pc ls st0) := by
  have hFc := va_free (wc := wc) hD hS hA isC hC
  refine va_callr hr hS (fun q _ h => hFc q h) hFc (fun u ra t H1 locs1 ht hvm hw hB hz1 hk1 hS1 => ?_)
  obtain ⟨hra, hP1, hD1⟩ := hB
  rw [ht] at hP1
  obtain ⟨hP2, hD2⟩ := va_join (wr := wr) (w1 := u.1) hP hD isC isR hC hR hn hdis hk1 hFc hP1 hD1
  subst hra
  exact kk _ u.1 H1 locs1 hw hP2 hD2 hS1
theorem pS {av : List Value} (hE : Ev g s) (hP : va_P g.1 vwCl wc H) (hD : va_D A wc) : PreS s H (PcW g av wc H.size) av := ⟨fun a U f mk q => by obtain ⟨q0, q1, qP, qE, qD⟩ := q; exact ⟨q0, q1, qP, qE.call f mk a, qD⟩, fun U hU hW => ⟨rfl, by rw [hU], by rw [hU]; exact hP, hE.warm hW, hD.weaken (fun _ _ _ _ => trivial)⟩⟩
theorem pV {C : String} {b : Nat} {As : List Value} (hE : Ev g s) (hP : va_P g.1 vwCl wc H) (hD : va_D A wc) (hrv : ∃ cell : Cell, H[b]? = some cell ∧ cell.vm.isStatics = false ∧ s.vm.findClass C = some cell.cls) : PreV s H C b (PcW g (.ref b :: As) wc H.size) As := ⟨fun a U f mk q => by obtain ⟨q0, q1, qP, qE, qD⟩ := q; exact ⟨q0, q1, qP, qE.call f mk a, qD⟩, hrv, fun U hU hW => ⟨rfl, by rw [hU], by rw [hU]; exact hP, hE.warm hW, hD.weaken (fun _ _ _ _ => trivial)⟩⟩
theorem gdV {own C : String} {idx mx : Nat} {y : MethodName} {cy : ByteArray} {ret : Option FieldType} (h1 : Cond.methodLink own idx y ∈ wsL_law) (h2 : Cond.instanceMethod y ∈ wsL_law) (h3 : Cond.selects C y y ∈ wsL_law) (h4 : Cond.initialized C ∈ wsL_law) (h5 : Cond.code y cy mx ret ∈ wsL_law) : GoodIn wsL_law (wsV own idx C y (cd y cy mx ret)) := by
  intro w hw
  simp only [wsV, cd, List.cons_append, List.nil_append, List.mem_cons] at hw
  rcases hw with rfl | rfl | rfl | rfl | rfl | h
  · exact wg_self _ h1
  · exact wg_self _ h2
  · exact wg_self _ h3
  · exact wg_self _ h4
  · exact wg_self _ h5
  · exact wg_self _ h
theorem gdS {own : String} {idx mx : Nat} {y : MethodName} {cy : ByteArray} {ret : Option FieldType} (h1 : Cond.methodLink own idx y ∈ wsL_law) (h2 : Cond.static y ∈ wsL_law) (h4 : Cond.initialized y.cls ∈ wsL_law) (h5 : Cond.code y cy mx ret ∈ wsL_law) : GoodIn wsL_law (va_wsS own idx y (cd y cy mx ret)) := by
  intro w hw
  simp only [va_wsS, cd, List.cons_append, List.nil_append, List.mem_cons] at hw
  rcases hw with rfl | rfl | rfl | rfl | h
  · exact wg_self _ h1
  · exact wg_self _ h2
  · exact wg_self _ h4
  · exact wg_self _ h5
  · exact wg_self _ h
theorem gdC {mx : Nat} {y : MethodName} {cy : ByteArray} {ret : Option FieldType} (h5 : Cond.code y cy mx ret ∈ wsL_law) : GoodIn wsL_law (cd y cy mx ret) := by
  intro w hw
  simp only [cd, List.mem_cons] at hw
  rcases hw with rfl | h
  · exact wg_self _ h5
  · exact wg_self _ h
abbrev DV (y : MethodName) (C : String) (n : Nat) : Prop := y.cls = C ∧ y.cls ≠ "java/lang/invoke/MethodHandle" ∧ y.cls ≠ "java/lang/invoke/VarHandle" ∧ (parseMethodDescriptor y.desc).map (fun d => d.parameters.length) = some n
/-- the call itself, of any kind: invokevirtual, invokestatic, invokespecial, invokespecial of a nest mate -/
theorem rV {nL : Nat} {own : String} {meth2 nm : String} {ret2 : Option FieldType} (hcx : Cx p s m args meth c cc nL ret2 own nm g) {y : MethodName} {cy : ByteArray} {mx idx d n b : Nat} {ret : Option FieldType} {C : String} {As : List Value} {Qc : Array Value → State → Outcome → State → Prop} {free : Addr → Prop}
    (hM : Met l y (cd y cy mx ret) (rmD d mc ms) (PcW g (.ref b :: As) wc H.size) Qc mc ms free) (hG : GoodIn wsL_law (wsV own idx C y (cd y cy mx ret))) (hd : DV y C n) (hR : d + 1 ≤ R.frames ∧ 8 + (mx + 11) + 200 * d ≤ R.locals) (hP : va_P g.1 vwCl wc H) (hD : va_D A wc) (hrv : ∃ cell : Cell, H[b]? = some cell ∧ cell.vm.isStatics = false ∧ s.vm.findClass C = some cell.cls)
    (hn : As.length = n) (hsz : ls.size = nL) (hst : st0 = As.reverse ++ .ref b :: rest) (hW : (rest.map fun v => v.category).sum ≤ 8) (hdg : decode cc pc = .ok (.invokevirtual idx, 3)) (hf : cells + mc ≤ R.cells ∧ slots + ms ≤ R.slots) :
    va_Run p l e R s m args below meth c H locs cells slots mc ms (F0 m pc ls st0) rest (Qc (Value.ref b :: As).toArray) free := by
  obtain ⟨hx, hb, hml, hr, hlocks, hown, hts, hE, hnm⟩ := hcx
  exact va_runV (As := As) (rest := rest) ⟨hx, hb, hml, hown, hts⟩ hM (cwV n hts hG rfl rfl rfl hd hR) (pV hE hP hD hrv) rfl hn hsz hst (lv_room hW) hdg hf
theorem rS {nL : Nat} {own nm : String} {ret2 : Option FieldType} (hcx : Cx p s m args meth c cc nL ret2 own nm g) {y : MethodName} {cy : ByteArray} {mx idx d n : Nat} {ret : Option FieldType} {As : List Value} {Qc : Array Value → State → Outcome → State → Prop} {free : Addr → Prop}
    (hM : Met l y (cd y cy mx ret) (rmD d mc ms) (PcW g As wc H.size) Qc mc ms free) (hG : GoodIn wsL_law (va_wsS own idx y (cd y cy mx ret))) (hd : y.cls ≠ "java/lang/invoke/MethodHandle" ∧ y.cls ≠ "java/lang/invoke/VarHandle" ∧ (parseMethodDescriptor y.desc).map (fun d => d.parameters.length) = some n) (hR : d + 1 ≤ R.frames ∧ 8 + (mx + 11) + 200 * d ≤ R.locals) (hP : va_P g.1 vwCl wc H) (hD : va_D A wc)
    (hn : As.length = n) (hsz : ls.size = nL) (hst : st0 = As.reverse ++ rest) (hW : (rest.map fun v => v.category).sum ≤ 8) (hdg : decode cc pc = .ok (.invokestatic idx, 3)) (hf : cells + mc ≤ R.cells ∧ slots + ms ≤ R.slots) :
    va_Run p l e R s m args below meth c H locs cells slots mc ms (F0 m pc ls st0) rest (Qc As.toArray) free := by
  obtain ⟨hx, hb, hml, hr, hlocks, hown, hts, hE, hnm⟩ := hcx
  exact va_runS (As := As) (rest := rest) ⟨hx, hb, hml, hown, hts⟩ hM (va_cwS n hts hG rfl rfl rfl hd hR) (pS hE hP hD) rfl hn hsz hst (lv_room hW) hdg hf
theorem rN {nL : Nat} {own nm : String} {ret2 : Option FieldType} (hcx : Cx p s m args meth c cc nL ret2 own nm g) {y : MethodName} {cy : ByteArray} {mx idx d n b : Nat} {As : List Value} {Qc : Array Value → State → Outcome → State → Prop} {free : Addr → Prop}
    (hM : Met l y (cd y cy mx none) (rmD d mc ms) (PcW g (.ref b :: As) wc H.size) Qc mc ms free) (hG : GoodIn wsL_law (cd y cy mx none)) (hini : Cond.initialized y.cls ∈ wsL_law) (hlk : Cond.methodLink own idx y ∈ wsL_law) (hins : Cond.instanceMethod y ∈ wsL_law) (hy1 : y.name = "<init>") (hd : y.cls ≠ "java/lang/invoke/MethodHandle" ∧ y.cls ≠ "java/lang/invoke/VarHandle" ∧ (parseMethodDescriptor y.desc).map (fun d => d.parameters.length) = some n) (hR : d + 1 ≤ R.frames ∧ 8 + (mx + 11) + 200 * d ≤ R.locals) (hP : va_P g.1 vwCl wc H) (hD : va_D A wc)
    (hn : As.length = n) (hsz : ls.size = nL) (hst : st0 = As.reverse ++ .ref b :: rest) (hW : (rest.map fun v => v.category).sum ≤ 8) (hdg : decode cc pc = .ok (.invokespecial idx, 3)) (hf : cells + mc ≤ R.cells ∧ slots + ms ≤ R.slots) :
    va_Run p l e R s m args below meth c H locs cells slots mc ms (F0 m pc ls st0) rest (Qc (Value.ref b :: As).toArray) free := by
  obtain ⟨hx, hb, hml, hr, hlocks, hown, hts, hE, hnm⟩ := hcx
  exact va_runI (As := As) (rest := rest) ⟨hx, hb, hml, hown, hts⟩ hM (cwI n hts hG rfl rfl rfl (hts _ hini) (hts _ hlk) (hts _ hins) hy1 hd hR) (pS hE hP hD) rfl hn hsz hst (lv_room hW) hdg hf
theorem rM {nL : Nat} {own nm : String} {ret2 : Option FieldType} (hcx : Cx p s m args meth c cc nL ret2 own nm g) {y : MethodName} {cy : ByteArray} {mx idx d n b : Nat} {As : List Value} {Qc : Array Value → State → Outcome → State → Prop} {free : Addr → Prop}
    (hM : Met l y (cd y cy mx none) (rmD d mc ms) (PcW g (.ref b :: As) wc H.size) Qc mc ms free) (hG : GoodIn wsL_law (cd y cy mx none)) (hini : Cond.initialized y.cls ∈ wsL_law) (hlk : (own, idx, y) ∈ nwP) (hins : Cond.instanceMethod y ∈ wsL_law) (hy1 : y.name = "<init>") (hd : y.cls ≠ "java/lang/invoke/MethodHandle" ∧ y.cls ≠ "java/lang/invoke/VarHandle" ∧ (parseMethodDescriptor y.desc).map (fun d => d.parameters.length) = some n) (hR : d + 1 ≤ R.frames ∧ 8 + (mx + 11) + 200 * d ≤ R.locals) (hP : va_P g.1 vwCl wc H) (hD : va_D A wc)
    (hn : As.length = n) (hsz : ls.size = nL) (hst : st0 = As.reverse ++ .ref b :: rest) (hW : (rest.map fun v => v.category).sum ≤ 8) (hdg : decode cc pc = .ok (.invokespecial idx, 3)) (hf : cells + mc ≤ R.cells ∧ slots + ms ≤ R.slots) :
    va_Run p l e R s m args below meth c H locs cells slots mc ms (F0 m pc ls st0) rest (Qc (Value.ref b :: As).toArray) free := by
  obtain ⟨hx, hb, hml, hr, hlocks, hown, hts, hE, hnm⟩ := hcx
  exact va_runIN (As := As) (rest := rest) ⟨hx, hb, hml, hown, hts⟩ hM ⟨va_cnB n hts hG rfl rfl rfl (hE.2.1 _ hlk) (hts _ hini) hd hR, hy1, hts _ hins⟩ (pS hE hP hD) rfl hn hsz hst (lv_room hW) hdg hf
end BASE
/-- a new array has the class that the tables name -/
theorem ksame {g : Gx} {s : State} {cA cX : ClassId} {ty : FieldType} (k : Nat) (hn : ∀ C, ty ≠ .object C) (hk : (gT g)[k]? = some (cX, ty)) (h : va_K g.1 vwCl (gT g ++ [(cA, ty)]) s) : cA = cX := by
  have h1 := (h.2 5 (cA, ty) rfl).2
  have h2 := (h.2 k (cX, ty) (by rw [List.getElem?_append_left (List.getElem?_eq_some_iff.mp hk).1]; exact hk)).2
  cases ty <;> first | exact absurd rfl (hn _) | exact Option.some.inj (h1.symm.trans h2)
theorem ksameO {g : Gx} {s : State} {cA : ClassId} (h : va_K g.1 vwCl (gT g ++ [(cA, .object "GuildBanner$State")]) s) : cA = gO g := by
  obtain ⟨_, _, _, _, _, h1⟩ := (h.2 5 (cA, .object "GuildBanner$State") rfl).2
  obtain ⟨_, _, _, _, _, h2⟩ := (h.2 4 (gO g, .object "GuildBanner$State") rfl).2
  exact Option.some.inj (h1.symm.trans h2)
