/-! FRAME: worlds in any order, a call beside cells that nobody names, a pool of States -/
theorem P_mem {D : va_G} {cl : List vw_C} {ws : va_W} {H : Heap} : va_P D cl ws H ↔ ∀ q, q ∈ ws → va_at D cl q H :=
  ⟨fun h q hq => by obtain ⟨k, hk⟩ := List.mem_iff_getElem?.mp hq; exact h k q hk, fun h k q hk => h q (List.mem_of_getElem? hk)⟩
theorem P_perm {D : va_G} {cl : List vw_C} {ws ws' : va_W} {H : Heap} (h : va_P D cl ws H) (p : List.Perm ws ws') : va_P D cl ws' H := P_mem.mpr (fun q hq => P_mem.mp h q (p.mem_iff.mpr hq))
theorem D_iff {A : Nat → Prop} {ws : va_W} : va_D A ws ↔ (ws.map Prod.fst).Nodup ∧ ∀ q, q ∈ ws → A q.1 := by
  constructor
  · intro h
    refine ⟨?_, fun q hq => by obtain ⟨k, hk⟩ := List.mem_iff_getElem?.mp hq; exact h.2 k q hk⟩
    refine List.pairwise_iff_getElem.mpr (fun i j hi hj hij e => ?_)
    rw [List.length_map] at hi hj
    rw [List.getElem_map, List.getElem_map] at e
    have := h.1 i j ws[i] ws[j] (List.getElem?_eq_getElem hi) (List.getElem?_eq_getElem hj) e
    omega
  · intro h
    refine ⟨fun i j p q hp hq e => ?_, fun k q hk => h.2 q (List.mem_of_getElem? hk)⟩
    obtain ⟨hi, ei⟩ := List.getElem?_eq_some_iff.mp hp
    obtain ⟨hj, ej⟩ := List.getElem?_eq_some_iff.mp hq
    have hn := List.pairwise_iff_getElem.mp h.1
    rcases Nat.lt_trichotomy i j with hl | hl | hl
    · refine absurd ?_ (hn i j (by rw [List.length_map]; exact hi) (by rw [List.length_map]; exact hj) hl)
      rw [List.getElem_map, List.getElem_map, ei, ej]; exact e
    · exact hl
    · refine absurd ?_ (hn j i (by rw [List.length_map]; exact hj) (by rw [List.length_map]; exact hi) hl)
      rw [List.getElem_map, List.getElem_map, ei, ej]; exact e.symm
theorem D_perm {A : Nat → Prop} {ws ws' : va_W} (h : va_D A ws) (p : List.Perm ws ws') : va_D A ws' :=
  D_iff.mpr ⟨(p.map _).nodup_iff.mp (D_iff.mp h).1, fun q hq => (D_iff.mp h).2 q (p.mem_iff.mpr hq)⟩
theorem P_part {D : va_G} {cl : List vw_C} {X X' pl : va_W} {H : Heap} (h : va_P D cl (X ++ pl) H) (is : List Nat) (hs : is.map (fun i => X[i]?) = X'.map some) : va_P D cl (X' ++ pl) H := h.by _ (fun k q hk => va_part is hs k q hk)
section FRAME
variable {p : Program} {l : Launch} {e : Env} {R : Room} {s : State} {m : MethodId} {args : Array Value} {below : List Frame} {meth : Method} {c : Code} {H : Heap} {locs : List Loc} {cells slots : Nat} {Q : State → Prop}
variable {pc : Nat} {ls : Array Slot} {rest st0 : List Value} {g : Gx} {X wc wr pl : va_W} {A : Nat → Prop} {mc ms : Nat} {a : Array Value}
theorem freeQ {ws : va_W} {H0 : Heap} (hD : va_D A (X ++ pl)) (hS : va_S A H0 H locs) (hA : ∀ q, H0.size ≤ q → A q) (isC : List Nat) (hC : isC.map (fun i => X[i]?) = wc.map some) : ∀ q, va_A wc H.size q → A q := by
  intro q hq
  rcases hq with ⟨k, e, hk⟩ | h
  · obtain ⟨j, _, h6⟩ := va_in_of isC hC hk
    have hj : j < X.length := (List.getElem?_eq_some_iff.mp h6).1
    exact hD.2 j (q, e) (by rw [List.getElem?_append_left hj]; exact h6)
  · exact hA q (Nat.le_trans hS.1 h)
theorem kIq {post : Int32 → va_W → Prop} (hr : va_Run p l e R s m args below meth c H locs cells slots mc ms (F0 m pc ls st0) rest (QI g (va_A wc H.size) post a) (va_A wc H.size)) (hP : va_P g.1 vwCl (X ++ pl) H) (hD : va_D A (X ++ pl)) (hS : va_S A s.heap H locs) (hA : ∀ q, s.heap.size ≤ q → A q) (isC isR : List Nat) (hC : isC.map (fun i => X[i]?) = wc.map some) (hR : isR.map (fun i => X[i]?) = wr.map some) (hn : va_nd isR = true) (hdis : ∀ i ∈ isR, i ∉ isC)
    (kk : ∀ (r : Int32) (W' : va_W) (H1 : Heap) (locs1 : List Loc), post r W' → va_P g.1 vwCl ((wr ++ W') ++ pl) H1 → va_D A ((wr ++ W') ++ pl) → va_S A s.heap H1 locs1 → W p l e R s m args below meth c H1 locs1 (cells + mc) (slots + ms) Q (F0 m (pc + 3) ls (.int r :: rest))) : W p l e R s m args below meth c H locs cells slots Q (F0 m pc ls st0) := by
  have hFc := freeQ (ws := X) (wc := wc) hD hS hA isC hC
  refine va_calli hr hS (fun q _ h => hFc q h) hFc (fun r u t H1 locs1 ht hvm hw hB hz1 hk1 hS1 => ?_)
  obtain ⟨hP1, hD1⟩ := hB
  rw [ht] at hP1
  obtain ⟨hP2, hD2⟩ := va_joinQ (wr := wr) (w1 := u) hP hD isC isR hC hR hn hdis hk1 hFc hP1 hD1
  exact kk r u H1 locs1 hw hP2 hD2 hS1
theorem kVq {post : va_W → Prop} (hr : va_Run p l e R s m args below meth c H locs cells slots mc ms (F0 m pc ls st0) rest (QV g (va_A wc H.size) post a) (va_A wc H.size)) (hP : va_P g.1 vwCl (X ++ pl) H) (hD : va_D A (X ++ pl)) (hS : va_S A s.heap H locs) (hA : ∀ q, s.heap.size ≤ q → A q) (isC isR : List Nat) (hC : isC.map (fun i => X[i]?) = wc.map some) (hR : isR.map (fun i => X[i]?) = wr.map some) (hn : va_nd isR = true) (hdis : ∀ i ∈ isR, i ∉ isC)
    (kk : ∀ (W' : va_W) (H1 : Heap) (locs1 : List Loc), post W' → va_P g.1 vwCl ((wr ++ W') ++ pl) H1 → va_D A ((wr ++ W') ++ pl) → va_S A s.heap H1 locs1 → W p l e R s m args below meth c H1 locs1 (cells + mc) (slots + ms) Q (F0 m (pc + 3) ls rest)) : W p l e R s m args below meth c H locs cells slots Q (F0 m pc ls st0) := by
  have hFc := freeQ (ws := X) (wc := wc) hD hS hA isC hC
  refine va_callv hr hS (fun q _ h => hFc q h) hFc (fun u t H1 locs1 ht hvm hw hB hz1 hk1 hS1 => ?_)
  obtain ⟨hP1, hD1⟩ := hB
  rw [ht] at hP1
  obtain ⟨hP2, hD2⟩ := va_joinQ (wr := wr) (w1 := u) hP hD isC isR hC hR hn hdis hk1 hFc hP1 hD1
  exact kk u H1 locs1 hw hP2 hD2 hS1
end FRAME
/-- a State's six cells; its order -/
def STP (g : Gx) (a : Nat) (fo : Nat → Int32) (W : va_W) : Prop := ∃ (ao ar ac ah ag : Nat) (fr fc fh fg : Nat → Int32) (up day seed first : Int32) (sd : Nat), W = [(a, .inr (7, [.ref ao, .ref ar, .ref ac, .ref ah, .ref ag, .int up, .int (nI sd), .int day, .int seed, .int first])), (ao, .inl (gI g, 5, .inl fo)), (ar, .inl (gI g, 5, .inl fr)), (ac, .inl (gI g, 5, .inl fc)), (ah, .inl (gI g, 5, .inl fh)), (ag, .inl (gI g, 5, .inl fg))] ∧ TN 5 4 fo ∧ TM 5 4 fh ∧ TM 5 4 fg ∧ sd ≤ 8
/-- a row of States, each with what its order must be -/
def PLS (g : Gx) (f : Nat → Option Nat) (F : Nat → (Nat → Int32) → Prop) : Nat → va_W → Prop
  | 0, W => W = []
  | k + 1, W => ∃ (W1 W2 : va_W) (a : Nat) (fo : Nat → Int32), W = W1 ++ W2 ∧ PLS g f F k W1 ∧ f k = some a ∧ STP g a fo W2 ∧ F k fo
theorem PLS_mono {g : Gx} {f : Nat → Option Nat} {F F' : Nat → (Nat → Int32) → Prop} {k : Nat} {W : va_W} (h : PLS g f F k W) (hF : ∀ i fo, i < k → F i fo → F' i fo) : PLS g f F' k W := by
  induction k generalizing W with
  | zero => exact h
  | succ k ih =>
    obtain ⟨W1, W2, a, fo, e, h1, h2, h3, h4⟩ := h
    exact ⟨W1, W2, a, fo, e, ih h1 (fun i fo hi => hF i fo (by omega)), h2, h3, hF k fo (by omega) h4⟩
theorem PLS_get {g : Gx} {f : Nat → Option Nat} {F : Nat → (Nat → Int32) → Prop} {k : Nat} {W : va_W} (h : PLS g f F k W) (j : Nat) (hj : j < k) : ∃ (a : Nat) (fo : Nat → Int32) (Wj Wr : va_W), List.Perm W (Wj ++ Wr) ∧ f j = some a ∧ STP g a fo Wj ∧ F j fo ∧
    ∀ (fo' : Nat → Int32) (Wj' : va_W) (F' : Nat → (Nat → Int32) → Prop), STP g a fo' Wj' → F' j fo' → (∀ i fo, i < k → i ≠ j → F i fo → F' i fo) → ∃ W', List.Perm (Wj' ++ Wr) W' ∧ PLS g f F' k W' := by
  induction k generalizing W with
  | zero => omega
  | succ k ih =>
    obtain ⟨W1, W2, a, fo, rfl, h1, h2, h3, h4⟩ := h
    by_cases e : j = k
    · subst e
      refine ⟨a, fo, W2, W1, List.perm_append_comm, h2, h3, h4, fun fo' Wj' F' h5 h6 h7 => ⟨W1 ++ Wj', List.perm_append_comm, W1, Wj', a, fo', rfl, PLS_mono h1 (fun i fo hi hq => h7 i fo (by omega) (by omega) hq), h2, h5, h6⟩⟩
    · obtain ⟨b, fb, Wj, Wr, p1, p2, p3, p4, p5⟩ := ih h1 (by omega)
      refine ⟨b, fb, Wj, Wr ++ W2, by rw [← List.append_assoc]; exact p1.append_right W2, p2, p3, p4, fun fo' Wj' F' h5 h6 h7 => ?_⟩
      obtain ⟨W', q1, q2⟩ := p5 fo' Wj' F' h5 h6 (fun i fo hi hne hq => h7 i fo (by omega) hne hq)
      exact ⟨W' ++ W2, by rw [← List.append_assoc]; exact q1.append_right W2, W', W2, a, fo, rfl, q2, h2, h3, h7 k fo (by omega) (fun q => e q.symm) h4⟩
