theorem sw_0 {P : Nat → Prop} (h : P 0) : ∀ v, v ≤ 0 → P v := fun v hv => by rw [Nat.le_zero.mp hv]; exact h
theorem sw_s {P : Nat → Prop} {n : Nat} (h : ∀ v, v ≤ n → P v) (h1 : P (n + 1)) : ∀ v, v ≤ n + 1 → P v := fun v hv => by
  rcases Nat.lt_or_ge n v with q | q
  · rw [show v = n + 1 by omega]; exact h1
  · exact h v q
set_option maxHeartbeats 40000000 in
set_option maxRecDepth 100000 in
theorem whole_start {p : Program} {e : Env} {s : State} {m : MethodId} {below : List Frame} {meth : Method} {c : Code} (l : Launch) (hflags : l.flags = flags0) {b L : Nat} {xs : Nat → Int32} (hL : L ≤ 6) (C0 : lw_At p s m meth c b L xs) : W p l e room_1 s m #[Value.ref b] below meth c s.heap [] 0 0 (lw_Z below #[Value.ref b] s) (entryFrame m ([Value.ref b] : List Value).toArray 4) := by
  obtain ⟨hx, hb, hr, hml, hown, hts0, hX, hbl, hlocks, hgv⟩ := id C0
  obtain ⟨g, hE⟩ := law_ev hts0
  obtain ⟨A, hAe⟩ : ∃ A : Nat → Prop, A = fun q => s.heap.size ≤ q := ⟨_, rfl⟩
  have hA : ∀ q : Nat, s.heap.size ≤ q → A q := fun q h => by rw [hAe]; exact h
  have hAl : ∀ q : Nat, A q → s.heap.size ≤ q := fun q h => by rw [hAe] at h; exact h
  have hbA : ¬ A b := fun h => absurd (hAl b h) (Nat.not_le.mpr hbl)
  obtain ⟨z, hF⟩ := law_sf (A := A) hts0 hgv (fun a h1 h2 => absurd (hAl a h2) (Nat.not_le.mpr h1))
  have hb : c.code = cL_law := hb
  have hown : s.vm.findClass RL = some m.cls := hown
  have hts : ∀ w ∈ wsL_law, w.before #[Value.ref b] s = true := fun w h => hts0 w (wsL_law_in w h)
  have hcx : Cx p s m #[Value.ref b] meth c cL_law 4 ret RL meth.name g := ⟨hx, hb, hml, hr, hlocks, hown, hts, hE, rfl⟩
  have hK := hE.1
  have hl := lv_entry ([.ref b]) (n := 4) (Nat.le_of_ble_eq_true rfl)
  rw [lg_entry_eq]
  generalize (lg_sl ([.ref b]) ++ List.replicate (4 - (lg_sl ([.ref b])).length) Slot.unset).toArray = ls at hl ⊢
  have hl : lv_has ls 4 [(0, .ref b)] := hl
  suffices key : ∀ (H : Heap) (locs : List Loc), va_S A s.heap H locs → va_P g.1 vwCl [] H → va_D A [] → W p l e room_1 s m #[Value.ref b] below meth c H locs 0 0 (lw_Z below #[Value.ref b] s) (F0 m 0 ls []) from key s.heap [] va_S.rf (fun k q h => by simp at h) ⟨fun i j p q h => by simp at h, fun k q h => by simp at h⟩
  intro H locs hS hP hD
  refine va_new (ci := 10) (fs := [.null, .int 0, .null, .null, .null, .null, .null, .null, .null, .null, .null, .null, .null, .int 0]) (C := RX10) (T := TX10) (N := 14) hx hb hts inlX10 tyX10 tyX10_ok hown (hts _ q1_0) (hts _ q1_1) (hts _ q1_2) hK hP hD hS hA rfl (by decide +kernel) (Nat.le_of_ble_eq_true rfl) (Nat.le_of_ble_eq_true rfl) dL_law_0 (fun q1 H hP hD hS => ?_)
  have hP : va_P g.1 vwCl [(q1, .inr (10, [.null, .int 0, .null, .null, .null, .null, .null, .null, .null, .null, .null, .null, .null, .int 0]))] H := hP
  have hD : va_D A [(q1, .inr (10, [.null, .int 0, .null, .null, .null, .null, .null, .null, .null, .null, .null, .null, .null, .int 0]))] := hD
  refine lv_dup hx hb dL_law_3 rfl ?_
  refine kV (wc := [(q1, .inr (10, [.null, .int 0, .null, .null, .null, .null, .null, .null, .null, .null, .null, .null, .null, .int 0]))]) (wr := []) (rNs (As := []) (rest := [.ref q1]) hcx hF hS (va_free (wc := [(q1, .inr (10, [.null, .int 0, .null, .null, .null, .null, .null, .null, .null, .null, .null, .null, .null, .int 0]))]) hD hS hA [0] rfl) (c_X10_init H.size) (gdC q1_8) q1_2 q1_6 q1_7 rfl dvX10_init.2 ⟨Nat.le_of_ble_eq_true rfl, Nat.le_of_ble_eq_true rfl⟩ (hP.sub [0] rfl) (hD.sub [0] (by decide) rfl) rfl hl.1 rfl (Nat.le_of_ble_eq_true rfl) dL_law_4 ⟨Nat.le_of_ble_eq_true rfl, Nat.le_of_ble_eq_true rfl⟩) hP hD hS hA [0] [] rfl rfl (by decide) (by decide) (fun W' H locs hw hP hD hS => ?_)
  refine Exists.elim hw (fun q2 hw => ?_)
  refine Exists.elim hw (fun q3 hw => ?_)
  refine Exists.elim hw (fun q4 hw => ?_)
  refine Exists.elim hw (fun q5 hw => ?_)
  refine Exists.elim hw (fun q6 hw => ?_)
  refine Exists.elim hw (fun q7 hw => ?_)
  refine Exists.elim hw (fun q8 hw => ?_)
  refine Exists.elim hw (fun q9 hw => ?_)
  refine Exists.elim hw (fun q10 hw => ?_)
  refine Exists.elim hw (fun q11 hw => ?_)
  refine Exists.elim hw (fun q12 hw => ?_)
  refine Exists.elim hw (fun q13 hw => ?_)
  refine Exists.elim hw (fun q14 hw => ?_)
  refine Exists.elim hw (fun q15 hw => ?_)
  refine Exists.elim hw (fun q16 hw => ?_)
  refine Exists.elim hw (fun q17 hw => ?_)
  refine Exists.elim hw (fun q18 hw => ?_)
  refine Exists.elim hw (fun q19 hw => ?_)
  refine Exists.elim hw (fun q20 hw => ?_)
  refine Exists.elim hw (fun q21 hw => ?_)
  refine Exists.elim hw (fun q22 hw => ?_)
  refine Exists.elim hw (fun q23 hw => ?_)
  refine Exists.elim hw (fun q24 hw => ?_)
  refine Exists.elim hw (fun q25 hw => ?_)
  refine Exists.elim hw (fun q26 hw => ?_)
  refine Exists.elim hw (fun q27 hw => ?_)
  refine Exists.elim hw (fun q28 hw => ?_)
  refine Exists.elim hw (fun q29 hw => ?_)
  refine Exists.elim hw (fun q30 hw => ?_)
  refine Exists.elim hw (fun q31 hw => ?_)
  refine Exists.elim hw (fun q32 hw => ?_)
  refine Exists.elim hw (fun q33 hw => ?_)
  refine Exists.elim hw (fun q34 hw => ?_)
  refine Exists.elim hw (fun q35 hw => ?_)
  refine Exists.elim hw (fun q36 hw => ?_)
  refine Exists.elim hw (fun q37 hw => ?_)
  refine Exists.elim hw (fun q38 hw => ?_)
  refine Exists.elim hw (fun q39 hw => ?_)
  refine Exists.elim hw (fun q40 hw => ?_)
  refine Exists.elim hw (fun q41 hw => ?_)
  refine Exists.elim hw (fun q42 hw => ?_)
  refine Exists.elim hw (fun q43 hw => ?_)
  refine Exists.elim hw (fun q44 hw => ?_)
  refine Exists.elim hw (fun q45 hw => ?_)
  refine Exists.elim hw (fun q46 hw => ?_)
  refine Exists.elim hw (fun q47 hw => ?_)
  refine Exists.elim hw (fun q48 hw => ?_)
  refine Exists.elim hw (fun q49 hw => ?_)
  refine Exists.elim hw (fun q50 hw => ?_)
  refine Exists.elim hw (fun q51 hw => ?_)
  refine Exists.elim hw (fun q52 hw => ?_)
  refine Exists.elim hw (fun q53 hw => ?_)
  refine Exists.elim hw (fun q54 hw => ?_)
  refine Exists.elim hw (fun q55 hw => ?_)
  refine Exists.elim hw (fun q56 hw => ?_)
  refine Exists.elim hw (fun q57 hw => ?_)
  refine Exists.elim hw (fun q58 hw => ?_)
  refine Exists.elim hw (fun q59 hw => ?_)
  refine Exists.elim hw (fun q60 hw => ?_)
  refine Exists.elim hw (fun q61 hw => ?_)
  refine Exists.elim hw (fun q62 hw => ?_)
  refine Exists.elim hw (fun q63 hw => ?_)
  refine Exists.elim hw (fun q64 hw => ?_)
  refine Exists.elim hw (fun q65 hw => ?_)
  refine Exists.elim hw (fun q66 hw => ?_)
  refine Exists.elim hw (fun q67 hw => ?_)
  refine Exists.elim hw (fun q68 hw => ?_)
  refine Exists.elim hw (fun q69 hw => ?_)
  refine Exists.elim hw (fun q70 hw => ?_)
  refine Exists.elim hw (fun q71 hw => ?_)
  refine Exists.elim hw (fun q72 hw => ?_)
  refine Exists.elim hw (fun q73 hw => ?_)
  refine Exists.elim hw (fun q74 hw => ?_)
  refine Exists.elim hw (fun q75 hw => ?_)
  refine Exists.elim hw (fun q76 hw => ?_)
  refine Exists.elim hw (fun q77 hw => ?_)
  refine Exists.elim hw (fun q78 hw => ?_)
  refine Exists.elim hw (fun q79 hw => ?_)
  refine Exists.elim hw (fun q80 hw => ?_)
  refine Exists.elim hw (fun q81 hw => ?_)
  refine Exists.elim hw (fun q82 hw => ?_)
  refine Exists.elim hw (fun q83 hw => ?_)
  refine Exists.elim hw (fun q84 hw => ?_)
  refine Exists.elim hw (fun q85 hw => ?_)
  refine Exists.elim hw (fun q86 hw => ?_)
  refine Exists.elim hw (fun f87 hw => ?_)
  refine Exists.elim hw (fun q88 hw => ?_)
  refine Exists.elim hw (fun q89 hw => ?_)
  refine Exists.elim hw (fun f90 hw => ?_)
  refine Exists.elim hw (fun f91 hw => ?_)
  refine Exists.elim hw (fun f92 hw => ?_)
  refine Exists.elim hw (fun f93 hw => ?_)
  refine Exists.elim hw (fun f94 hw => ?_)
  refine Exists.elim hw (fun f95 hw => ?_)
  refine Exists.elim hw (fun q96 hw => ?_)
  refine Exists.elim hw (fun q97 hw => ?_)
  refine Exists.elim hw (fun q98 hw => ?_)
  refine Exists.elim hw (fun q99 hw => ?_)
  refine Exists.elim hw (fun q100 hw => ?_)
  refine Exists.elim hw (fun f101 hw => ?_)
  refine Exists.elim hw (fun f102 hw => ?_)
  refine Exists.elim hw (fun f103 hw => ?_)
  refine Exists.elim hw (fun f104 hw => ?_)
  refine Exists.elim hw (fun f105 hw => ?_)
  refine Exists.elim hw (fun f106 hw => ?_)
  refine Exists.elim hw (fun f107 hw => ?_)
  refine Exists.elim hw (fun f108 hw => ?_)
  refine Exists.elim hw (fun f109 hw => ?_)
  refine Exists.elim hw (fun f110 hw => ?_)
  refine Exists.elim hw (fun f111 hw => ?_)
  refine Exists.elim hw (fun f112 hw => ?_)
  refine Exists.elim hw (fun f113 hw => ?_)
  refine Exists.elim hw (fun f114 hw => ?_)
  refine Exists.elim hw (fun f115 hw => ?_)
  refine Exists.elim hw (fun f116 hw => ?_)
  refine Exists.elim hw (fun f117 hw => ?_)
  refine Exists.elim hw (fun f118 hw => ?_)
  refine Exists.elim hw (fun f119 hw => ?_)
  refine Exists.elim hw (fun f120 hw => ?_)
  refine Exists.elim hw (fun f121 hw => ?_)
  refine Exists.elim hw (fun f122 hw => ?_)
  refine Exists.elim hw (fun f123 hw => ?_)
  refine Exists.elim hw (fun f124 hw => ?_)
  refine Exists.elim hw (fun f125 hw => ?_)
  refine Exists.elim hw (fun f126 hw => ?_)
  refine Exists.elim hw (fun f127 hw => ?_)
  refine Exists.elim hw (fun f128 hw => ?_)
  refine Exists.elim hw (fun q129 hw => ?_)
  refine Exists.elim hw (fun f130 hw => ?_)
  refine Exists.elim hw (fun f131 hw => ?_)
  refine Exists.elim hw (fun q132 hw => ?_)
  refine Exists.elim hw (fun f133 hw => ?_)
  refine Exists.elim hw (fun f134 hw => ?_)
  refine Exists.elim hw (fun q135 hw => ?_)
  refine Exists.elim hw (fun q136 hw => ?_)
  refine Exists.elim hw (fun f137 hw => ?_)
  refine Exists.elim hw (fun f138 hw => ?_)
  refine Exists.elim hw (fun f139 hw => ?_)
  refine Exists.elim hw (fun f140 hw => ?_)
  refine Exists.elim hw (fun f141 hw => ?_)
  refine Exists.elim hw (fun f142 hw => ?_)
  refine Exists.elim hw (fun f143 hw => ?_)
  refine Exists.elim hw (fun f144 hw => ?_)
  refine Exists.elim hw (fun q145 hw => ?_)
  refine Exists.elim hw (fun f146 hw => ?_)
  refine Exists.elim hw (fun f147 hw => ?_)
  refine Exists.elim hw (fun q148 hw => ?_)
  refine Exists.elim hw (fun f149 hw => ?_)
  refine Exists.elim hw (fun f150 hw => ?_)
  refine Exists.elim hw (fun x151 hw => ?_)
  refine Exists.elim hw (fun f152 hw => ?_)
  refine Exists.elim hw (fun f153 hw => ?_)
  refine Exists.elim hw (fun f154 hw => ?_)
  refine Exists.elim hw (fun f155 hw => ?_)
  refine Exists.elim hw (fun f156 hw => ?_)
  refine Exists.elim hw (fun q157 hw => ?_)
  refine Exists.elim hw (fun q158 hw => ?_)
  refine Exists.elim hw (fun f159 hw => ?_)
  refine Exists.elim hw (fun f160 hw => ?_)
  refine Exists.elim hw (fun f161 hw => ?_)
  refine Exists.elim hw (fun x162 hw => ?_)
  refine Exists.elim hw (fun f163 hw => ?_)
  refine Exists.elim hw (fun f164 hw => ?_)
  refine Exists.elim hw (fun f165 hw => ?_)
  refine Exists.elim hw (fun f166 hw => ?_)
  refine Exists.elim hw (fun f167 hw => ?_)
  refine Exists.elim hw (fun q168 hw => ?_)
  refine Exists.elim hw (fun q169 hw => ?_)
  refine Exists.elim hw (fun q170 hw => ?_)
  refine Exists.elim hw (fun q171 hw => ?_)
  refine Exists.elim hw (fun q172 hw => ?_)
  refine Exists.elim hw (fun q173 hw => ?_)
  refine Exists.elim hw (fun q174 hw => ?_)
  refine Exists.elim hw (fun q175 hw => ?_)
  refine Exists.elim hw (fun q176 hw => ?_)
  refine Exists.elim hw (fun q177 hw => ?_)
  refine Exists.elim hw (fun q178 hw => ?_)
  refine Exists.elim hw (fun f179 hw => ?_)
  obtain ⟨rfl, hf180, hf181, hf182, hf183, hf184, hf185, hf186, hf187⟩ := hw
  have hP : va_P g.1 vwCl [(q1, .inr (10, [.ref q2, .int 0, .ref q3, .ref q52, .ref q73, .ref q13, .ref q67, .ref q76, .ref q11, .ref q86, .ref q84, .ref q12, .ref q85, .int 0])), (q2, .inl (gB g, 1600, .inl f87)), (q3, .inr (5, [.ref q4, .int 0, .int 0, .int 0, .int (-1)])), (q4, .inr (8, [.ref q88, .ref q89, .int 0, .int 0, .int 0, .int 0, .int 0, .long 0, .int 0, .int 0])), (q5, .inr (7, [.ref q6, .ref q7, .ref q8, .ref q9, .ref q10, .int 0, .int 0, .int 0, .int 0, .int 0])), (q6, .inl (gI g, 5, .inl f90)), (q7, .inl (gI g, 5, .inl f91)), (q8, .inl (gI g, 5, .inl f92)), (q9, .inl (gI g, 5, .inl f93)), (q10, .inl (gI g, 5, .inl f94)), (q11, .inl (gO g, 3, .inr (.inr (.inr (.inr f95))))), (q12, .inr (4, [.ref q13, .ref q73, .ref q67, .ref q84, .ref q14, .ref q96, .ref q97, .ref q98, .ref q99, .ref q20, .ref q21, .int 0])), (q13, .inr (0, [.ref q73, .ref q100, .int 0, .int 0])), (q14, .inr (7, [.ref q15, .ref q16, .ref q17, .ref q18, .ref q19, .int 0, .int 0, .int 0, .int 0, .int 0])), (q15, .inl (gI g, 5, .inl f101)), (q16, .inl (gI g, 5, .inl f102)), (q17, .inl (gI g, 5, .inl f103)), (q18, .inl (gI g, 5, .inl f104)), (q19, .inl (gI g, 5, .inl f105)), (q20, .inl (gI g, 5, .inl f106)), (q21, .inl (gI g, 5, .inl f107)), (q22, .inr (7, [.ref q23, .ref q24, .ref q25, .ref q26, .ref q27, .int 0, .int 0, .int 0, .int 0, .int 0])), (q23, .inl (gI g, 5, .inl f108)), (q24, .inl (gI g, 5, .inl f109)), (q25, .inl (gI g, 5, .inl f110)), (q26, .inl (gI g, 5, .inl f111)), (q27, .inl (gI g, 5, .inl f112)), (q28, .inr (7, [.ref q29, .ref q30, .ref q31, .ref q32, .ref q33, .int 0, .int 0, .int 0, .int 0, .int 0])), (q29, .inl (gI g, 5, .inl f113)), (q30, .inl (gI g, 5, .inl f114)), (q31, .inl (gI g, 5, .inl f115)), (q32, .inl (gI g, 5, .inl f116)), (q33, .inl (gI g, 5, .inl f117)), (q34, .inr (7, [.ref q35, .ref q36, .ref q37, .ref q38, .ref q39, .int 0, .int 0, .int 0, .int 0, .int 0])), (q35, .inl (gI g, 5, .inl f118)), (q36, .inl (gI g, 5, .inl f119)), (q37, .inl (gI g, 5, .inl f120)), (q38, .inl (gI g, 5, .inl f121)), (q39, .inl (gI g, 5, .inl f122)), (q40, .inl (gI g, 8, .inl f123)), (q41, .inl (gI g, 8, .inl f124)), (q42, .inl (gI g, 8, .inl f125)), (q43, .inl (gI g, 8, .inl f126)), (q44, .inl (gI g, 5, .inl f127)), (q45, .inl (gI g, 5, .inl f128)), (q46, .inr (1, [.ref q47, .ref q48, .ref q129, .int 0, .int 0, .int 0])), (q47, .inl (gI g, 300, .inl f130)), (q48, .inl (gI g, 300, .inl f131)), (q49, .inr (1, [.ref q50, .ref q51, .ref q132, .int 0, .int 0, .int 0])), (q50, .inl (gI g, 300, .inl f133)), (q51, .inl (gI g, 300, .inl f134)), (q52, .inr (9, [.int 0, .int 0, .int 0, .int 0, .int 0, .ref q135, .ref q53, .ref q54, .ref q55, .ref q56, .ref q136, .ref q57, .ref q58, .ref q59, .ref q60, .ref q61, .ref q64])), (q53, .inl (gI g, 8, .inl f137)), (q54, .inl (gI g, 8, .inl f138)), (q55, .inl (gI g, 8, .inl f139)), (q56, .inl (gI g, 8, .inl f140)), (q57, .inl (gI g, 5, .inl f141)), (q58, .inl (gI g, 5, .inl f142)), (q59, .inl (gI g, 5, .inl f143)), (q60, .inl (gI g, 5, .inl f144)), (q61, .inr (1, [.ref q62, .ref q63, .ref q145, .int 0, .int 0, .int 0])), (q62, .inl (gI g, 300, .inl f146)), (q63, .inl (gI g, 300, .inl f147)), (q64, .inr (1, [.ref q65, .ref q66, .ref q148, .int 0, .int 0, .int 0])), (q65, .inl (gI g, 300, .inl f149)), (q66, .inl (gI g, 300, .inl f150)), (q67, .inr (7, [.ref q68, .ref q69, .ref q70, .ref q71, .ref q72, .int 0, .int 0, .int 0, .int 0, .int x151])), (q68, .inl (gI g, 5, .inl f152)), (q69, .inl (gI g, 5, .inl f153)), (q70, .inl (gI g, 5, .inl f154)), (q71, .inl (gI g, 5, .inl f155)), (q72, .inl (gI g, 5, .inl f156)), (q73, .inr (9, [.int 0, .int 0, .int 0, .int 0, .int 0, .ref q157, .ref q40, .ref q41, .ref q42, .ref q43, .ref q158, .ref q44, .ref q75, .ref q45, .ref q74, .ref q46, .ref q49])), (q74, .inl (gI g, 5, .inl f159)), (q75, .inl (gI g, 5, .inl f160)), (q76, .inr (2, [.ref q77, .int 0, .int 0, .int 0])), (q77, .inl (gO g, 41, .inr (.inr (.inr (.inr f161))))), (q78, .inr (7, [.ref q79, .ref q80, .ref q81, .ref q82, .ref q83, .int 0, .int 0, .int 0, .int 0, .int x162])), (q79, .inl (gI g, 5, .inl f163)), (q80, .inl (gI g, 5, .inl f164)), (q81, .inl (gI g, 5, .inl f165)), (q82, .inl (gI g, 5, .inl f166)), (q83, .inl (gI g, 5, .inl f167)), (q84, .inr (3, [.ref q168, .int 0])), (q85, .inr (6, [.ref q13, .ref q169, .ref q170, .ref q171, .ref q172, .ref q173, .ref q174, .ref q175, .ref q176, .ref q177, .ref q178, .int 0, .int 0])), (q86, .inl (gZ g, 3, .inl f179))] H := hP
  have hD : va_D A [(q1, .inr (10, [.ref q2, .int 0, .ref q3, .ref q52, .ref q73, .ref q13, .ref q67, .ref q76, .ref q11, .ref q86, .ref q84, .ref q12, .ref q85, .int 0])), (q2, .inl (gB g, 1600, .inl f87)), (q3, .inr (5, [.ref q4, .int 0, .int 0, .int 0, .int (-1)])), (q4, .inr (8, [.ref q88, .ref q89, .int 0, .int 0, .int 0, .int 0, .int 0, .long 0, .int 0, .int 0])), (q5, .inr (7, [.ref q6, .ref q7, .ref q8, .ref q9, .ref q10, .int 0, .int 0, .int 0, .int 0, .int 0])), (q6, .inl (gI g, 5, .inl f90)), (q7, .inl (gI g, 5, .inl f91)), (q8, .inl (gI g, 5, .inl f92)), (q9, .inl (gI g, 5, .inl f93)), (q10, .inl (gI g, 5, .inl f94)), (q11, .inl (gO g, 3, .inr (.inr (.inr (.inr f95))))), (q12, .inr (4, [.ref q13, .ref q73, .ref q67, .ref q84, .ref q14, .ref q96, .ref q97, .ref q98, .ref q99, .ref q20, .ref q21, .int 0])), (q13, .inr (0, [.ref q73, .ref q100, .int 0, .int 0])), (q14, .inr (7, [.ref q15, .ref q16, .ref q17, .ref q18, .ref q19, .int 0, .int 0, .int 0, .int 0, .int 0])), (q15, .inl (gI g, 5, .inl f101)), (q16, .inl (gI g, 5, .inl f102)), (q17, .inl (gI g, 5, .inl f103)), (q18, .inl (gI g, 5, .inl f104)), (q19, .inl (gI g, 5, .inl f105)), (q20, .inl (gI g, 5, .inl f106)), (q21, .inl (gI g, 5, .inl f107)), (q22, .inr (7, [.ref q23, .ref q24, .ref q25, .ref q26, .ref q27, .int 0, .int 0, .int 0, .int 0, .int 0])), (q23, .inl (gI g, 5, .inl f108)), (q24, .inl (gI g, 5, .inl f109)), (q25, .inl (gI g, 5, .inl f110)), (q26, .inl (gI g, 5, .inl f111)), (q27, .inl (gI g, 5, .inl f112)), (q28, .inr (7, [.ref q29, .ref q30, .ref q31, .ref q32, .ref q33, .int 0, .int 0, .int 0, .int 0, .int 0])), (q29, .inl (gI g, 5, .inl f113)), (q30, .inl (gI g, 5, .inl f114)), (q31, .inl (gI g, 5, .inl f115)), (q32, .inl (gI g, 5, .inl f116)), (q33, .inl (gI g, 5, .inl f117)), (q34, .inr (7, [.ref q35, .ref q36, .ref q37, .ref q38, .ref q39, .int 0, .int 0, .int 0, .int 0, .int 0])), (q35, .inl (gI g, 5, .inl f118)), (q36, .inl (gI g, 5, .inl f119)), (q37, .inl (gI g, 5, .inl f120)), (q38, .inl (gI g, 5, .inl f121)), (q39, .inl (gI g, 5, .inl f122)), (q40, .inl (gI g, 8, .inl f123)), (q41, .inl (gI g, 8, .inl f124)), (q42, .inl (gI g, 8, .inl f125)), (q43, .inl (gI g, 8, .inl f126)), (q44, .inl (gI g, 5, .inl f127)), (q45, .inl (gI g, 5, .inl f128)), (q46, .inr (1, [.ref q47, .ref q48, .ref q129, .int 0, .int 0, .int 0])), (q47, .inl (gI g, 300, .inl f130)), (q48, .inl (gI g, 300, .inl f131)), (q49, .inr (1, [.ref q50, .ref q51, .ref q132, .int 0, .int 0, .int 0])), (q50, .inl (gI g, 300, .inl f133)), (q51, .inl (gI g, 300, .inl f134)), (q52, .inr (9, [.int 0, .int 0, .int 0, .int 0, .int 0, .ref q135, .ref q53, .ref q54, .ref q55, .ref q56, .ref q136, .ref q57, .ref q58, .ref q59, .ref q60, .ref q61, .ref q64])), (q53, .inl (gI g, 8, .inl f137)), (q54, .inl (gI g, 8, .inl f138)), (q55, .inl (gI g, 8, .inl f139)), (q56, .inl (gI g, 8, .inl f140)), (q57, .inl (gI g, 5, .inl f141)), (q58, .inl (gI g, 5, .inl f142)), (q59, .inl (gI g, 5, .inl f143)), (q60, .inl (gI g, 5, .inl f144)), (q61, .inr (1, [.ref q62, .ref q63, .ref q145, .int 0, .int 0, .int 0])), (q62, .inl (gI g, 300, .inl f146)), (q63, .inl (gI g, 300, .inl f147)), (q64, .inr (1, [.ref q65, .ref q66, .ref q148, .int 0, .int 0, .int 0])), (q65, .inl (gI g, 300, .inl f149)), (q66, .inl (gI g, 300, .inl f150)), (q67, .inr (7, [.ref q68, .ref q69, .ref q70, .ref q71, .ref q72, .int 0, .int 0, .int 0, .int 0, .int x151])), (q68, .inl (gI g, 5, .inl f152)), (q69, .inl (gI g, 5, .inl f153)), (q70, .inl (gI g, 5, .inl f154)), (q71, .inl (gI g, 5, .inl f155)), (q72, .inl (gI g, 5, .inl f156)), (q73, .inr (9, [.int 0, .int 0, .int 0, .int 0, .int 0, .ref q157, .ref q40, .ref q41, .ref q42, .ref q43, .ref q158, .ref q44, .ref q75, .ref q45, .ref q74, .ref q46, .ref q49])), (q74, .inl (gI g, 5, .inl f159)), (q75, .inl (gI g, 5, .inl f160)), (q76, .inr (2, [.ref q77, .int 0, .int 0, .int 0])), (q77, .inl (gO g, 41, .inr (.inr (.inr (.inr f161))))), (q78, .inr (7, [.ref q79, .ref q80, .ref q81, .ref q82, .ref q83, .int 0, .int 0, .int 0, .int 0, .int x162])), (q79, .inl (gI g, 5, .inl f163)), (q80, .inl (gI g, 5, .inl f164)), (q81, .inl (gI g, 5, .inl f165)), (q82, .inl (gI g, 5, .inl f166)), (q83, .inl (gI g, 5, .inl f167)), (q84, .inr (3, [.ref q168, .int 0])), (q85, .inr (6, [.ref q13, .ref q169, .ref q170, .ref q171, .ref q172, .ref q173, .ref q174, .ref q175, .ref q176, .ref q177, .ref q178, .int 0, .int 0])), (q86, .inl (gZ g, 3, .inl f179))] := hD
  refine lv_astore_n (lv' := [(1, .ref q1), (0, .ref b)]) hx hb dL_law_7 rfl hl (by decide) rfl (fun ls hl => ?_)
  refine va_new (ci := 11) (fs := [.null, .null, .int 0, .int 0, .int 0, .int 0, .int 0, .int 0, .int 0, .int 0, .long 0, .null, .null, .null, .null, .null, .null, .null, .null, .null, .null, .null, .null, .null, .null, .null, .null, .null, .null, .null, .null, .null, .null, .null, .int 0, .int 0, .int 0, .int 0, .int 0, .int 0, .int 0, .int 0, .int 0, .int 0, .int 0, .int 0, .null, .int 0, .null, .int 0, .int 0, .null, .null, .null, .int 0, .null, .null, .null, .null, .null, .null, .null, .null, .null, .null, .int 0, .int 0, .null, .null]) (C := RX11) (T := TX11) (N := 69) hx hb hts inlX11 tyX11 tyX11_ok hown (hts _ q1_3) (hts _ q1_4) (hts _ q1_5) hK hP hD hS hA rfl (by decide +kernel) (Nat.le_of_ble_eq_true rfl) (Nat.le_of_ble_eq_true rfl) dL_law_8 (fun q188 H hP hD hS => ?_)
  have hP : va_P g.1 vwCl [(q1, .inr (10, [.ref q2, .int 0, .ref q3, .ref q52, .ref q73, .ref q13, .ref q67, .ref q76, .ref q11, .ref q86, .ref q84, .ref q12, .ref q85, .int 0])), (q2, .inl (gB g, 1600, .inl f87)), (q3, .inr (5, [.ref q4, .int 0, .int 0, .int 0, .int (-1)])), (q4, .inr (8, [.ref q88, .ref q89, .int 0, .int 0, .int 0, .int 0, .int 0, .long 0, .int 0, .int 0])), (q5, .inr (7, [.ref q6, .ref q7, .ref q8, .ref q9, .ref q10, .int 0, .int 0, .int 0, .int 0, .int 0])), (q6, .inl (gI g, 5, .inl f90)), (q7, .inl (gI g, 5, .inl f91)), (q8, .inl (gI g, 5, .inl f92)), (q9, .inl (gI g, 5, .inl f93)), (q10, .inl (gI g, 5, .inl f94)), (q11, .inl (gO g, 3, .inr (.inr (.inr (.inr f95))))), (q12, .inr (4, [.ref q13, .ref q73, .ref q67, .ref q84, .ref q14, .ref q96, .ref q97, .ref q98, .ref q99, .ref q20, .ref q21, .int 0])), (q13, .inr (0, [.ref q73, .ref q100, .int 0, .int 0])), (q14, .inr (7, [.ref q15, .ref q16, .ref q17, .ref q18, .ref q19, .int 0, .int 0, .int 0, .int 0, .int 0])), (q15, .inl (gI g, 5, .inl f101)), (q16, .inl (gI g, 5, .inl f102)), (q17, .inl (gI g, 5, .inl f103)), (q18, .inl (gI g, 5, .inl f104)), (q19, .inl (gI g, 5, .inl f105)), (q20, .inl (gI g, 5, .inl f106)), (q21, .inl (gI g, 5, .inl f107)), (q22, .inr (7, [.ref q23, .ref q24, .ref q25, .ref q26, .ref q27, .int 0, .int 0, .int 0, .int 0, .int 0])), (q23, .inl (gI g, 5, .inl f108)), (q24, .inl (gI g, 5, .inl f109)), (q25, .inl (gI g, 5, .inl f110)), (q26, .inl (gI g, 5, .inl f111)), (q27, .inl (gI g, 5, .inl f112)), (q28, .inr (7, [.ref q29, .ref q30, .ref q31, .ref q32, .ref q33, .int 0, .int 0, .int 0, .int 0, .int 0])), (q29, .inl (gI g, 5, .inl f113)), (q30, .inl (gI g, 5, .inl f114)), (q31, .inl (gI g, 5, .inl f115)), (q32, .inl (gI g, 5, .inl f116)), (q33, .inl (gI g, 5, .inl f117)), (q34, .inr (7, [.ref q35, .ref q36, .ref q37, .ref q38, .ref q39, .int 0, .int 0, .int 0, .int 0, .int 0])), (q35, .inl (gI g, 5, .inl f118)), (q36, .inl (gI g, 5, .inl f119)), (q37, .inl (gI g, 5, .inl f120)), (q38, .inl (gI g, 5, .inl f121)), (q39, .inl (gI g, 5, .inl f122)), (q40, .inl (gI g, 8, .inl f123)), (q41, .inl (gI g, 8, .inl f124)), (q42, .inl (gI g, 8, .inl f125)), (q43, .inl (gI g, 8, .inl f126)), (q44, .inl (gI g, 5, .inl f127)), (q45, .inl (gI g, 5, .inl f128)), (q46, .inr (1, [.ref q47, .ref q48, .ref q129, .int 0, .int 0, .int 0])), (q47, .inl (gI g, 300, .inl f130)), (q48, .inl (gI g, 300, .inl f131)), (q49, .inr (1, [.ref q50, .ref q51, .ref q132, .int 0, .int 0, .int 0])), (q50, .inl (gI g, 300, .inl f133)), (q51, .inl (gI g, 300, .inl f134)), (q52, .inr (9, [.int 0, .int 0, .int 0, .int 0, .int 0, .ref q135, .ref q53, .ref q54, .ref q55, .ref q56, .ref q136, .ref q57, .ref q58, .ref q59, .ref q60, .ref q61, .ref q64])), (q53, .inl (gI g, 8, .inl f137)), (q54, .inl (gI g, 8, .inl f138)), (q55, .inl (gI g, 8, .inl f139)), (q56, .inl (gI g, 8, .inl f140)), (q57, .inl (gI g, 5, .inl f141)), (q58, .inl (gI g, 5, .inl f142)), (q59, .inl (gI g, 5, .inl f143)), (q60, .inl (gI g, 5, .inl f144)), (q61, .inr (1, [.ref q62, .ref q63, .ref q145, .int 0, .int 0, .int 0])), (q62, .inl (gI g, 300, .inl f146)), (q63, .inl (gI g, 300, .inl f147)), (q64, .inr (1, [.ref q65, .ref q66, .ref q148, .int 0, .int 0, .int 0])), (q65, .inl (gI g, 300, .inl f149)), (q66, .inl (gI g, 300, .inl f150)), (q67, .inr (7, [.ref q68, .ref q69, .ref q70, .ref q71, .ref q72, .int 0, .int 0, .int 0, .int 0, .int x151])), (q68, .inl (gI g, 5, .inl f152)), (q69, .inl (gI g, 5, .inl f153)), (q70, .inl (gI g, 5, .inl f154)), (q71, .inl (gI g, 5, .inl f155)), (q72, .inl (gI g, 5, .inl f156)), (q73, .inr (9, [.int 0, .int 0, .int 0, .int 0, .int 0, .ref q157, .ref q40, .ref q41, .ref q42, .ref q43, .ref q158, .ref q44, .ref q75, .ref q45, .ref q74, .ref q46, .ref q49])), (q74, .inl (gI g, 5, .inl f159)), (q75, .inl (gI g, 5, .inl f160)), (q76, .inr (2, [.ref q77, .int 0, .int 0, .int 0])), (q77, .inl (gO g, 41, .inr (.inr (.inr (.inr f161))))), (q78, .inr (7, [.ref q79, .ref q80, .ref q81, .ref q82, .ref q83, .int 0, .int 0, .int 0, .int 0, .int x162])), (q79, .inl (gI g, 5, .inl f163)), (q80, .inl (gI g, 5, .inl f164)), (q81, .inl (gI g, 5, .inl f165)), (q82, .inl (gI g, 5, .inl f166)), (q83, .inl (gI g, 5, .inl f167)), (q84, .inr (3, [.ref q168, .int 0])), (q85, .inr (6, [.ref q13, .ref q169, .ref q170, .ref q171, .ref q172, .ref q173, .ref q174, .ref q175, .ref q176, .ref q177, .ref q178, .int 0, .int 0])), (q86, .inl (gZ g, 3, .inl f179)), (q188, .inr (11, [.null, .null, .int 0, .int 0, .int 0, .int 0, .int 0, .int 0, .int 0, .int 0, .long 0, .null, .null, .null, .null, .null, .null, .null, .null, .null, .null, .null, .null, .null, .null, .null, .null, .null, .null, .null, .null, .null, .null, .null, .int 0, .int 0, .int 0, .int 0, .int 0, .int 0, .int 0, .int 0, .int 0, .int 0, .int 0, .int 0, .null, .int 0, .null, .int 0, .int 0, .null, .null, .null, .int 0, .null, .null, .null, .null, .null, .null, .null, .null, .null, .null, .int 0, .int 0, .null, .null]))] H := hP
  have hD : va_D A [(q1, .inr (10, [.ref q2, .int 0, .ref q3, .ref q52, .ref q73, .ref q13, .ref q67, .ref q76, .ref q11, .ref q86, .ref q84, .ref q12, .ref q85, .int 0])), (q2, .inl (gB g, 1600, .inl f87)), (q3, .inr (5, [.ref q4, .int 0, .int 0, .int 0, .int (-1)])), (q4, .inr (8, [.ref q88, .ref q89, .int 0, .int 0, .int 0, .int 0, .int 0, .long 0, .int 0, .int 0])), (q5, .inr (7, [.ref q6, .ref q7, .ref q8, .ref q9, .ref q10, .int 0, .int 0, .int 0, .int 0, .int 0])), (q6, .inl (gI g, 5, .inl f90)), (q7, .inl (gI g, 5, .inl f91)), (q8, .inl (gI g, 5, .inl f92)), (q9, .inl (gI g, 5, .inl f93)), (q10, .inl (gI g, 5, .inl f94)), (q11, .inl (gO g, 3, .inr (.inr (.inr (.inr f95))))), (q12, .inr (4, [.ref q13, .ref q73, .ref q67, .ref q84, .ref q14, .ref q96, .ref q97, .ref q98, .ref q99, .ref q20, .ref q21, .int 0])), (q13, .inr (0, [.ref q73, .ref q100, .int 0, .int 0])), (q14, .inr (7, [.ref q15, .ref q16, .ref q17, .ref q18, .ref q19, .int 0, .int 0, .int 0, .int 0, .int 0])), (q15, .inl (gI g, 5, .inl f101)), (q16, .inl (gI g, 5, .inl f102)), (q17, .inl (gI g, 5, .inl f103)), (q18, .inl (gI g, 5, .inl f104)), (q19, .inl (gI g, 5, .inl f105)), (q20, .inl (gI g, 5, .inl f106)), (q21, .inl (gI g, 5, .inl f107)), (q22, .inr (7, [.ref q23, .ref q24, .ref q25, .ref q26, .ref q27, .int 0, .int 0, .int 0, .int 0, .int 0])), (q23, .inl (gI g, 5, .inl f108)), (q24, .inl (gI g, 5, .inl f109)), (q25, .inl (gI g, 5, .inl f110)), (q26, .inl (gI g, 5, .inl f111)), (q27, .inl (gI g, 5, .inl f112)), (q28, .inr (7, [.ref q29, .ref q30, .ref q31, .ref q32, .ref q33, .int 0, .int 0, .int 0, .int 0, .int 0])), (q29, .inl (gI g, 5, .inl f113)), (q30, .inl (gI g, 5, .inl f114)), (q31, .inl (gI g, 5, .inl f115)), (q32, .inl (gI g, 5, .inl f116)), (q33, .inl (gI g, 5, .inl f117)), (q34, .inr (7, [.ref q35, .ref q36, .ref q37, .ref q38, .ref q39, .int 0, .int 0, .int 0, .int 0, .int 0])), (q35, .inl (gI g, 5, .inl f118)), (q36, .inl (gI g, 5, .inl f119)), (q37, .inl (gI g, 5, .inl f120)), (q38, .inl (gI g, 5, .inl f121)), (q39, .inl (gI g, 5, .inl f122)), (q40, .inl (gI g, 8, .inl f123)), (q41, .inl (gI g, 8, .inl f124)), (q42, .inl (gI g, 8, .inl f125)), (q43, .inl (gI g, 8, .inl f126)), (q44, .inl (gI g, 5, .inl f127)), (q45, .inl (gI g, 5, .inl f128)), (q46, .inr (1, [.ref q47, .ref q48, .ref q129, .int 0, .int 0, .int 0])), (q47, .inl (gI g, 300, .inl f130)), (q48, .inl (gI g, 300, .inl f131)), (q49, .inr (1, [.ref q50, .ref q51, .ref q132, .int 0, .int 0, .int 0])), (q50, .inl (gI g, 300, .inl f133)), (q51, .inl (gI g, 300, .inl f134)), (q52, .inr (9, [.int 0, .int 0, .int 0, .int 0, .int 0, .ref q135, .ref q53, .ref q54, .ref q55, .ref q56, .ref q136, .ref q57, .ref q58, .ref q59, .ref q60, .ref q61, .ref q64])), (q53, .inl (gI g, 8, .inl f137)), (q54, .inl (gI g, 8, .inl f138)), (q55, .inl (gI g, 8, .inl f139)), (q56, .inl (gI g, 8, .inl f140)), (q57, .inl (gI g, 5, .inl f141)), (q58, .inl (gI g, 5, .inl f142)), (q59, .inl (gI g, 5, .inl f143)), (q60, .inl (gI g, 5, .inl f144)), (q61, .inr (1, [.ref q62, .ref q63, .ref q145, .int 0, .int 0, .int 0])), (q62, .inl (gI g, 300, .inl f146)), (q63, .inl (gI g, 300, .inl f147)), (q64, .inr (1, [.ref q65, .ref q66, .ref q148, .int 0, .int 0, .int 0])), (q65, .inl (gI g, 300, .inl f149)), (q66, .inl (gI g, 300, .inl f150)), (q67, .inr (7, [.ref q68, .ref q69, .ref q70, .ref q71, .ref q72, .int 0, .int 0, .int 0, .int 0, .int x151])), (q68, .inl (gI g, 5, .inl f152)), (q69, .inl (gI g, 5, .inl f153)), (q70, .inl (gI g, 5, .inl f154)), (q71, .inl (gI g, 5, .inl f155)), (q72, .inl (gI g, 5, .inl f156)), (q73, .inr (9, [.int 0, .int 0, .int 0, .int 0, .int 0, .ref q157, .ref q40, .ref q41, .ref q42, .ref q43, .ref q158, .ref q44, .ref q75, .ref q45, .ref q74, .ref q46, .ref q49])), (q74, .inl (gI g, 5, .inl f159)), (q75, .inl (gI g, 5, .inl f160)), (q76, .inr (2, [.ref q77, .int 0, .int 0, .int 0])), (q77, .inl (gO g, 41, .inr (.inr (.inr (.inr f161))))), (q78, .inr (7, [.ref q79, .ref q80, .ref q81, .ref q82, .ref q83, .int 0, .int 0, .int 0, .int 0, .int x162])), (q79, .inl (gI g, 5, .inl f163)), (q80, .inl (gI g, 5, .inl f164)), (q81, .inl (gI g, 5, .inl f165)), (q82, .inl (gI g, 5, .inl f166)), (q83, .inl (gI g, 5, .inl f167)), (q84, .inr (3, [.ref q168, .int 0])), (q85, .inr (6, [.ref q13, .ref q169, .ref q170, .ref q171, .ref q172, .ref q173, .ref q174, .ref q175, .ref q176, .ref q177, .ref q178, .int 0, .int 0])), (q86, .inl (gZ g, 3, .inl f179)), (q188, .inr (11, [.null, .null, .int 0, .int 0, .int 0, .int 0, .int 0, .int 0, .int 0, .int 0, .long 0, .null, .null, .null, .null, .null, .null, .null, .null, .null, .null, .null, .null, .null, .null, .null, .null, .null, .null, .null, .null, .null, .null, .null, .int 0, .int 0, .int 0, .int 0, .int 0, .int 0, .int 0, .int 0, .int 0, .int 0, .int 0, .int 0, .null, .int 0, .null, .int 0, .int 0, .null, .null, .null, .int 0, .null, .null, .null, .null, .null, .null, .null, .null, .null, .null, .int 0, .int 0, .null, .null]))] := hD
  refine lv_dup hx hb dL_law_11 rfl ?_
  refine kV (wc := [(q188, .inr (11, [.null, .null, .int 0, .int 0, .int 0, .int 0, .int 0, .int 0, .int 0, .int 0, .long 0, .null, .null, .null, .null, .null, .null, .null, .null, .null, .null, .null, .null, .null, .null, .null, .null, .null, .null, .null, .null, .null, .null, .null, .int 0, .int 0, .int 0, .int 0, .int 0, .int 0, .int 0, .int 0, .int 0, .int 0, .int 0, .int 0, .null, .int 0, .null, .int 0, .int 0, .null, .null, .null, .int 0, .null, .null, .null, .null, .null, .null, .null, .null, .null, .null, .int 0, .int 0, .null, .null]))]) (wr := [(q1, .inr (10, [.ref q2, .int 0, .ref q3, .ref q52, .ref q73, .ref q13, .ref q67, .ref q76, .ref q11, .ref q86, .ref q84, .ref q12, .ref q85, .int 0])), (q2, .inl (gB g, 1600, .inl f87)), (q3, .inr (5, [.ref q4, .int 0, .int 0, .int 0, .int (-1)])), (q4, .inr (8, [.ref q88, .ref q89, .int 0, .int 0, .int 0, .int 0, .int 0, .long 0, .int 0, .int 0])), (q5, .inr (7, [.ref q6, .ref q7, .ref q8, .ref q9, .ref q10, .int 0, .int 0, .int 0, .int 0, .int 0])), (q6, .inl (gI g, 5, .inl f90)), (q7, .inl (gI g, 5, .inl f91)), (q8, .inl (gI g, 5, .inl f92)), (q9, .inl (gI g, 5, .inl f93)), (q10, .inl (gI g, 5, .inl f94)), (q11, .inl (gO g, 3, .inr (.inr (.inr (.inr f95))))), (q12, .inr (4, [.ref q13, .ref q73, .ref q67, .ref q84, .ref q14, .ref q96, .ref q97, .ref q98, .ref q99, .ref q20, .ref q21, .int 0])), (q13, .inr (0, [.ref q73, .ref q100, .int 0, .int 0])), (q14, .inr (7, [.ref q15, .ref q16, .ref q17, .ref q18, .ref q19, .int 0, .int 0, .int 0, .int 0, .int 0])), (q15, .inl (gI g, 5, .inl f101)), (q16, .inl (gI g, 5, .inl f102)), (q17, .inl (gI g, 5, .inl f103)), (q18, .inl (gI g, 5, .inl f104)), (q19, .inl (gI g, 5, .inl f105)), (q20, .inl (gI g, 5, .inl f106)), (q21, .inl (gI g, 5, .inl f107)), (q22, .inr (7, [.ref q23, .ref q24, .ref q25, .ref q26, .ref q27, .int 0, .int 0, .int 0, .int 0, .int 0])), (q23, .inl (gI g, 5, .inl f108)), (q24, .inl (gI g, 5, .inl f109)), (q25, .inl (gI g, 5, .inl f110)), (q26, .inl (gI g, 5, .inl f111)), (q27, .inl (gI g, 5, .inl f112)), (q28, .inr (7, [.ref q29, .ref q30, .ref q31, .ref q32, .ref q33, .int 0, .int 0, .int 0, .int 0, .int 0])), (q29, .inl (gI g, 5, .inl f113)), (q30, .inl (gI g, 5, .inl f114)), (q31, .inl (gI g, 5, .inl f115)), (q32, .inl (gI g, 5, .inl f116)), (q33, .inl (gI g, 5, .inl f117)), (q34, .inr (7, [.ref q35, .ref q36, .ref q37, .ref q38, .ref q39, .int 0, .int 0, .int 0, .int 0, .int 0])), (q35, .inl (gI g, 5, .inl f118)), (q36, .inl (gI g, 5, .inl f119)), (q37, .inl (gI g, 5, .inl f120)), (q38, .inl (gI g, 5, .inl f121)), (q39, .inl (gI g, 5, .inl f122)), (q40, .inl (gI g, 8, .inl f123)), (q41, .inl (gI g, 8, .inl f124)), (q42, .inl (gI g, 8, .inl f125)), (q43, .inl (gI g, 8, .inl f126)), (q44, .inl (gI g, 5, .inl f127)), (q45, .inl (gI g, 5, .inl f128)), (q46, .inr (1, [.ref q47, .ref q48, .ref q129, .int 0, .int 0, .int 0])), (q47, .inl (gI g, 300, .inl f130)), (q48, .inl (gI g, 300, .inl f131)), (q49, .inr (1, [.ref q50, .ref q51, .ref q132, .int 0, .int 0, .int 0])), (q50, .inl (gI g, 300, .inl f133)), (q51, .inl (gI g, 300, .inl f134)), (q52, .inr (9, [.int 0, .int 0, .int 0, .int 0, .int 0, .ref q135, .ref q53, .ref q54, .ref q55, .ref q56, .ref q136, .ref q57, .ref q58, .ref q59, .ref q60, .ref q61, .ref q64])), (q53, .inl (gI g, 8, .inl f137)), (q54, .inl (gI g, 8, .inl f138)), (q55, .inl (gI g, 8, .inl f139)), (q56, .inl (gI g, 8, .inl f140)), (q57, .inl (gI g, 5, .inl f141)), (q58, .inl (gI g, 5, .inl f142)), (q59, .inl (gI g, 5, .inl f143)), (q60, .inl (gI g, 5, .inl f144)), (q61, .inr (1, [.ref q62, .ref q63, .ref q145, .int 0, .int 0, .int 0])), (q62, .inl (gI g, 300, .inl f146)), (q63, .inl (gI g, 300, .inl f147)), (q64, .inr (1, [.ref q65, .ref q66, .ref q148, .int 0, .int 0, .int 0])), (q65, .inl (gI g, 300, .inl f149)), (q66, .inl (gI g, 300, .inl f150)), (q67, .inr (7, [.ref q68, .ref q69, .ref q70, .ref q71, .ref q72, .int 0, .int 0, .int 0, .int 0, .int x151])), (q68, .inl (gI g, 5, .inl f152)), (q69, .inl (gI g, 5, .inl f153)), (q70, .inl (gI g, 5, .inl f154)), (q71, .inl (gI g, 5, .inl f155)), (q72, .inl (gI g, 5, .inl f156)), (q73, .inr (9, [.int 0, .int 0, .int 0, .int 0, .int 0, .ref q157, .ref q40, .ref q41, .ref q42, .ref q43, .ref q158, .ref q44, .ref q75, .ref q45, .ref q74, .ref q46, .ref q49])), (q74, .inl (gI g, 5, .inl f159)), (q75, .inl (gI g, 5, .inl f160)), (q76, .inr (2, [.ref q77, .int 0, .int 0, .int 0])), (q77, .inl (gO g, 41, .inr (.inr (.inr (.inr f161))))), (q78, .inr (7, [.ref q79, .ref q80, .ref q81, .ref q82, .ref q83, .int 0, .int 0, .int 0, .int 0, .int x162])), (q79, .inl (gI g, 5, .inl f163)), (q80, .inl (gI g, 5, .inl f164)), (q81, .inl (gI g, 5, .inl f165)), (q82, .inl (gI g, 5, .inl f166)), (q83, .inl (gI g, 5, .inl f167)), (q84, .inr (3, [.ref q168, .int 0])), (q85, .inr (6, [.ref q13, .ref q169, .ref q170, .ref q171, .ref q172, .ref q173, .ref q174, .ref q175, .ref q176, .ref q177, .ref q178, .int 0, .int 0])), (q86, .inl (gZ g, 3, .inl f179))]) (rN (As := []) (rest := [.ref q188]) hcx (c_X11_init H.size) (gdC q12_13) q1_5 q12_11 q12_12 rfl dvX11_init.2 ⟨Nat.le_of_ble_eq_true rfl, Nat.le_of_ble_eq_true rfl⟩ (hP.sub [86] rfl) (hD.sub [86] (by decide) rfl) rfl hl.1 rfl (Nat.le_of_ble_eq_true rfl) dL_law_12 ⟨Nat.le_of_ble_eq_true rfl, Nat.le_of_ble_eq_true rfl⟩) hP hD hS hA [86] [0, 1, 2, 3, 4, 5, 6, 7, 8, 9, 10, 11, 12, 13, 14, 15, 16, 17, 18, 19, 20, 21, 22, 23, 24, 25, 26, 27, 28, 29, 30, 31, 32, 33, 34, 35, 36, 37, 38, 39, 40, 41, 42, 43, 44, 45, 46, 47, 48, 49, 50, 51, 52, 53, 54, 55, 56, 57, 58, 59, 60, 61, 62, 63, 64, 65, 66, 67, 68, 69, 70, 71, 72, 73, 74, 75, 76, 77, 78, 79, 80, 81, 82, 83, 84, 85] rfl rfl (by decide) (by decide) (fun W' H locs hw hP hD hS => ?_)
  refine Exists.elim hw (fun q189 hw => ?_)
  refine Exists.elim hw (fun q190 hw => ?_)
  refine Exists.elim hw (fun q191 hw => ?_)
  refine Exists.elim hw (fun q192 hw => ?_)
  refine Exists.elim hw (fun q193 hw => ?_)
  refine Exists.elim hw (fun q194 hw => ?_)
  refine Exists.elim hw (fun q195 hw => ?_)
  refine Exists.elim hw (fun q196 hw => ?_)
  refine Exists.elim hw (fun q197 hw => ?_)
  refine Exists.elim hw (fun q198 hw => ?_)
  refine Exists.elim hw (fun q199 hw => ?_)
  refine Exists.elim hw (fun q200 hw => ?_)
  refine Exists.elim hw (fun q201 hw => ?_)
  refine Exists.elim hw (fun q202 hw => ?_)
  refine Exists.elim hw (fun fs203 hw => ?_)
  refine Exists.elim hw (fun f204 hw => ?_)
  refine Exists.elim hw (fun f205 hw => ?_)
  refine Exists.elim hw (fun f206 hw => ?_)
  refine Exists.elim hw (fun f207 hw => ?_)
  refine Exists.elim hw (fun f208 hw => ?_)
  refine Exists.elim hw (fun f209 hw => ?_)
  refine Exists.elim hw (fun f210 hw => ?_)
  refine Exists.elim hw (fun f211 hw => ?_)
  refine Exists.elim hw (fun f212 hw => ?_)
  refine Exists.elim hw (fun f213 hw => ?_)
  refine Exists.elim hw (fun f214 hw => ?_)
  refine Exists.elim hw (fun f215 hw => ?_)
  refine Exists.elim hw (fun f216 hw => ?_)
  refine Exists.elim hw (fun f217 hw => ?_)
  obtain ⟨rfl, hf218, hf219, hf220, hf221, hf222, hf223, hf224, hf225, hf226, hf227, hf228, hf229, hf230, hf231, hf232, hf233, hf234, hf235, hf236, hf237, hf238, hf239, hf240, hf241, hf242, hf243, hf244, hf245, hf246, hf247, hf248, hf249, hf250, hf251, hf252, hf253, hf254⟩ := hw
  have hP : va_P g.1 vwCl [(q1, .inr (10, [.ref q2, .int 0, .ref q3, .ref q52, .ref q73, .ref q13, .ref q67, .ref q76, .ref q11, .ref q86, .ref q84, .ref q12, .ref q85, .int 0])), (q2, .inl (gB g, 1600, .inl f87)), (q3, .inr (5, [.ref q4, .int 0, .int 0, .int 0, .int (-1)])), (q4, .inr (8, [.ref q88, .ref q89, .int 0, .int 0, .int 0, .int 0, .int 0, .long 0, .int 0, .int 0])), (q5, .inr (7, [.ref q6, .ref q7, .ref q8, .ref q9, .ref q10, .int 0, .int 0, .int 0, .int 0, .int 0])), (q6, .inl (gI g, 5, .inl f90)), (q7, .inl (gI g, 5, .inl f91)), (q8, .inl (gI g, 5, .inl f92)), (q9, .inl (gI g, 5, .inl f93)), (q10, .inl (gI g, 5, .inl f94)), (q11, .inl (gO g, 3, .inr (.inr (.inr (.inr f95))))), (q12, .inr (4, [.ref q13, .ref q73, .ref q67, .ref q84, .ref q14, .ref q96, .ref q97, .ref q98, .ref q99, .ref q20, .ref q21, .int 0])), (q13, .inr (0, [.ref q73, .ref q100, .int 0, .int 0])), (q14, .inr (7, [.ref q15, .ref q16, .ref q17, .ref q18, .ref q19, .int 0, .int 0, .int 0, .int 0, .int 0])), (q15, .inl (gI g, 5, .inl f101)), (q16, .inl (gI g, 5, .inl f102)), (q17, .inl (gI g, 5, .inl f103)), (q18, .inl (gI g, 5, .inl f104)), (q19, .inl (gI g, 5, .inl f105)), (q20, .inl (gI g, 5, .inl f106)), (q21, .inl (gI g, 5, .inl f107)), (q22, .inr (7, [.ref q23, .ref q24, .ref q25, .ref q26, .ref q27, .int 0, .int 0, .int 0, .int 0, .int 0])), (q23, .inl (gI g, 5, .inl f108)), (q24, .inl (gI g, 5, .inl f109)), (q25, .inl (gI g, 5, .inl f110)), (q26, .inl (gI g, 5, .inl f111)), (q27, .inl (gI g, 5, .inl f112)), (q28, .inr (7, [.ref q29, .ref q30, .ref q31, .ref q32, .ref q33, .int 0, .int 0, .int 0, .int 0, .int 0])), (q29, .inl (gI g, 5, .inl f113)), (q30, .inl (gI g, 5, .inl f114)), (q31, .inl (gI g, 5, .inl f115)), (q32, .inl (gI g, 5, .inl f116)), (q33, .inl (gI g, 5, .inl f117)), (q34, .inr (7, [.ref q35, .ref q36, .ref q37, .ref q38, .ref q39, .int 0, .int 0, .int 0, .int 0, .int 0])), (q35, .inl (gI g, 5, .inl f118)), (q36, .inl (gI g, 5, .inl f119)), (q37, .inl (gI g, 5, .inl f120)), (q38, .inl (gI g, 5, .inl f121)), (q39, .inl (gI g, 5, .inl f122)), (q40, .inl (gI g, 8, .inl f123)), (q41, .inl (gI g, 8, .inl f124)), (q42, .inl (gI g, 8, .inl f125)), (q43, .inl (gI g, 8, .inl f126)), (q44, .inl (gI g, 5, .inl f127)), (q45, .inl (gI g, 5, .inl f128)), (q46, .inr (1, [.ref q47, .ref q48, .ref q129, .int 0, .int 0, .int 0])), (q47, .inl (gI g, 300, .inl f130)), (q48, .inl (gI g, 300, .inl f131)), (q49, .inr (1, [.ref q50, .ref q51, .ref q132, .int 0, .int 0, .int 0])), (q50, .inl (gI g, 300, .inl f133)), (q51, .inl (gI g, 300, .inl f134)), (q52, .inr (9, [.int 0, .int 0, .int 0, .int 0, .int 0, .ref q135, .ref q53, .ref q54, .ref q55, .ref q56, .ref q136, .ref q57, .ref q58, .ref q59, .ref q60, .ref q61, .ref q64])), (q53, .inl (gI g, 8, .inl f137)), (q54, .inl (gI g, 8, .inl f138)), (q55, .inl (gI g, 8, .inl f139)), (q56, .inl (gI g, 8, .inl f140)), (q57, .inl (gI g, 5, .inl f141)), (q58, .inl (gI g, 5, .inl f142)), (q59, .inl (gI g, 5, .inl f143)), (q60, .inl (gI g, 5, .inl f144)), (q61, .inr (1, [.ref q62, .ref q63, .ref q145, .int 0, .int 0, .int 0])), (q62, .inl (gI g, 300, .inl f146)), (q63, .inl (gI g, 300, .inl f147)), (q64, .inr (1, [.ref q65, .ref q66, .ref q148, .int 0, .int 0, .int 0])), (q65, .inl (gI g, 300, .inl f149)), (q66, .inl (gI g, 300, .inl f150)), (q67, .inr (7, [.ref q68, .ref q69, .ref q70, .ref q71, .ref q72, .int 0, .int 0, .int 0, .int 0, .int x151])), (q68, .inl (gI g, 5, .inl f152)), (q69, .inl (gI g, 5, .inl f153)), (q70, .inl (gI g, 5, .inl f154)), (q71, .inl (gI g, 5, .inl f155)), (q72, .inl (gI g, 5, .inl f156)), (q73, .inr (9, [.int 0, .int 0, .int 0, .int 0, .int 0, .ref q157, .ref q40, .ref q41, .ref q42, .ref q43, .ref q158, .ref q44, .ref q75, .ref q45, .ref q74, .ref q46, .ref q49])), (q74, .inl (gI g, 5, .inl f159)), (q75, .inl (gI g, 5, .inl f160)), (q76, .inr (2, [.ref q77, .int 0, .int 0, .int 0])), (q77, .inl (gO g, 41, .inr (.inr (.inr (.inr f161))))), (q78, .inr (7, [.ref q79, .ref q80, .ref q81, .ref q82, .ref q83, .int 0, .int 0, .int 0, .int 0, .int x162])), (q79, .inl (gI g, 5, .inl f163)), (q80, .inl (gI g, 5, .inl f164)), (q81, .inl (gI g, 5, .inl f165)), (q82, .inl (gI g, 5, .inl f166)), (q83, .inl (gI g, 5, .inl f167)), (q84, .inr (3, [.ref q168, .int 0])), (q85, .inr (6, [.ref q13, .ref q169, .ref q170, .ref q171, .ref q172, .ref q173, .ref q174, .ref q175, .ref q176, .ref q177, .ref q178, .int 0, .int 0])), (q86, .inl (gZ g, 3, .inl f179)), (q188, .inr (11, fs203)), (q189, .inl (gB g, 1620, .inl f204)), (q190, .inl (gI g, 984, .inl f205)), (q191, .inl (gI g, 24, .inl f206)), (q192, .inl (gI g, 8, .inl f207)), (q193, .inl (gI g, 32, .inl f208)), (q194, .inl (gI g, 72, .inl f209)), (q195, .inl (gI g, 2, .inl f210)), (q196, .inl (gI g, 2, .inl f211)), (q197, .inl (gI g, 2, .inl f212)), (q198, .inl (gI g, 2, .inl f213)), (q199, .inl (gI g, 24, .inl f214)), (q200, .inl (gI g, 2, .inl f215)), (q201, .inl (gI g, 2, .inl f216)), (q202, .inl (gZ g, 3, .inl f217))] H := hP
  have hD : va_D A [(q1, .inr (10, [.ref q2, .int 0, .ref q3, .ref q52, .ref q73, .ref q13, .ref q67, .ref q76, .ref q11, .ref q86, .ref q84, .ref q12, .ref q85, .int 0])), (q2, .inl (gB g, 1600, .inl f87)), (q3, .inr (5, [.ref q4, .int 0, .int 0, .int 0, .int (-1)])), (q4, .inr (8, [.ref q88, .ref q89, .int 0, .int 0, .int 0, .int 0, .int 0, .long 0, .int 0, .int 0])), (q5, .inr (7, [.ref q6, .ref q7, .ref q8, .ref q9, .ref q10, .int 0, .int 0, .int 0, .int 0, .int 0])), (q6, .inl (gI g, 5, .inl f90)), (q7, .inl (gI g, 5, .inl f91)), (q8, .inl (gI g, 5, .inl f92)), (q9, .inl (gI g, 5, .inl f93)), (q10, .inl (gI g, 5, .inl f94)), (q11, .inl (gO g, 3, .inr (.inr (.inr (.inr f95))))), (q12, .inr (4, [.ref q13, .ref q73, .ref q67, .ref q84, .ref q14, .ref q96, .ref q97, .ref q98, .ref q99, .ref q20, .ref q21, .int 0])), (q13, .inr (0, [.ref q73, .ref q100, .int 0, .int 0])), (q14, .inr (7, [.ref q15, .ref q16, .ref q17, .ref q18, .ref q19, .int 0, .int 0, .int 0, .int 0, .int 0])), (q15, .inl (gI g, 5, .inl f101)), (q16, .inl (gI g, 5, .inl f102)), (q17, .inl (gI g, 5, .inl f103)), (q18, .inl (gI g, 5, .inl f104)), (q19, .inl (gI g, 5, .inl f105)), (q20, .inl (gI g, 5, .inl f106)), (q21, .inl (gI g, 5, .inl f107)), (q22, .inr (7, [.ref q23, .ref q24, .ref q25, .ref q26, .ref q27, .int 0, .int 0, .int 0, .int 0, .int 0])), (q23, .inl (gI g, 5, .inl f108)), (q24, .inl (gI g, 5, .inl f109)), (q25, .inl (gI g, 5, .inl f110)), (q26, .inl (gI g, 5, .inl f111)), (q27, .inl (gI g, 5, .inl f112)), (q28, .inr (7, [.ref q29, .ref q30, .ref q31, .ref q32, .ref q33, .int 0, .int 0, .int 0, .int 0, .int 0])), (q29, .inl (gI g, 5, .inl f113)), (q30, .inl (gI g, 5, .inl f114)), (q31, .inl (gI g, 5, .inl f115)), (q32, .inl (gI g, 5, .inl f116)), (q33, .inl (gI g, 5, .inl f117)), (q34, .inr (7, [.ref q35, .ref q36, .ref q37, .ref q38, .ref q39, .int 0, .int 0, .int 0, .int 0, .int 0])), (q35, .inl (gI g, 5, .inl f118)), (q36, .inl (gI g, 5, .inl f119)), (q37, .inl (gI g, 5, .inl f120)), (q38, .inl (gI g, 5, .inl f121)), (q39, .inl (gI g, 5, .inl f122)), (q40, .inl (gI g, 8, .inl f123)), (q41, .inl (gI g, 8, .inl f124)), (q42, .inl (gI g, 8, .inl f125)), (q43, .inl (gI g, 8, .inl f126)), (q44, .inl (gI g, 5, .inl f127)), (q45, .inl (gI g, 5, .inl f128)), (q46, .inr (1, [.ref q47, .ref q48, .ref q129, .int 0, .int 0, .int 0])), (q47, .inl (gI g, 300, .inl f130)), (q48, .inl (gI g, 300, .inl f131)), (q49, .inr (1, [.ref q50, .ref q51, .ref q132, .int 0, .int 0, .int 0])), (q50, .inl (gI g, 300, .inl f133)), (q51, .inl (gI g, 300, .inl f134)), (q52, .inr (9, [.int 0, .int 0, .int 0, .int 0, .int 0, .ref q135, .ref q53, .ref q54, .ref q55, .ref q56, .ref q136, .ref q57, .ref q58, .ref q59, .ref q60, .ref q61, .ref q64])), (q53, .inl (gI g, 8, .inl f137)), (q54, .inl (gI g, 8, .inl f138)), (q55, .inl (gI g, 8, .inl f139)), (q56, .inl (gI g, 8, .inl f140)), (q57, .inl (gI g, 5, .inl f141)), (q58, .inl (gI g, 5, .inl f142)), (q59, .inl (gI g, 5, .inl f143)), (q60, .inl (gI g, 5, .inl f144)), (q61, .inr (1, [.ref q62, .ref q63, .ref q145, .int 0, .int 0, .int 0])), (q62, .inl (gI g, 300, .inl f146)), (q63, .inl (gI g, 300, .inl f147)), (q64, .inr (1, [.ref q65, .ref q66, .ref q148, .int 0, .int 0, .int 0])), (q65, .inl (gI g, 300, .inl f149)), (q66, .inl (gI g, 300, .inl f150)), (q67, .inr (7, [.ref q68, .ref q69, .ref q70, .ref q71, .ref q72, .int 0, .int 0, .int 0, .int 0, .int x151])), (q68, .inl (gI g, 5, .inl f152)), (q69, .inl (gI g, 5, .inl f153)), (q70, .inl (gI g, 5, .inl f154)), (q71, .inl (gI g, 5, .inl f155)), (q72, .inl (gI g, 5, .inl f156)), (q73, .inr (9, [.int 0, .int 0, .int 0, .int 0, .int 0, .ref q157, .ref q40, .ref q41, .ref q42, .ref q43, .ref q158, .ref q44, .ref q75, .ref q45, .ref q74, .ref q46, .ref q49])), (q74, .inl (gI g, 5, .inl f159)), (q75, .inl (gI g, 5, .inl f160)), (q76, .inr (2, [.ref q77, .int 0, .int 0, .int 0])), (q77, .inl (gO g, 41, .inr (.inr (.inr (.inr f161))))), (q78, .inr (7, [.ref q79, .ref q80, .ref q81, .ref q82, .ref q83, .int 0, .int 0, .int 0, .int 0, .int x162])), (q79, .inl (gI g, 5, .inl f163)), (q80, .inl (gI g, 5, .inl f164)), (q81, .inl (gI g, 5, .inl f165)), (q82, .inl (gI g, 5, .inl f166)), (q83, .inl (gI g, 5, .inl f167)), (q84, .inr (3, [.ref q168, .int 0])), (q85, .inr (6, [.ref q13, .ref q169, .ref q170, .ref q171, .ref q172, .ref q173, .ref q174, .ref q175, .ref q176, .ref q177, .ref q178, .int 0, .int 0])), (q86, .inl (gZ g, 3, .inl f179)), (q188, .inr (11, fs203)), (q189, .inl (gB g, 1620, .inl f204)), (q190, .inl (gI g, 984, .inl f205)), (q191, .inl (gI g, 24, .inl f206)), (q192, .inl (gI g, 8, .inl f207)), (q193, .inl (gI g, 32, .inl f208)), (q194, .inl (gI g, 72, .inl f209)), (q195, .inl (gI g, 2, .inl f210)), (q196, .inl (gI g, 2, .inl f211)), (q197, .inl (gI g, 2, .inl f212)), (q198, .inl (gI g, 2, .inl f213)), (q199, .inl (gI g, 24, .inl f214)), (q200, .inl (gI g, 2, .inl f215)), (q201, .inl (gI g, 2, .inl f216)), (q202, .inl (gZ g, 3, .inl f217))] := hD
  refine lv_astore_n (lv' := [(2, .ref q188), (1, .ref q1), (0, .ref b)]) hx hb dL_law_15 rfl hl (by decide) rfl (fun ls hl => ?_)
  refine lv_iconst (v := 0) hx hb dL_law_16 (by decide) ?_
  refine lv_istore_n (lv' := [(3, .int 0), (2, .ref q188), (1, .ref q1), (0, .ref b)]) hx hb dL_law_17 rfl hl (by decide) rfl (fun ls hl => ?_)
  by_cases hL6 : L = 6
  · subst hL6
    refine lv_iload_n hx hb dL_law_18 rfl (lv_at hl 0 rfl) ?_
    refine lv_aload_n hx hb dL_law_19 rfl (lv_at hl 3 rfl) ?_
    refine va_slen hx hb hX hbl hbA hS dL_law_20 ?_
    refine lv_tope (y := 6) (by decide) ?_
    refine lv_bipush (v := 6) hx hb dL_law_21 (by decide) ?_
    refine lv_isub hx hb dL_law_23 ?_
    refine lv_tope (y := 0) (by decide) ?_
    refine lv_icmp_gt (tgt := 1284) hx hb dL_law_24 (by decide) (fun c255 => absurd c255 (by decide)) (fun _ => ?_)
    refine lv_aload_n hx hb dL_law_27 rfl (lv_at hl 3 rfl) ?_
    refine lv_iload_n hx hb dL_law_28 rfl (lv_at hl 0 rfl) ?_
    refine sc_ld hx hb hX hbl hbA hS 0 rfl (by decide) (by decide) dL_law_29 ?_
    refine lv_bipush (v := 63) hx hb dL_law_30 (by decide) ?_
    refine lv_iand hx hb dL_law_32 ?_
    refine lv_topi (fun x256 ex256 => ?_)
    by_cases c257 : x256 = 0
    · refine lv_tableIn (off := 183) (tgt := 216) hx hb dL_law_33 (by rw [c257]; decide) (by rw [c257]; decide) (by rw [c257]; decide) (by decide) ?_
      exact lc_0 (Nat.le_of_ble_eq_true rfl) (Nat.le_of_ble_eq_true rfl) hcx hX hbl hbA hA hAl hf218 hf219 hf220 hf221 hf222 hf223 hf224 hf225 hf226 hf227 hf228 hf229 hf230 hf231 hf232 hf233 hf234 hf235 hf236 hf237 hf238 hf239 hf240 hf241 (hP.sub [0, 1, 86, 87] rfl) (hD.sub [0, 1, 86, 87] (by decide) rfl) hS hl
    by_cases c258 : x256 = 1
    · refine lv_tableIn (off := 246) (tgt := 279) hx hb dL_law_33 (by rw [c258]; decide) (by rw [c258]; decide) (by rw [c258]; decide) (by decide) ?_
      exact lc_1 (Nat.le_of_ble_eq_true rfl) (Nat.le_of_ble_eq_true rfl) hcx hX hbl hbA hA hAl hf218 hf219 hf220 hf221 hf222 hf223 hf224 hf225 hf226 hf227 hf228 hf229 hf230 hf231 hf232 hf233 hf234 hf235 hf236 hf237 hf238 hf239 hf240 hf241 (hP.sub [0, 86] rfl) (hD.sub [0, 86] (by decide) rfl) hS hl
    by_cases c259 : x256 = 2
    · refine lv_tableIn (off := 269) (tgt := 302) hx hb dL_law_33 (by rw [c259]; decide) (by rw [c259]; decide) (by rw [c259]; decide) (by decide) ?_
      exact lc_2 (Nat.le_of_ble_eq_true rfl) (Nat.le_of_ble_eq_true rfl) hcx hX hbl hbA hA hAl hf183 hf184 hf185 hf186 hf187 hf218 hf219 hf220 hf221 hf222 hf223 hf224 hf225 hf226 hf227 hf228 hf229 hf230 hf231 hf232 hf233 hf234 hf235 hf236 hf237 hf238 hf239 hf240 hf241 hf242 hf243 hf244 hf245 hf246 hf247 hf248 hf249 hf250 hf251 hf252 hf253 hf254 (hP.sub [0, 1, 2, 3, 39, 40, 41, 42, 43, 44, 45, 46, 47, 48, 49, 50, 51, 52, 53, 54, 55, 56, 57, 58, 59, 60, 61, 62, 63, 64, 65, 66, 67, 68, 69, 70, 71, 72, 73, 74, 75, 76, 77, 78, 79, 80, 81, 82, 83, 84, 85, 86, 93, 94, 95, 96, 97, 98, 99, 100] rfl) (hD.sub [0, 1, 2, 3, 39, 40, 41, 42, 43, 44, 45, 46, 47, 48, 49, 50, 51, 52, 53, 54, 55, 56, 57, 58, 59, 60, 61, 62, 63, 64, 65, 66, 67, 68, 69, 70, 71, 72, 73, 74, 75, 76, 77, 78, 79, 80, 81, 82, 83, 84, 85, 86, 93, 94, 95, 96, 97, 98, 99, 100] (by decide) rfl) hS hl
    by_cases c260 : x256 = 3
    · refine lv_tableIn (off := 282) (tgt := 315) hx hb dL_law_33 (by rw [c260]; decide) (by rw [c260]; decide) (by rw [c260]; decide) (by decide) ?_
      exact lc_3 (Nat.le_of_ble_eq_true rfl) (Nat.le_of_ble_eq_true rfl) hcx hX hbl hbA hA hAl hf218 hf219 hf220 hf221 hf222 hf223 hf224 hf225 hf226 hf227 hf228 hf229 hf230 hf231 hf232 hf233 hf234 hf235 hf236 hf237 hf238 hf239 hf240 hf241 (hP.sub [0, 2, 86] rfl) (hD.sub [0, 2, 86] (by decide) rfl) hS hl
    by_cases c261 : x256 = 4
    · refine lv_tableIn (off := 305) (tgt := 338) hx hb dL_law_33 (by rw [c261]; decide) (by rw [c261]; decide) (by rw [c261]; decide) (by decide) ?_
      exact lc_4 (Nat.le_of_ble_eq_true rfl) (Nat.le_of_ble_eq_true rfl) hcx hX hbl hbA hA hAl hf218 hf219 hf220 hf221 hf222 hf223 hf224 hf225 hf226 hf227 hf228 hf229 hf230 hf231 hf232 hf233 hf234 hf235 hf236 hf237 hf238 hf239 hf240 hf241 hf250 (hP.sub [0, 72, 86, 98] rfl) (hD.sub [0, 72, 86, 98] (by decide) rfl) hS hl
    by_cases c262 : x256 = 5
    · refine lv_tableIn (off := 338) (tgt := 371) hx hb dL_law_33 (by rw [c262]; decide) (by rw [c262]; decide) (by rw [c262]; decide) (by decide) ?_
      exact lc_5 (Nat.le_of_ble_eq_true rfl) (Nat.le_of_ble_eq_true rfl) hcx hX hbl hbA hA hAl hf218 hf219 hf220 hf221 hf222 hf223 hf224 hf225 hf226 hf227 hf228 hf229 hf230 hf231 hf232 hf233 hf234 hf235 hf236 hf237 hf238 hf239 hf240 hf241 hf242 (hP.sub [0, 72, 86, 93] rfl) (hD.sub [0, 72, 86, 93] (by decide) rfl) hS hl
    by_cases c263 : x256 = 6
    · refine lv_tableIn (off := 371) (tgt := 404) hx hb dL_law_33 (by rw [c263]; decide) (by rw [c263]; decide) (by rw [c263]; decide) (by decide) ?_
      exact lc_6 (Nat.le_of_ble_eq_true rfl) (Nat.le_of_ble_eq_true rfl) hcx hX hbl hbA hA hAl hf218 hf219 hf220 hf221 hf222 hf223 hf224 hf225 hf226 hf227 hf228 hf229 hf230 hf231 hf232 hf233 hf234 hf235 hf236 hf237 hf238 hf239 hf240 hf241 hf250 (hP.sub [0, 72, 86, 98] rfl) (hD.sub [0, 72, 86, 98] (by decide) rfl) hS hl
    by_cases c264 : x256 = 7
    · refine lv_tableIn (off := 394) (tgt := 427) hx hb dL_law_33 (by rw [c264]; decide) (by rw [c264]; decide) (by rw [c264]; decide) (by decide) ?_
      exact lc_7 (Nat.le_of_ble_eq_true rfl) (Nat.le_of_ble_eq_true rfl) hcx hX hbl hbA hA hAl hf218 hf219 hf220 hf221 hf222 hf223 hf224 hf225 hf226 hf227 hf228 hf229 hf230 hf231 hf232 hf233 hf234 hf235 hf236 hf237 hf238 hf239 hf240 hf241 hf250 (hP.sub [0, 12, 66, 72, 86, 98] rfl) (hD.sub [0, 12, 66, 72, 86, 98] (by decide) rfl) hS hl
    by_cases c265 : x256 = 8
    · refine lv_tableIn (off := 427) (tgt := 460) hx hb dL_law_33 (by rw [c265]; decide) (by rw [c265]; decide) (by rw [c265]; decide) (by decide) ?_
      exact lc_8 (Nat.le_of_ble_eq_true rfl) (Nat.le_of_ble_eq_true rfl) hcx hX hbl hbA hA hAl hf218 hf219 hf220 hf221 hf222 hf223 hf224 hf225 hf226 hf227 hf228 hf229 hf230 hf231 hf232 hf233 hf234 hf235 hf236 hf237 hf238 hf239 hf240 hf241 hf242 hf246 hf247 hf248 hf249 (hP.sub [0, 12, 66, 72, 86, 93, 97] rfl) (hD.sub [0, 12, 66, 72, 86, 93, 97] (by decide) rfl) hS hl
    by_cases c266 : x256 = 9
    · refine lv_tableIn (off := 440) (tgt := 473) hx hb dL_law_33 (by rw [c266]; decide) (by rw [c266]; decide) (by rw [c266]; decide) (by decide) ?_
      exact lc_9 (Nat.le_of_ble_eq_true rfl) (Nat.le_of_ble_eq_true rfl) hcx hX hbl hbA hA hAl hf218 hf219 hf220 hf221 hf222 hf223 hf224 hf225 hf226 hf227 hf228 hf229 hf230 hf231 hf232 hf233 hf234 hf235 hf236 hf237 hf238 hf239 hf240 hf241 hf250 (hP.sub [0, 72, 86, 98] rfl) (hD.sub [0, 72, 86, 98] (by decide) rfl) hS hl
    by_cases c267 : x256 = 10
    · refine lv_tableIn (off := 473) (tgt := 506) hx hb dL_law_33 (by rw [c267]; decide) (by rw [c267]; decide) (by rw [c267]; decide) (by decide) ?_
      exact lc_10 (Nat.le_of_ble_eq_true rfl) (Nat.le_of_ble_eq_true rfl) hcx hX hbl hbA hA hAl hf218 hf219 hf220 hf221 hf222 hf223 hf224 hf225 hf226 hf227 hf228 hf229 hf230 hf231 hf232 hf233 hf234 hf235 hf236 hf237 hf238 hf239 hf240 hf241 hf250 (hP.sub [0, 72, 86, 98] rfl) (hD.sub [0, 72, 86, 98] (by decide) rfl) hS hl
    by_cases c268 : x256 = 11
    · refine lv_tableIn (off := 506) (tgt := 539) hx hb dL_law_33 (by rw [c268]; decide) (by rw [c268]; decide) (by rw [c268]; decide) (by decide) ?_
      exact lc_11 (Nat.le_of_ble_eq_true rfl) (Nat.le_of_ble_eq_true rfl) hcx hX hbl hbA hA hAl hf218 hf219 hf220 hf221 hf222 hf223 hf224 hf225 hf226 hf227 hf228 hf229 hf230 hf231 hf232 hf233 hf234 hf235 hf236 hf237 hf238 hf239 hf240 hf241 hf250 (hP.sub [0, 72, 86, 98] rfl) (hD.sub [0, 72, 86, 98] (by decide) rfl) hS hl
    by_cases c269 : x256 = 12
    · refine lv_tableIn (off := 539) (tgt := 572) hx hb dL_law_33 (by rw [c269]; decide) (by rw [c269]; decide) (by rw [c269]; decide) (by decide) ?_
      exact lc_12 (Nat.le_of_ble_eq_true rfl) (Nat.le_of_ble_eq_true rfl) hcx hX hbl hbA hA hAl hf218 hf219 hf220 hf221 hf222 hf223 hf224 hf225 hf226 hf227 hf228 hf229 hf230 hf231 hf232 hf233 hf234 hf235 hf236 hf237 hf238 hf239 hf240 hf241 hf250 (hP.sub [0, 72, 86, 98] rfl) (hD.sub [0, 72, 86, 98] (by decide) rfl) hS hl
    by_cases c270 : x256 = 13
    · refine lv_tableIn (off := 572) (tgt := 605) hx hb dL_law_33 (by rw [c270]; decide) (by rw [c270]; decide) (by rw [c270]; decide) (by decide) ?_
      exact lc_13 (Nat.le_of_ble_eq_true rfl) (Nat.le_of_ble_eq_true rfl) hcx hX hbl hbA hA hAl hf218 hf219 hf220 hf221 hf222 hf223 hf224 hf225 hf226 hf227 hf228 hf229 hf230 hf231 hf232 hf233 hf234 hf235 hf236 hf237 hf238 hf239 hf240 hf241 hf250 (hP.sub [0, 72, 86, 98] rfl) (hD.sub [0, 72, 86, 98] (by decide) rfl) hS hl
    by_cases c271 : x256 = 14
    · refine lv_tableIn (off := 595) (tgt := 628) hx hb dL_law_33 (by rw [c271]; decide) (by rw [c271]; decide) (by rw [c271]; decide) (by decide) ?_
      exact lc_14 (Nat.le_of_ble_eq_true rfl) (Nat.le_of_ble_eq_true rfl) hcx hX hbl hbA hA hAl hf183 hf184 hf218 hf219 hf220 hf221 hf222 hf223 hf224 hf225 hf226 hf227 hf228 hf229 hf230 hf231 hf232 hf233 hf234 hf235 hf236 hf237 hf238 hf239 hf240 hf241 hf246 hf247 hf248 hf249 hf250 (hP.sub [0, 4, 5, 6, 7, 8, 9, 66, 67, 68, 69, 70, 71, 72, 75, 76, 86, 88, 97, 98] rfl) (hD.sub [0, 4, 5, 6, 7, 8, 9, 66, 67, 68, 69, 70, 71, 72, 75, 76, 86, 88, 97, 98] (by decide) rfl) hS hl
    by_cases c272 : x256 = 15
    · refine lv_tableIn (off := 608) (tgt := 641) hx hb dL_law_33 (by rw [c272]; decide) (by rw [c272]; decide) (by rw [c272]; decide) (by decide) ?_
      exact lc_15 (Nat.le_of_ble_eq_true rfl) (Nat.le_of_ble_eq_true rfl) hcx hX hbl hbA hA hAl hf218 hf219 hf220 hf221 hf222 hf223 hf224 hf225 hf226 hf227 hf228 hf229 hf230 hf231 hf232 hf233 hf234 hf235 hf236 hf237 hf238 hf239 hf240 hf241 (hP.sub [0, 75, 86] rfl) (hD.sub [0, 75, 86] (by decide) rfl) hS hl
    by_cases c273 : x256 = 16
    · refine lv_tableIn (off := 621) (tgt := 654) hx hb dL_law_33 (by rw [c273]; decide) (by rw [c273]; decide) (by rw [c273]; decide) (by decide) ?_
      exact lc_16 (Nat.le_of_ble_eq_true rfl) (Nat.le_of_ble_eq_true rfl) hcx hX hbl hbA hA hAl hf218 hf219 hf220 hf221 hf222 hf223 hf224 hf225 hf226 hf227 hf228 hf229 hf230 hf231 hf232 hf233 hf234 hf235 hf236 hf237 hf238 hf239 hf240 hf241 (hP.sub [0, 75, 86] rfl) (hD.sub [0, 75, 86] (by decide) rfl) hS hl
    by_cases c274 : x256 = 17
    · refine lv_tableIn (off := 634) (tgt := 667) hx hb dL_law_33 (by rw [c274]; decide) (by rw [c274]; decide) (by rw [c274]; decide) (by decide) ?_
      exact lc_17 (Nat.le_of_ble_eq_true rfl) (Nat.le_of_ble_eq_true rfl) hcx hX hbl hbA hA hAl hf218 hf219 hf220 hf221 hf222 hf223 hf224 hf225 hf226 hf227 hf228 hf229 hf230 hf231 hf232 hf233 hf234 hf235 hf236 hf237 hf238 hf239 hf240 hf241 hf242 hf246 hf247 hf248 hf249 (hP.sub [0, 11, 12, 13, 14, 15, 16, 17, 18, 66, 67, 68, 69, 70, 71, 72, 86, 89, 93, 97] rfl) (hD.sub [0, 11, 12, 13, 14, 15, 16, 17, 18, 66, 67, 68, 69, 70, 71, 72, 86, 89, 93, 97] (by decide) rfl) hS hl
    by_cases c275 : x256 = 18
    · refine lv_tableIn (off := 667) (tgt := 700) hx hb dL_law_33 (by rw [c275]; decide) (by rw [c275]; decide) (by rw [c275]; decide) (by decide) ?_
      exact lc_18 (Nat.le_of_ble_eq_true rfl) (Nat.le_of_ble_eq_true rfl) hcx hX hbl hbA hA hAl hf218 hf219 hf220 hf221 hf222 hf223 hf224 hf225 hf226 hf227 hf228 hf229 hf230 hf231 hf232 hf233 hf234 hf235 hf236 hf237 hf238 hf239 hf240 hf241 hf250 (hP.sub [0, 72, 86, 98] rfl) (hD.sub [0, 72, 86, 98] (by decide) rfl) hS hl
    by_cases c276 : x256 = 19
    · refine lv_tableIn (off := 690) (tgt := 723) hx hb dL_law_33 (by rw [c276]; decide) (by rw [c276]; decide) (by rw [c276]; decide) (by decide) ?_
      exact lc_19 (Nat.le_of_ble_eq_true rfl) (Nat.le_of_ble_eq_true rfl) hcx hX hbl hbA hA hAl hf218 hf219 hf220 hf221 hf222 hf223 hf224 hf225 hf226 hf227 hf228 hf229 hf230 hf231 hf232 hf233 hf234 hf235 hf236 hf237 hf238 hf239 hf240 hf241 hf250 (hP.sub [0, 72, 86, 98] rfl) (hD.sub [0, 72, 86, 98] (by decide) rfl) hS hl
    by_cases c277 : x256 = 20
    · refine lv_tableIn (off := 713) (tgt := 746) hx hb dL_law_33 (by rw [c277]; decide) (by rw [c277]; decide) (by rw [c277]; decide) (by decide) ?_
      exact lc_20 (Nat.le_of_ble_eq_true rfl) (Nat.le_of_ble_eq_true rfl) hcx hX hbl hbA hA hAl hf218 hf219 hf220 hf221 hf222 hf223 hf224 hf225 hf226 hf227 hf228 hf229 hf230 hf231 hf232 hf233 hf234 hf235 hf236 hf237 hf238 hf239 hf240 hf241 hf242 hf246 hf247 hf248 hf249 hf250 (hP.sub [0, 11, 19, 20, 72, 83, 86, 89, 90, 93, 97, 98] rfl) (hD.sub [0, 11, 19, 20, 72, 83, 86, 89, 90, 93, 97, 98] (by decide) rfl) hS hl
    by_cases c278 : x256 = 21
    · refine lv_tableIn (off := 726) (tgt := 759) hx hb dL_law_33 (by rw [c278]; decide) (by rw [c278]; decide) (by rw [c278]; decide) (by decide) ?_
      exact lc_21 (Nat.le_of_ble_eq_true rfl) (Nat.le_of_ble_eq_true rfl) hcx hX hbl hbA hA hAl hf218 hf219 hf220 hf221 hf222 hf223 hf224 hf225 hf226 hf227 hf228 hf229 hf230 hf231 hf232 hf233 hf234 hf235 hf236 hf237 hf238 hf239 hf240 hf241 hf242 hf246 hf247 hf248 hf249 hf250 (hP.sub [0, 11, 12, 13, 14, 15, 16, 17, 18, 19, 20, 66, 67, 68, 69, 70, 71, 72, 83, 86, 89, 90, 93, 97, 98] rfl) (hD.sub [0, 11, 12, 13, 14, 15, 16, 17, 18, 19, 20, 66, 67, 68, 69, 70, 71, 72, 83, 86, 89, 90, 93, 97, 98] (by decide) rfl) hS hl
    by_cases c279 : x256 = 22
    · refine lv_tableIn (off := 739) (tgt := 772) hx hb dL_law_33 (by rw [c279]; decide) (by rw [c279]; decide) (by rw [c279]; decide) (by decide) ?_
      exact lc_22 (Nat.le_of_ble_eq_true rfl) (Nat.le_of_ble_eq_true rfl) hcx hX hbl hbA hA hAl hf218 hf219 hf220 hf221 hf222 hf223 hf224 hf225 hf226 hf227 hf228 hf229 hf230 hf231 hf232 hf233 hf234 hf235 hf236 hf237 hf238 hf239 hf240 hf241 hf250 (hP.sub [0, 72, 86, 98] rfl) (hD.sub [0, 72, 86, 98] (by decide) rfl) hS hl
    by_cases c280 : x256 = 23
    · refine lv_tableIn (off := 772) (tgt := 805) hx hb dL_law_33 (by rw [c280]; decide) (by rw [c280]; decide) (by rw [c280]; decide) (by decide) ?_
      exact lc_23 (Nat.le_of_ble_eq_true rfl) (Nat.le_of_ble_eq_true rfl) hcx hX hbl hbA hA hAl hf218 hf219 hf220 hf221 hf222 hf223 hf224 hf225 hf226 hf227 hf228 hf229 hf230 hf231 hf232 hf233 hf234 hf235 hf236 hf237 hf238 hf239 hf240 hf241 hf250 (hP.sub [0, 72, 83, 86, 98] rfl) (hD.sub [0, 72, 83, 86, 98] (by decide) rfl) hS hl
    by_cases c281 : x256 = 24
    · refine lv_tableIn (off := 805) (tgt := 838) hx hb dL_law_33 (by rw [c281]; decide) (by rw [c281]; decide) (by rw [c281]; decide) (by decide) ?_
      exact lc_24 (Nat.le_of_ble_eq_true rfl) (Nat.le_of_ble_eq_true rfl) hcx hX hbl hbA hA hAl hf218 hf219 hf220 hf221 hf222 hf223 hf224 hf225 hf226 hf227 hf228 hf229 hf230 hf231 hf232 hf233 hf234 hf235 hf236 hf237 hf238 hf239 hf240 hf241 hf250 (hP.sub [0, 11, 19, 20, 72, 83, 86, 91, 98] rfl) (hD.sub [0, 11, 19, 20, 72, 83, 86, 91, 98] (by decide) rfl) hS hl
    by_cases c282 : x256 = 25
    · refine lv_tableIn (off := 818) (tgt := 851) hx hb dL_law_33 (by rw [c282]; decide) (by rw [c282]; decide) (by rw [c282]; decide) (by decide) ?_
      exact lc_25 (Nat.le_of_ble_eq_true rfl) (Nat.le_of_ble_eq_true rfl) hcx hX hbl hbA hA hAl hf218 hf219 hf220 hf221 hf222 hf223 hf224 hf225 hf226 hf227 hf228 hf229 hf230 hf231 hf232 hf233 hf234 hf235 hf236 hf237 hf238 hf239 hf240 hf241 hf250 (hP.sub [0, 72, 86, 98] rfl) (hD.sub [0, 72, 86, 98] (by decide) rfl) hS hl
    by_cases c283 : x256 = 26
    · refine lv_tableIn (off := 841) (tgt := 874) hx hb dL_law_33 (by rw [c283]; decide) (by rw [c283]; decide) (by rw [c283]; decide) (by decide) ?_
      exact lc_26 (Nat.le_of_ble_eq_true rfl) (Nat.le_of_ble_eq_true rfl) hcx hX hbl hbA hA hAl hf218 hf219 hf220 hf221 hf222 hf223 hf224 hf225 hf226 hf227 hf228 hf229 hf230 hf231 hf232 hf233 hf234 hf235 hf236 hf237 hf238 hf239 hf240 hf241 hf250 (hP.sub [0, 72, 86, 98] rfl) (hD.sub [0, 72, 86, 98] (by decide) rfl) hS hl
    by_cases c284 : x256 = 27
    · refine lv_tableIn (off := 864) (tgt := 897) hx hb dL_law_33 (by rw [c284]; decide) (by rw [c284]; decide) (by rw [c284]; decide) (by decide) ?_
      exact lc_27 (Nat.le_of_ble_eq_true rfl) (Nat.le_of_ble_eq_true rfl) hcx hX hbl hbA hA hAl hf218 hf219 hf220 hf221 hf222 hf223 hf224 hf225 hf226 hf227 hf228 hf229 hf230 hf231 hf232 hf233 hf234 hf235 hf236 hf237 hf238 hf239 hf240 hf241 hf250 (hP.sub [0, 11, 72, 86, 98] rfl) (hD.sub [0, 11, 72, 86, 98] (by decide) rfl) hS hl
    by_cases c285 : x256 = 28
    · refine lv_tableIn (off := 877) (tgt := 910) hx hb dL_law_33 (by rw [c285]; decide) (by rw [c285]; decide) (by rw [c285]; decide) (by decide) ?_
      exact lc_28 (Nat.le_of_ble_eq_true rfl) (Nat.le_of_ble_eq_true rfl) hcx hX hbl hbA hA hAl hf218 hf219 hf220 hf221 hf222 hf223 hf224 hf225 hf226 hf227 hf228 hf229 hf230 hf231 hf232 hf233 hf234 hf235 hf236 hf237 hf238 hf239 hf240 hf241 hf242 hf246 hf247 hf248 hf249 hf250 (hP.sub [0, 11, 12, 13, 14, 15, 16, 17, 18, 66, 67, 68, 69, 70, 71, 72, 86, 89, 90, 93, 97, 98] rfl) (hD.sub [0, 11, 12, 13, 14, 15, 16, 17, 18, 66, 67, 68, 69, 70, 71, 72, 86, 89, 90, 93, 97, 98] (by decide) rfl) hS hl
    by_cases c286 : x256 = 29
    · refine lv_tableIn (off := 900) (tgt := 933) hx hb dL_law_33 (by rw [c286]; decide) (by rw [c286]; decide) (by rw [c286]; decide) (by decide) ?_
      exact lc_29 (Nat.le_of_ble_eq_true rfl) (Nat.le_of_ble_eq_true rfl) hcx hX hbl hbA hA hAl hf218 hf219 hf220 hf221 hf222 hf223 hf224 hf225 hf226 hf227 hf228 hf229 hf230 hf231 hf232 hf233 hf234 hf235 hf236 hf237 hf238 hf239 hf240 hf241 hf242 hf246 hf247 hf248 hf249 (hP.sub [0, 11, 13, 14, 15, 16, 17, 18, 66, 67, 68, 69, 70, 71, 72, 86, 89, 90, 93, 97] rfl) (hD.sub [0, 11, 13, 14, 15, 16, 17, 18, 66, 67, 68, 69, 70, 71, 72, 86, 89, 90, 93, 97] (by decide) rfl) hS hl
    by_cases c287 : x256 = 30
    · refine lv_tableIn (off := 913) (tgt := 946) hx hb dL_law_33 (by rw [c287]; decide) (by rw [c287]; decide) (by rw [c287]; decide) (by decide) ?_
      exact lc_30 (Nat.le_of_ble_eq_true rfl) (Nat.le_of_ble_eq_true rfl) hcx hX hbl hbA hA hAl hf218 hf219 hf220 hf221 hf222 hf223 hf224 hf225 hf226 hf227 hf228 hf229 hf230 hf231 hf232 hf233 hf234 hf235 hf236 hf237 hf238 hf239 hf240 hf241 hf250 (hP.sub [0, 11, 72, 86, 98] rfl) (hD.sub [0, 11, 72, 86, 98] (by decide) rfl) hS hl
    by_cases c288 : x256 = 31
    · refine lv_tableIn (off := 926) (tgt := 959) hx hb dL_law_33 (by rw [c288]; decide) (by rw [c288]; decide) (by rw [c288]; decide) (by decide) ?_
      exact lc_31 (Nat.le_of_ble_eq_true rfl) (Nat.le_of_ble_eq_true rfl) hcx hX hbl hbA hA hAl hf218 hf219 hf220 hf221 hf222 hf223 hf224 hf225 hf226 hf227 hf228 hf229 hf230 hf231 hf232 hf233 hf234 hf235 hf236 hf237 hf238 hf239 hf240 hf241 hf250 (hP.sub [0, 72, 86, 98] rfl) (hD.sub [0, 72, 86, 98] (by decide) rfl) hS hl
    by_cases c289 : x256 = 32
    · refine lv_tableIn (off := 959) (tgt := 992) hx hb dL_law_33 (by rw [c289]; decide) (by rw [c289]; decide) (by rw [c289]; decide) (by decide) ?_
      exact lc_32 (Nat.le_of_ble_eq_true rfl) (Nat.le_of_ble_eq_true rfl) hcx hX hbl hbA hA hAl hf218 hf219 hf220 hf221 hf222 hf223 hf224 hf225 hf226 hf227 hf228 hf229 hf230 hf231 hf232 hf233 hf234 hf235 hf236 hf237 hf238 hf239 hf240 hf241 (hP.sub [0, 83, 86] rfl) (hD.sub [0, 83, 86] (by decide) rfl) hS hl
    by_cases c290 : x256 = 33
    · refine lv_tableIn (off := 982) (tgt := 1015) hx hb dL_law_33 (by rw [c290]; decide) (by rw [c290]; decide) (by rw [c290]; decide) (by decide) ?_
      exact lc_33 (Nat.le_of_ble_eq_true rfl) (Nat.le_of_ble_eq_true rfl) hcx hX hbl hbA hA hAl hf218 hf219 hf220 hf221 hf222 hf223 hf224 hf225 hf226 hf227 hf228 hf229 hf230 hf231 hf232 hf233 hf234 hf235 hf236 hf237 hf238 hf239 hf240 hf241 hf242 hf250 (hP.sub [0, 72, 86, 93, 98] rfl) (hD.sub [0, 72, 86, 93, 98] (by decide) rfl) hS hl
    by_cases c291 : x256 = 34
    · refine lv_tableIn (off := 1041) (tgt := 1074) hx hb dL_law_33 (by rw [c291]; decide) (by rw [c291]; decide) (by rw [c291]; decide) (by decide) ?_
      exact lc_34 (Nat.le_of_ble_eq_true rfl) (Nat.le_of_ble_eq_true rfl) hcx hX hbl hbA hA hAl hf218 hf219 hf220 hf221 hf222 hf223 hf224 hf225 hf226 hf227 hf228 hf229 hf230 hf231 hf232 hf233 hf234 hf235 hf236 hf237 hf238 hf239 hf240 hf241 (hP.sub [0, 84, 86] rfl) (hD.sub [0, 84, 86] (by decide) rfl) hS hl
    by_cases c292 : x256 = 35
    · refine lv_tableIn (off := 1064) (tgt := 1097) hx hb dL_law_33 (by rw [c292]; decide) (by rw [c292]; decide) (by rw [c292]; decide) (by decide) ?_
      exact lc_35 (Nat.le_of_ble_eq_true rfl) (Nat.le_of_ble_eq_true rfl) hcx hX hbl hbA hA hAl hf218 hf219 hf220 hf221 hf222 hf223 hf224 hf225 hf226 hf227 hf228 hf229 hf230 hf231 hf232 hf233 hf234 hf235 hf236 hf237 hf238 hf239 hf240 hf241 (hP.sub [0, 86] rfl) (hD.sub [0, 86] (by decide) rfl) hS hl
    by_cases c293 : x256 = 36
    · refine lv_tableIn (off := 1087) (tgt := 1120) hx hb dL_law_33 (by rw [c293]; decide) (by rw [c293]; decide) (by rw [c293]; decide) (by decide) ?_
      exact lc_36 (Nat.le_of_ble_eq_true rfl) (Nat.le_of_ble_eq_true rfl) hcx hX hbl hbA hA hAl hf218 hf219 hf220 hf221 hf222 hf223 hf224 hf225 hf226 hf227 hf228 hf229 hf230 hf231 hf232 hf233 hf234 hf235 hf236 hf237 hf238 hf239 hf240 hf241 hf250 (hP.sub [0, 12, 72, 84, 86, 98] rfl) (hD.sub [0, 12, 72, 84, 86, 98] (by decide) rfl) hS hl
    by_cases c294 : x256 = 37
    · refine lv_tableIn (off := 1110) (tgt := 1143) hx hb dL_law_33 (by rw [c294]; decide) (by rw [c294]; decide) (by rw [c294]; decide) (by decide) ?_
      exact lc_37 (Nat.le_of_ble_eq_true rfl) (Nat.le_of_ble_eq_true rfl) hcx hX hbl hbA hA hAl hf218 hf219 hf220 hf221 hf222 hf223 hf224 hf225 hf226 hf227 hf228 hf229 hf230 hf231 hf232 hf233 hf234 hf235 hf236 hf237 hf238 hf239 hf240 hf241 hf250 (hP.sub [0, 12, 72, 84, 86, 98] rfl) (hD.sub [0, 12, 72, 84, 86, 98] (by decide) rfl) hS hl
    by_cases c295 : x256 = 38
    · refine lv_tableIn (off := 1143) (tgt := 1176) hx hb dL_law_33 (by rw [c295]; decide) (by rw [c295]; decide) (by rw [c295]; decide) (by decide) ?_
      exact lc_38 (Nat.le_of_ble_eq_true rfl) (Nat.le_of_ble_eq_true rfl) hcx hX hbl hbA hA hAl hf218 hf219 hf220 hf221 hf222 hf223 hf224 hf225 hf226 hf227 hf228 hf229 hf230 hf231 hf232 hf233 hf234 hf235 hf236 hf237 hf238 hf239 hf240 hf241 hf250 (hP.sub [0, 12, 72, 84, 86, 98] rfl) (hD.sub [0, 12, 72, 84, 86, 98] (by decide) rfl) hS hl
    by_cases c296 : x256 = 39
    · refine lv_tableIn (off := 1176) (tgt := 1209) hx hb dL_law_33 (by rw [c296]; decide) (by rw [c296]; decide) (by rw [c296]; decide) (by decide) ?_
      by_cases i0 : xs 1 = 0
      · exact lc_39_0 i0 (Nat.le_of_ble_eq_true rfl) (Nat.le_of_ble_eq_true rfl) hcx hX hbl hbA hA hAl hf180 hf181 hf182 hf185 hf186 hf187 hf218 hf219 hf220 hf221 hf222 hf223 hf224 hf225 hf226 hf227 hf228 hf229 hf230 hf231 hf232 hf233 hf234 hf235 hf236 hf237 hf238 hf239 hf240 hf241 hf246 hf247 hf248 hf249 hf252 hf253 hf254 (hP.sub [0, 10, 21, 22, 23, 24, 25, 26, 66, 67, 68, 69, 70, 71, 85, 86, 92, 97, 100] rfl) (hD.sub [0, 10, 21, 22, 23, 24, 25, 26, 66, 67, 68, 69, 70, 71, 85, 86, 92, 97, 100] (by decide) rfl) hS hl
      by_cases i1 : xs 1 = 1
      · exact lc_39_1 i1 (Nat.le_of_ble_eq_true rfl) (Nat.le_of_ble_eq_true rfl) hcx hX hbl hbA hA hAl hf180 hf181 hf182 hf185 hf186 hf187 hf218 hf219 hf220 hf221 hf222 hf223 hf224 hf225 hf226 hf227 hf228 hf229 hf230 hf231 hf232 hf233 hf234 hf235 hf236 hf237 hf238 hf239 hf240 hf241 hf246 hf247 hf248 hf249 hf252 hf253 hf254 (hP.sub [0, 10, 27, 28, 29, 30, 31, 32, 66, 67, 68, 69, 70, 71, 85, 86, 92, 97, 100] rfl) (hD.sub [0, 10, 27, 28, 29, 30, 31, 32, 66, 67, 68, 69, 70, 71, 85, 86, 92, 97, 100] (by decide) rfl) hS hl
      by_cases i2 : xs 1 = 2
      · exact lc_39_2 i2 (Nat.le_of_ble_eq_true rfl) (Nat.le_of_ble_eq_true rfl) hcx hX hbl hbA hA hAl hf180 hf181 hf182 hf185 hf186 hf187 hf218 hf219 hf220 hf221 hf222 hf223 hf224 hf225 hf226 hf227 hf228 hf229 hf230 hf231 hf232 hf233 hf234 hf235 hf236 hf237 hf238 hf239 hf240 hf241 hf246 hf247 hf248 hf249 hf252 hf253 hf254 (hP.sub [0, 10, 33, 34, 35, 36, 37, 38, 66, 67, 68, 69, 70, 71, 85, 86, 92, 97, 100] rfl) (hD.sub [0, 10, 33, 34, 35, 36, 37, 38, 66, 67, 68, 69, 70, 71, 85, 86, 92, 97, 100] (by decide) rfl) hS hl
      have ho : ¬ xs 1 = 0 ∧ ¬ xs 1 = 1 ∧ ¬ xs 1 = 2 := ⟨i0, i1, i2⟩
      exact lc_39_out ho (Nat.le_of_ble_eq_true rfl) (Nat.le_of_ble_eq_true rfl) hcx hX hbl hbA hA hAl hf218 hf219 hf220 hf221 hf222 hf223 hf224 hf225 hf226 hf227 hf228 hf229 hf230 hf231 hf232 hf233 hf234 hf235 hf236 hf237 hf238 hf239 hf240 hf241 (hP.sub [0, 86] rfl) (hD.sub [0, 86] (by decide) rfl) hS hl
    by_cases c297 : x256 = 40
    · refine lv_tableIn (off := 1199) (tgt := 1232) hx hb dL_law_33 (by rw [c297]; decide) (by rw [c297]; decide) (by rw [c297]; decide) (by decide) ?_
      by_cases i0 : xs 1 = 0
      · exact lc_40_0 i0 (Nat.le_of_ble_eq_true rfl) (Nat.le_of_ble_eq_true rfl) hcx hX hbl hbA hA hAl hf185 hf186 hf187 hf218 hf219 hf220 hf221 hf222 hf223 hf224 hf225 hf226 hf227 hf228 hf229 hf230 hf231 hf232 hf233 hf234 hf235 hf236 hf237 hf238 hf239 hf240 hf241 hf252 hf253 hf254 (hP.sub [0, 85, 86, 100] rfl) (hD.sub [0, 85, 86, 100] (by decide) rfl) hS hl
      by_cases i1 : xs 1 = 1
      · exact lc_40_1 i1 (Nat.le_of_ble_eq_true rfl) (Nat.le_of_ble_eq_true rfl) hcx hX hbl hbA hA hAl hf185 hf186 hf187 hf218 hf219 hf220 hf221 hf222 hf223 hf224 hf225 hf226 hf227 hf228 hf229 hf230 hf231 hf232 hf233 hf234 hf235 hf236 hf237 hf238 hf239 hf240 hf241 hf252 hf253 hf254 (hP.sub [0, 85, 86, 100] rfl) (hD.sub [0, 85, 86, 100] (by decide) rfl) hS hl
      by_cases i2 : xs 1 = 2
      · exact lc_40_2 i2 (Nat.le_of_ble_eq_true rfl) (Nat.le_of_ble_eq_true rfl) hcx hX hbl hbA hA hAl hf185 hf186 hf187 hf218 hf219 hf220 hf221 hf222 hf223 hf224 hf225 hf226 hf227 hf228 hf229 hf230 hf231 hf232 hf233 hf234 hf235 hf236 hf237 hf238 hf239 hf240 hf241 hf252 hf253 hf254 (hP.sub [0, 85, 86, 100] rfl) (hD.sub [0, 85, 86, 100] (by decide) rfl) hS hl
      have ho : ¬ xs 1 = 0 ∧ ¬ xs 1 = 1 ∧ ¬ xs 1 = 2 := ⟨i0, i1, i2⟩
      exact lc_40_out ho (Nat.le_of_ble_eq_true rfl) (Nat.le_of_ble_eq_true rfl) hcx hX hbl hbA hA hAl hf218 hf219 hf220 hf221 hf222 hf223 hf224 hf225 hf226 hf227 hf228 hf229 hf230 hf231 hf232 hf233 hf234 hf235 hf236 hf237 hf238 hf239 hf240 hf241 (hP.sub [0, 86] rfl) (hD.sub [0, 86] (by decide) rfl) hS hl
    by_cases c298 : x256 = 41
    · refine lv_tableIn (off := 1222) (tgt := 1255) hx hb dL_law_33 (by rw [c298]; decide) (by rw [c298]; decide) (by rw [c298]; decide) (by decide) ?_
      exact lc_41 (Nat.le_of_ble_eq_true rfl) (Nat.le_of_ble_eq_true rfl) hcx hX hbl hbA hA hAl hf218 hf219 hf220 hf221 hf222 hf223 hf224 hf225 hf226 hf227 hf228 hf229 hf230 hf231 hf232 hf233 hf234 hf235 hf236 hf237 hf238 hf239 hf240 hf241 hf242 hf244 hf246 hf247 hf248 hf249 hf250 (hP.sub [0, 45, 48, 66, 72, 75, 83, 84, 86, 93, 95, 97, 98] rfl) (hD.sub [0, 45, 48, 66, 72, 75, 83, 84, 86, 93, 95, 97, 98] (by decide) rfl) hS hl
    have hsw : ∀ v : Nat, v ≤ 41 → ¬ x256 = nI v := sw_s (n := 40) (sw_s (n := 39) (sw_s (n := 38) (sw_s (n := 37) (sw_s (n := 36) (sw_s (n := 35) (sw_s (n := 34) (sw_s (n := 33) (sw_s (n := 32) (sw_s (n := 31) (sw_s (n := 30) (sw_s (n := 29) (sw_s (n := 28) (sw_s (n := 27) (sw_s (n := 26) (sw_s (n := 25) (sw_s (n := 24) (sw_s (n := 23) (sw_s (n := 22) (sw_s (n := 21) (sw_s (n := 20) (sw_s (n := 19) (sw_s (n := 18) (sw_s (n := 17) (sw_s (n := 16) (sw_s (n := 15) (sw_s (n := 14) (sw_s (n := 13) (sw_s (n := 12) (sw_s (n := 11) (sw_s (n := 10) (sw_s (n := 9) (sw_s (n := 8) (sw_s (n := 7) (sw_s (n := 6) (sw_s (n := 5) (sw_s (n := 4) (sw_s (n := 3) (sw_s (n := 2) (sw_s (n := 1) (sw_s (n := 0) (sw_0 (P := fun v => ¬ x256 = nI v) c257) c258) c259) c260) c261) c262) c263) c264) c265) c266) c267) c268) c269) c270) c271) c272) c273) c274) c275) c276) c277) c278) c279) c280) c281) c282) c283) c284) c285) c286) c287) c288) c289) c290) c291) c292) c293) c294) c295) c296) c297) c298
    refine lv_tableOut (tgt := 1278) hx hb dL_law_33 (sw_out (hi := 41) (by decide) hsw) (by decide) ?_
    refine lv_iinc (v := 6) (lv' := [(3, .int 6), (2, .ref q188), (1, .ref q1), (0, .ref b)]) hx hb dL_law_1278 hl (k := 0) rfl (by decide) (by decide) rfl (fun ls hl => ?_)
    refine lv_goto (tgt := 18) hx hb dL_law_1281 (by decide) ?_
    refine lv_iload_n hx hb dL_law_18 rfl (lv_at hl 0 rfl) ?_
    refine lv_aload_n hx hb dL_law_19 rfl (lv_at hl 3 rfl) ?_
    refine va_slen hx hb hX hbl hbA hS dL_law_20 ?_
    refine lv_tope (y := 6) (by decide) ?_
    refine lv_bipush (v := 6) hx hb dL_law_21 (by decide) ?_
    refine lv_isub hx hb dL_law_23 ?_
    refine lv_tope (y := 0) (by decide) ?_
    refine lv_icmp_gt (tgt := 1284) hx hb dL_law_24 (by decide) (fun _ => ?_) (fun c299 => absurd (by decide) c299)
    refine lv_iconst (v := 1) hx hb dL_law_1284 (by decide) ?_
    refine va_forget (fun q hq => hAl _ (hS.2.2 q hq)) ?_
    refine W.widen (k := 600000) (n := 7302250) (Nat.le_of_ble_eq_true rfl) (Nat.le_of_ble_eq_true rfl) ?_
    exact lw_ret hx hb hr hlocks dL_law_1285
  · refine lv_iload_n hx hb dL_law_18 rfl (lv_at hl 0 rfl) ?_
    refine lv_aload_n hx hb dL_law_19 rfl (lv_at hl 3 rfl) ?_
    refine va_slen hx hb hX hbl hbA hS dL_law_20 ?_
    refine lv_bipush (v := 6) hx hb dL_law_21 (by decide) ?_
    refine lv_isub hx hb dL_law_23 ?_
    refine lv_icmp_gt (tgt := 1284) hx hb dL_law_24 (by decide) (fun _ => ?_) (fun c9 => absurd (L_lt L (by omega)) c9)
    refine lv_iconst (v := 1) hx hb dL_law_1284 (by decide) ?_
    refine va_forget (fun q hq => hAl _ (hS.2.2 q hq)) ?_
    refine W.widen (k := 600000) (n := 7302250) (Nat.le_of_ble_eq_true rfl) (Nat.le_of_ble_eq_true rfl) ?_
    exact lw_ret hx hb hr hlocks dL_law_1285
