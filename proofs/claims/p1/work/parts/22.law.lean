set_option maxHeartbeats 40000000 in
set_option maxRecDepth 100000 in
theorem whole_start {p : Program} {e : Env} {s : State} {m : MethodId} {below : List Frame} {meth : Method} {c : Code} (l : Launch) (hflags : l.flags = flags0) {b L : Nat} {xs : Nat → Int32} (hL : L ≤ 6) (C0 : lw_At p s m meth c b L xs) : W p l e room_1 s m #[Value.ref b] below meth c s.heap [] 0 0 (lw_Z below #[Value.ref b] s) (entryFrame m ([Value.ref b] : List Value).toArray 4) := by
  obtain ⟨hx, hb, hr, hml, hown, hts0, hX, hbl, hlocks, hgv⟩ := id C0
  obtain ⟨g, hE⟩ := law_ev hts0
  obtain ⟨A, hAe⟩ : ∃ A : Nat → Prop, A = fun q => s.heap.size ≤ q := ⟨_, rfl⟩
  have hA : ∀ q : Nat, s.heap.size ≤ q → A q := fun q h => by rw [hAe]; exact h
  have hAl : ∀ q : Nat, A q → s.heap.size ≤ q := fun q h => by rw [hAe] at h; exact h
  have hbA : ¬ A b := fun h => absurd (hAl b h) (Nat.not_le.mpr hbl)
  obtain ⟨z, hF⟩ := law_sf (A := A) hts0 hgv (fun a h1 h2 => absurd (hAl a h2) (Nat.not_le.mpr h1))
  have hb : c.code = cL_law := hb
  have hown : s.vm.findClass RL = some m.cls := hown
  have hts : ∀ w ∈ wsL_law, w.before #[Value.ref b] s = true := fun w h => hts0 w (wsL_law_in w h)
  have hcx : Cx p s m #[Value.ref b] meth c cL_law 4 ret RL meth.name g := ⟨hx, hb, hml, hr, hlocks, hown, hts, hE, rfl⟩
  have hK := hE.1
  have hl := lv_entry ([.ref b]) (n := 4) (Nat.le_of_ble_eq_true rfl)
  rw [lg_entry_eq]
  generalize (lg_sl ([.ref b]) ++ List.replicate (4 - (lg_sl ([.ref b])).length) Slot.unset).toArray = ls at hl ⊢
  have hl : lv_has ls 4 [(0, .ref b)] := hl
  suffices key : ∀ (H : Heap) (locs : List Loc), va_S A s.heap H locs → va_P g.1 vwCl [] H → va_D A [] → W p l e room_1 s m #[Value.ref b] below meth c H locs 0 0 (lw_Z below #[Value.ref b] s) (F0 m 0 ls []) from key s.heap [] va_S.rf (fun k q h => by simp at h) ⟨fun i j p q h => by simp at h, fun k q h => by simp at h⟩
  intro H locs hS hP hD
  refine va_new (ci := 10) (fs := [.null, .int 0, .null, .null, .null, .null, .null, .null, .null, .null, .null, .null, .null, .int 0]) (C := RX10) (T := TX10) (N := 14) hx hb hts inlX10 tyX10 tyX10_ok hown (hts _ q1_0) (hts _ q1_1) (hts _ q1_2) hK hP hD hS hA rfl (by decide +kernel) (Nat.le_of_ble_eq_true rfl) (Nat.le_of_ble_eq_true rfl) dL_law_0 (fun q1 H hP hD hS => ?_)
  have hP : va_P g.1 vwCl [(q1, .inr (10, [.null, .int 0, .null, .null, .null, .null, .null, .null, .null, .null, .null, .null, .null, .int 0]))] H := hP
  have hD : va_D A [(q1, .inr (10, [.null, .int 0, .null, .null, .null, .null, .null, .null, .null, .null, .null, .null, .null, .int 0]))] := hD
  refine lv_dup hx hb dL_law_3 rfl ?_
  refine kV (wc := [(q1, .inr (10, [.null, .int 0, .null, .null, .null, .null, .null, .null, .null, .null, .null, .null, .null, .int 0]))]) (wr := []) (rNs (As := []) (rest := [.ref q1]) hcx hF hS (va_free (wc := [(q1, .inr (10, [.null, .int 0, .null, .null, .null, .null, .null, .null, .null, .null, .null, .null, .null, .int 0]))]) hD hS hA [0] rfl) (c_X10_init H.size) (gdC q1_8) q1_2 q1_6 q1_7 rfl dvX10_init.2 ⟨Nat.le_of_ble_eq_true rfl, Nat.le_of_ble_eq_true rfl⟩ (hP.sub [0] rfl) (hD.sub [0] (by decide) rfl) rfl hl.1 rfl (Nat.le_of_ble_eq_true rfl) dL_law_4 ⟨Nat.le_of_ble_eq_true rfl, Nat.le_of_ble_eq_true rfl⟩) hP hD hS hA [0] [] rfl rfl (by decide) (by decide) (fun W' H locs hw hP hD hS => ?_)
  obtain ⟨q2, q3, q4, q5, q6, q7, q8, q9, q10, q11, q12, q13, q14, q15, q16, q17, q18, q19, q20, q21, q22, q23, q24, q25, q26, q27, q28, q29, q30, q31, q32, q33, q34, q35, q36, q37, q38, q39, q40, q41, q42, q43, q44, q45, q46, q47, q48, q49, q50, q51, q52, q53, q54, q55, q56, q57, q58, q59, q60, q61, q62, q63, q64, q65, q66, q67, q68, q69, q70, q71, q72, q73, q74, q75, q76, q77, q78, q79, q80, q81, q82, q83, q84, q85, q86, f87, q88, q89, f90, f91, f92, f93, f94, f95, q96, q97, q98, q99, q100, f101, f102, f103, f104, f105, f106, f107, f108, f109, f110, f111, f112, f113, f114, f115, f116, f117, f118, f119, f120, f121, f122, f123, f124, f125, f126, f127, f128, q129, f130, f131, q132, f133, f134, q135, q136, f137, f138, f139, f140, f141, f142, f143, f144, q145, f146, f147, q148, f149, f150, x151, f152, f153, f154, f155, f156, q157, q158, f159, f160, f161, x162, f163, f164, f165, f166, f167, q168, q169, q170, q171, q172, q173, q174, q175, q176, q177, q178, f179, rfl, hf180, hf181, hf182, hf183, hf184, hf185, hf186, hf187⟩ := hw
  have hP : va_P g.1 vwCl [(q1, .inr (10, [.ref q2, .int 0, .ref q3, .ref q52, .ref q73, .ref q13, .ref q67, .ref q76, .ref q11, .ref q86, .ref q84, .ref q12, .ref q85, .int 0])), (q2, .inl (gB g, 1600, .inl f87)), (q3, .inr (5, [.ref q4, .int 0, .int 0, .int 0, .int (-1)])), (q4, .inr (8, [.ref q88, .ref q89, .int 0, .int 0, .int 0, .int 0, .int 0, .long 0, .int 0, .int 0])), (q5, .inr (7, [.ref q6, .ref q7, .ref q8, .ref q9, .ref q10, .int 0, .int 0, .int 0, .int 0, .int 0])), (q6, .inl (gI g, 5, .inl f90)), (q7, .inl (gI g, 5, .inl f91)), (q8, .inl (gI g, 5, .inl f92)), (q9, .inl (gI g, 5, .inl f93)), (q10, .inl (gI g, 5, .inl f94)), (q11, .inl (gO g, 3, .inr (.inr (.inr (.inr f95))))), (q12, .inr (4, [.ref q13, .ref q73, .ref q67, .ref q84, .ref q14, .ref q96, .ref q97, .ref q98, .ref q99, .ref q20, .ref q21, .int 0])), (q13, .inr (0, [.ref q73, .ref q100, .int 0, .int 0])), (q14, .inr (7, [.ref q15, .ref q16, .ref q17, .ref q18, .ref q19, .int 0, .int 0, .int 0, .int 0, .int 0])), (q15, .inl (gI g, 5, .inl f101)), (q16, .inl (gI g, 5, .inl f102)), (q17, .inl (gI g, 5, .inl f103)), (q18, .inl (gI g, 5, .inl f104)), (q19, .inl (gI g, 5, .inl f105)), (q20, .inl (gI g, 5, .inl f106)), (q21, .inl (gI g, 5, .inl f107)), (q22, .inr (7, [.ref q23, .ref q24, .ref q25, .ref q26, .ref q27, .int 0, .int 0, .int 0, .int 0, .int 0])), (q23, .inl (gI g, 5, .inl f108)), (q24, .inl (gI g, 5, .inl f109)), (q25, .inl (gI g, 5, .inl f110)), (q26, .inl (gI g, 5, .inl f111)), (q27, .inl (gI g, 5, .inl f112)), (q28, .inr (7, [.ref q29, .ref q30, .ref q31, .ref q32, .ref q33, .int 0, .int 0, .int 0, .int 0, .int 0])), (q29, .inl (gI g, 5, .inl f113)), (q30, .inl (gI g, 5, .inl f114)), (q31, .inl (gI g, 5, .inl f115)), (q32, .inl (gI g, 5, .inl f116)), (q33, .inl (gI g, 5, .inl f117)), (q34, .inr (7, [.ref q35, .ref q36, .ref q37, .ref q38, .ref q39, .int 0, .int 0, .int 0, .int 0, .int 0])), (q35, .inl (gI g, 5, .inl f118)), (q36, .inl (gI g, 5, .inl f119)), (q37, .inl (gI g, 5, .inl f120)), (q38, .inl (gI g, 5, .inl f121)), (q39, .inl (gI g, 5, .inl f122)), (q40, .inl (gI g, 8, .inl f123)), (q41, .inl (gI g, 8, .inl f124)), (q42, .inl (gI g, 8, .inl f125)), (q43, .inl (gI g, 8, .inl f126)), (q44, .inl (gI g, 5, .inl f127)), (q45, .inl (gI g, 5, .inl f128)), (q46, .inr (1, [.ref q47, .ref q48, .ref q129, .int 0, .int 0, .int 0])), (q47, .inl (gI g, 300, .inl f130)), (q48, .inl (gI g, 300, .inl f131)), (q49, .inr (1, [.ref q50, .ref q51, .ref q132, .int 0, .int 0, .int 0])), (q50, .inl (gI g, 300, .inl f133)), (q51, .inl (gI g, 300, .inl f134)), (q52, .inr (9, [.int 0, .int 0, .int 0, .int 0, .int 0, .ref q135, .ref q53, .ref q54, .ref q55, .ref q56, .ref q136, .ref q57, .ref q58, .ref q59, .ref q60, .ref q61, .ref q64])), (q53, .inl (gI g, 8, .inl f137)), (q54, .inl (gI g, 8, .inl f138)), (q55, .inl (gI g, 8, .inl f139)), (q56, .inl (gI g, 8, .inl f140)), (q57, .inl (gI g, 5, .inl f141)), (q58, .inl (gI g, 5, .inl f142)), (q59, .inl (gI g, 5, .inl f143)), (q60, .inl (gI g, 5, .inl f144)), (q61, .inr (1, [.ref q62, .ref q63, .ref q145, .int 0, .int 0, .int 0])), (q62, .inl (gI g, 300, .inl f146)), (q63, .inl (gI g, 300, .inl f147)), (q64, .inr (1, [.ref q65, .ref q66, .ref q148, .int 0, .int 0, .int 0])), (q65, .inl (gI g, 300, .inl f149)), (q66, .inl (gI g, 300, .inl f150)), (q67, .inr (7, [.ref q68, .ref q69, .ref q70, .ref q71, .ref q72, .int 0, .int 0, .int 0, .int 0, .int x151])), (q68, .inl (gI g, 5, .inl f152)), (q69, .inl (gI g, 5, .inl f153)), (q70, .inl (gI g, 5, .inl f154)), (q71, .inl (gI g, 5, .inl f155)), (q72, .inl (gI g, 5, .inl f156)), (q73, .inr (9, [.int 0, .int 0, .int 0, .int 0, .int 0, .ref q157, .ref q40, .ref q41, .ref q42, .ref q43, .ref q158, .ref q44, .ref q75, .ref q45, .ref q74, .ref q46, .ref q49])), (q74, .inl (gI g, 5, .inl f159)), (q75, .inl (gI g, 5, .inl f160)), (q76, .inr (2, [.ref q77, .int 0, .int 0, .int 0])), (q77, .inl (gO g, 41, .inr (.inr (.inr (.inr f161))))), (q78, .inr (7, [.ref q79, .ref q80, .ref q81, .ref q82, .ref q83, .int 0, .int 0, .int 0, .int 0, .int x162])), (q79, .inl (gI g, 5, .inl f163)), (q80, .inl (gI g, 5, .inl f164)), (q81, .inl (gI g, 5, .inl f165)), (q82, .inl (gI g, 5, .inl f166)), (q83, .inl (gI g, 5, .inl f167)), (q84, .inr (3, [.ref q168, .int 0])), (q85, .inr (6, [.ref q13, .ref q169, .ref q170, .ref q171, .ref q172, .ref q173, .ref q174, .ref q175, .ref q176, .ref q177, .ref q178, .int 0, .int 0])), (q86, .inl (gZ g, 3, .inl f179))] H := hP
  have hD : va_D A [(q1, .inr (10, [.ref q2, .int 0, .ref q3, .ref q52, .ref q73, .ref q13, .ref q67, .ref q76, .ref q11, .ref q86, .ref q84, .ref q12, .ref q85, .int 0])), (q2, .inl (gB g, 1600, .inl f87)), (q3, .inr (5, [.ref q4, .int 0, .int 0, .int 0, .int (-1)])), (q4, .inr (8, [.ref q88, .ref q89, .int 0, .int 0, .int 0, .int 0, .int 0, .long 0, .int 0, .int 0])), (q5, .inr (7, [.ref q6, .ref q7, .ref q8, .ref q9, .ref q10, .int 0, .int 0, .int 0, .int 0, .int 0])), (q6, .inl (gI g, 5, .inl f90)), (q7, .inl (gI g, 5, .inl f91)), (q8, .inl (gI g, 5, .inl f92)), (q9, .inl (gI g, 5, .inl f93)), (q10, .inl (gI g, 5, .inl f94)), (q11, .inl (gO g, 3, .inr (.inr (.inr (.inr f95))))), (q12, .inr (4, [.ref q13, .ref q73, .ref q67, .ref q84, .ref q14, .ref q96, .ref q97, .ref q98, .ref q99, .ref q20, .ref q21, .int 0])), (q13, .inr (0, [.ref q73, .ref q100, .int 0, .int 0])), (q14, .inr (7, [.ref q15, .ref q16, .ref q17, .ref q18, .ref q19, .int 0, .int 0, .int 0, .int 0, .int 0])), (q15, .inl (gI g, 5, .inl f101)), (q16, .inl (gI g, 5, .inl f102)), (q17, .inl (gI g, 5, .inl f103)), (q18, .inl (gI g, 5, .inl f104)), (q19, .inl (gI g, 5, .inl f105)), (q20, .inl (gI g, 5, .inl f106)), (q21, .inl (gI g, 5, .inl f107)), (q22, .inr (7, [.ref q23, .ref q24, .ref q25, .ref q26, .ref q27, .int 0, .int 0, .int 0, .int 0, .int 0])), (q23, .inl (gI g, 5, .inl f108)), (q24, .inl (gI g, 5, .inl f109)), (q25, .inl (gI g, 5, .inl f110)), (q26, .inl (gI g, 5, .inl f111)), (q27, .inl (gI g, 5, .inl f112)), (q28, .inr (7, [.ref q29, .ref q30, .ref q31, .ref q32, .ref q33, .int 0, .int 0, .int 0, .int 0, .int 0])), (q29, .inl (gI g, 5, .inl f113)), (q30, .inl (gI g, 5, .inl f114)), (q31, .inl (gI g, 5, .inl f115)), (q32, .inl (gI g, 5, .inl f116)), (q33, .inl (gI g, 5, .inl f117)), (q34, .inr (7, [.ref q35, .ref q36, .ref q37, .ref q38, .ref q39, .int 0, .int 0, .int 0, .int 0, .int 0])), (q35, .inl (gI g, 5, .inl f118)), (q36, .inl (gI g, 5, .inl f119)), (q37, .inl (gI g, 5, .inl f120)), (q38, .inl (gI g, 5, .inl f121)), (q39, .inl (gI g, 5, .inl f122)), (q40, .inl (gI g, 8, .inl f123)), (q41, .inl (gI g, 8, .inl f124)), (q42, .inl (gI g, 8, .inl f125)), (q43, .inl (gI g, 8, .inl f126)), (q44, .inl (gI g, 5, .inl f127)), (q45, .inl (gI g, 5, .inl f128)), (q46, .inr (1, [.ref q47, .ref q48, .ref q129, .int 0, .int 0, .int 0])), (q47, .inl (gI g, 300, .inl f130)), (q48, .inl (gI g, 300, .inl f131)), (q49, .inr (1, [.ref q50, .ref q51, .ref q132, .int 0, .int 0, .int 0])), (q50, .inl (gI g, 300, .inl f133)), (q51, .inl (gI g, 300, .inl f134)), (q52, .inr (9, [.int 0, .int 0, .int 0, .int 0, .int 0, .ref q135, .ref q53, .ref q54, .ref q55, .ref q56, .ref q136, .ref q57, .ref q58, .ref q59, .ref q60, .ref q61, .ref q64])), (q53, .inl (gI g, 8, .inl f137)), (q54, .inl (gI g, 8, .inl f138)), (q55, .inl (gI g, 8, .inl f139)), (q56, .inl (gI g, 8, .inl f140)), (q57, .inl (gI g, 5, .inl f141)), (q58, .inl (gI g, 5, .inl f142)), (q59, .inl (gI g, 5, .inl f143)), (q60, .inl (gI g, 5, .inl f144)), (q61, .inr (1, [.ref q62, .ref q63, .ref q145, .int 0, .int 0, .int 0])), (q62, .inl (gI g, 300, .inl f146)), (q63, .inl (gI g, 300, .inl f147)), (q64, .inr (1, [.ref q65, .ref q66, .ref q148, .int 0, .int 0, .int 0])), (q65, .inl (gI g, 300, .inl f149)), (q66, .inl (gI g, 300, .inl f150)), (q67, .inr (7, [.ref q68, .ref q69, .ref q70, .ref q71, .ref q72, .int 0, .int 0, .int 0, .int 0, .int x151])), (q68, .inl (gI g, 5, .inl f152)), (q69, .inl (gI g, 5, .inl f153)), (q70, .inl (gI g, 5, .inl f154)), (q71, .inl (gI g, 5, .inl f155)), (q72, .inl (gI g, 5, .inl f156)), (q73, .inr (9, [.int 0, .int 0, .int 0, .int 0, .int 0, .ref q157, .ref q40, .ref q41, .ref q42, .ref q43, .ref q158, .ref q44, .ref q75, .ref q45, .ref q74, .ref q46, .ref q49])), (q74, .inl (gI g, 5, .inl f159)), (q75, .inl (gI g, 5, .inl f160)), (q76, .inr (2, [.ref q77, .int 0, .int 0, .int 0])), (q77, .inl (gO g, 41, .inr (.inr (.inr (.inr f161))))), (q78, .inr (7, [.ref q79, .ref q80, .ref q81, .ref q82, .ref q83, .int 0, .int 0, .int 0, .int 0, .int x162])), (q79, .inl (gI g, 5, .inl f163)), (q80, .inl (gI g, 5, .inl f164)), (q81, .inl (gI g, 5, .inl f165)), (q82, .inl (gI g, 5, .inl f166)), (q83, .inl (gI g, 5, .inl f167)), (q84, .inr (3, [.ref q168, .int 0])), (q85, .inr (6, [.ref q13, .ref q169, .ref q170, .ref q171, .ref q172, .ref q173, .ref q174, .ref q175, .ref q176, .ref q177, .ref q178, .int 0, .int 0])), (q86, .inl (gZ g, 3, .inl f179))] := hD
  refine lv_astore_n (lv' := [(1, .ref q1), (0, .ref b)]) hx hb dL_law_7 rfl hl (by decide) rfl (fun ls hl => ?_)
  refine va_new (ci := 11) (fs := [.null, .null, .int 0, .int 0, .int 0, .int 0, .int 0, .int 0, .int 0, .int 0, .long 0, .null, .null, .null, .null, .null, .null, .null, .null, .null, .null, .null, .null, .null, .null, .null, .null, .null, .null, .null, .null, .null, .null, .null, .int 0, .int 0, .int 0, .int 0, .int 0, .int 0, .int 0, .int 0, .int 0, .int 0, .int 0, .int 0, .null, .int 0, .null, .int 0, .int 0, .null, .null, .null, .int 0, .null, .null, .null, .null, .null, .null, .null, .null, .null, .null, .int 0, .int 0, .null, .null]) (C := RX11) (T := TX11) (N := 69) hx hb hts inlX11 tyX11 tyX11_ok hown (hts _ q1_3) (hts _ q1_4) (hts _ q1_5) hK hP hD hS hA rfl (by decide +kernel) (Nat.le_of_ble_eq_true rfl) (Nat.le_of_ble_eq_true rfl) dL_law_8 (fun q188 H hP hD hS => ?_)
  have hP : va_P g.1 vwCl [(q1, .inr (10, [.ref q2, .int 0, .ref q3, .ref q52, .ref q73, .ref q13, .ref q67, .ref q76, .ref q11, .ref q86, .ref q84, .ref q12, .ref q85, .int 0])), (q2, .inl (gB g, 1600, .inl f87)), (q3, .inr (5, [.ref q4, .int 0, .int 0, .int 0, .int (-1)])), (q4, .inr (8, [.ref q88, .ref q89, .int 0, .int 0, .int 0, .int 0, .int 0, .long 0, .int 0, .int 0])), (q5, .inr (7, [.ref q6, .ref q7, .ref q8, .ref q9, .ref q10, .int 0, .int 0, .int 0, .int 0, .int 0])), (q6, .inl (gI g, 5, .inl f90)), (q7, .inl (gI g, 5, .inl f91)), (q8, .inl (gI g, 5, .inl f92)), (q9, .inl (gI g, 5, .inl f93)), (q10, .inl (gI g, 5, .inl f94)), (q11, .inl (gO g, 3, .inr (.inr (.inr (.inr f95))))), (q12, .inr (4, [.ref q13, .ref q73, .ref q67, .ref q84, .ref q14, .ref q96, .ref q97, .ref q98, .ref q99, .ref q20, .ref q21, .int 0])), (q13, .inr (0, [.ref q73, .ref q100, .int 0, .int 0])), (q14, .inr (7, [.ref q15, .ref q16, .ref q17, .ref q18, .ref q19, .int 0, .int 0, .int 0, .int 0, .int 0])), (q15, .inl (gI g, 5, .inl f101)), (q16, .inl (gI g, 5, .inl f102)), (q17, .inl (gI g, 5, .inl f103)), (q18, .inl (gI g, 5, .inl f104)), (q19, .inl (gI g, 5, .inl f105)), (q20, .inl (gI g, 5, .inl f106)), (q21, .inl (gI g, 5, .inl f107)), (q22, .inr (7, [.ref q23, .ref q24, .ref q25, .ref q26, .ref q27, .int 0, .int 0, .int 0, .int 0, .int 0])), (q23, .inl (gI g, 5, .inl f108)), (q24, .inl (gI g, 5, .inl f109)), (q25, .inl (gI g, 5, .inl f110)), (q26, .inl (gI g, 5, .inl f111)), (q27, .inl (gI g, 5, .inl f112)), (q28, .inr (7, [.ref q29, .ref q30, .ref q31, .ref q32, .ref q33, .int 0, .int 0, .int 0, .int 0, .int 0])), (q29, .inl (gI g, 5, .inl f113)), (q30, .inl (gI g, 5, .inl f114)), (q31, .inl (gI g, 5, .inl f115)), (q32, .inl (gI g, 5, .inl f116)), (q33, .inl (gI g, 5, .inl f117)), (q34, .inr (7, [.ref q35, .ref q36, .ref q37, .ref q38, .ref q39, .int 0, .int 0, .int 0, .int 0, .int 0])), (q35, .inl (gI g, 5, .inl f118)), (q36, .inl (gI g, 5, .inl f119)), (q37, .inl (gI g, 5, .inl f120)), (q38, .inl (gI g, 5, .inl f121)), (q39, .inl (gI g, 5, .inl f122)), (q40, .inl (gI g, 8, .inl f123)), (q41, .inl (gI g, 8, .inl f124)), (q42, .inl (gI g, 8, .inl f125)), (q43, .inl (gI g, 8, .inl f126)), (q44, .inl (gI g, 5, .inl f127)), (q45, .inl (gI g, 5, .inl f128)), (q46, .inr (1, [.ref q47, .ref q48, .ref q129, .int 0, .int 0, .int 0])), (q47, .inl (gI g, 300, .inl f130)), (q48, .inl (gI g, 300, .inl f131)), (q49, .inr (1, [.ref q50, .ref q51, .ref q132, .int 0, .int 0, .int 0])), (q50, .inl (gI g, 300, .inl f133)), (q51, .inl (gI g, 300, .inl f134)), (q52, .inr (9, [.int 0, .int 0, .int 0, .int 0, .int 0, .ref q135, .ref q53, .ref q54, .ref q55, .ref q56, .ref q136, .ref q57, .ref q58, .ref q59, .ref q60, .ref q61, .ref q64])), (q53, .inl (gI g, 8, .inl f137)), (q54, .inl (gI g, 8, .inl f138)), (q55, .inl (gI g, 8, .inl f139)), (q56, .inl (gI g, 8, .inl f140)), (q57, .inl (gI g, 5, .inl f141)), (q58, .inl (gI g, 5, .inl f142)), (q59, .inl (gI g, 5, .inl f143)), (q60, .inl (gI g, 5, .inl f144)), (q61, .inr (1, [.ref q62, .ref q63, .ref q145, .int 0, .int 0, .int 0])), (q62, .inl (gI g, 300, .inl f146)), (q63, .inl (gI g, 300, .inl f147)), (q64, .inr (1, [.ref q65, .ref q66, .ref q148, .int 0, .int 0, .int 0])), (q65, .inl (gI g, 300, .inl f149)), (q66, .inl (gI g, 300, .inl f150)), (q67, .inr (7, [.ref q68, .ref q69, .ref q70, .ref q71, .ref q72, .int 0, .int 0, .int 0, .int 0, .int x151])), (q68, .inl (gI g, 5, .inl f152)), (q69, .inl (gI g, 5, .inl f153)), (q70, .inl (gI g, 5, .inl f154)), (q71, .inl (gI g, 5, .inl f155)), (q72, .inl (gI g, 5, .inl f156)), (q73, .inr (9, [.int 0, .int 0, .int 0, .int 0, .int 0, .ref q157, .ref q40, .ref q41, .ref q42, .ref q43, .ref q158, .ref q44, .ref q75, .ref q45, .ref q74, .ref q46, .ref q49])), (q74, .inl (gI g, 5, .inl f159)), (q75, .inl (gI g, 5, .inl f160)), (q76, .inr (2, [.ref q77, .int 0, .int 0, .int 0])), (q77, .inl (gO g, 41, .inr (.inr (.inr (.inr f161))))), (q78, .inr (7, [.ref q79, .ref q80, .ref q81, .ref q82, .ref q83, .int 0, .int 0, .int 0, .int 0, .int x162])), (q79, .inl (gI g, 5, .inl f163)), (q80, .inl (gI g, 5, .inl f164)), (q81, .inl (gI g, 5, .inl f165)), (q82, .inl (gI g, 5, .inl f166)), (q83, .inl (gI g, 5, .inl f167)), (q84, .inr (3, [.ref q168, .int 0])), (q85, .inr (6, [.ref q13, .ref q169, .ref q170, .ref q171, .ref q172, .ref q173, .ref q174, .ref q175, .ref q176, .ref q177, .ref q178, .int 0, .int 0])), (q86, .inl (gZ g, 3, .inl f179)), (q188, .inr (11, [.null, .null, .int 0, .int 0, .int 0, .int 0, .int 0, .int 0, .int 0, .int 0, .long 0, .null, .null, .null, .null, .null, .null, .null, .null, .null, .null, .null, .null, .null, .null, .null, .null, .null, .null, .null, .null, .null, .null, .null, .int 0, .int 0, .int 0, .int 0, .int 0, .int 0, .int 0, .int 0, .int 0, .int 0, .int 0, .int 0, .null, .int 0, .null, .int 0, .int 0, .null, .null, .null, .int 0, .null, .null, .null, .null, .null, .null, .null, .null, .null, .null, .int 0, .int 0, .null, .null]))] H := hP
  have hD : va_D A [(q1, .inr (10, [.ref q2, .int 0, .ref q3, .ref q52, .ref q73, .ref q13, .ref q67, .ref q76, .ref q11, .ref q86, .ref q84, .ref q12, .ref q85, .int 0])), (q2, .inl (gB g, 1600, .inl f87)), (q3, .inr (5, [.ref q4, .int 0, .int 0, .int 0, .int (-1)])), (q4, .inr (8, [.ref q88, .ref q89, .int 0, .int 0, .int 0, .int 0, .int 0, .long 0, .int 0, .int 0])), (q5, .inr (7, [.ref q6, .ref q7, .ref q8, .ref q9, .ref q10, .int 0, .int 0, .int 0, .int 0, .int 0])), (q6, .inl (gI g, 5, .inl f90)), (q7, .inl (gI g, 5, .inl f91)), (q8, .inl (gI g, 5, .inl f92)), (q9, .inl (gI g, 5, .inl f93)), (q10, .inl (gI g, 5, .inl f94)), (q11, .inl (gO g, 3, .inr (.inr (.inr (.inr f95))))), (q12, .inr (4, [.ref q13, .ref q73, .ref q67, .ref q84, .ref q14, .ref q96, .ref q97, .ref q98, .ref q99, .ref q20, .ref q21, .int 0])), (q13, .inr (0, [.ref q73, .ref q100, .int 0, .int 0])), (q14, .inr (7, [.ref q15, .ref q16, .ref q17, .ref q18, .ref q19, .int 0, .int 0, .int 0, .int 0, .int 0])), (q15, .inl (gI g, 5, .inl f101)), (q16, .inl (gI g, 5, .inl f102)), (q17, .inl (gI g, 5, .inl f103)), (q18, .inl (gI g, 5, .inl f104)), (q19, .inl (gI g, 5, .inl f105)), (q20, .inl (gI g, 5, .inl f106)), (q21, .inl (gI g, 5, .inl f107)), (q22, .inr (7, [.ref q23, .ref q24, .ref q25, .ref q26, .ref q27, .int 0, .int 0, .int 0, .int 0, .int 0])), (q23, .inl (gI g, 5, .inl f108)), (q24, .inl (gI g, 5, .inl f109)), (q25, .inl (gI g, 5, .inl f110)), (q26, .inl (gI g, 5, .inl f111)), (q27, .inl (gI g, 5, .inl f112)), (q28, .inr (7, [.ref q29, .ref q30, .ref q31, .ref q32, .ref q33, .int 0, .int 0, .int 0, .int 0, .int 0])), (q29, .inl (gI g, 5, .inl f113)), (q30, .inl (gI g, 5, .inl f114)), (q31, .inl (gI g, 5, .inl f115)), (q32, .inl (gI g, 5, .inl f116)), (q33, .inl (gI g, 5, .inl f117)), (q34, .inr (7, [.ref q35, .ref q36, .ref q37, .ref q38, .ref q39, .int 0, .int 0, .int 0, .int 0, .int 0])), (q35, .inl (gI g, 5, .inl f118)), (q36, .inl (gI g, 5, .inl f119)), (q37, .inl (gI g, 5, .inl f120)), (q38, .inl (gI g, 5, .inl f121)), (q39, .inl (gI g, 5, .inl f122)), (q40, .inl (gI g, 8, .inl f123)), (q41, .inl (gI g, 8, .inl f124)), (q42, .inl (gI g, 8, .inl f125)), (q43, .inl (gI g, 8, .inl f126)), (q44, .inl (gI g, 5, .inl f127)), (q45, .inl (gI g, 5, .inl f128)), (q46, .inr (1, [.ref q47, .ref q48, .ref q129, .int 0, .int 0, .int 0])), (q47, .inl (gI g, 300, .inl f130)), (q48, .inl (gI g, 300, .inl f131)), (q49, .inr (1, [.ref q50, .ref q51, .ref q132, .int 0, .int 0, .int 0])), (q50, .inl (gI g, 300, .inl f133)), (q51, .inl (gI g, 300, .inl f134)), (q52, .inr (9, [.int 0, .int 0, .int 0, .int 0, .int 0, .ref q135, .ref q53, .ref q54, .ref q55, .ref q56, .ref q136, .ref q57, .ref q58, .ref q59, .ref q60, .ref q61, .ref q64])), (q53, .inl (gI g, 8, .inl f137)), (q54, .inl (gI g, 8, .inl f138)), (q55, .inl (gI g, 8, .inl f139)), (q56, .inl (gI g, 8, .inl f140)), (q57, .inl (gI g, 5, .inl f141)), (q58, .inl (gI g, 5, .inl f142)), (q59, .inl (gI g, 5, .inl f143)), (q60, .inl (gI g, 5, .inl f144)), (q61, .inr (1, [.ref q62, .ref q63, .ref q145, .int 0, .int 0, .int 0])), (q62, .inl (gI g, 300, .inl f146)), (q63, .inl (gI g, 300, .inl f147)), (q64, .inr (1, [.ref q65, .ref q66, .ref q148, .int 0, .int 0, .int 0])), (q65, .inl (gI g, 300, .inl f149)), (q66, .inl (gI g, 300, .inl f150)), (q67, .inr (7, [.ref q68, .ref q69, .ref q70, .ref q71, .ref q72, .int 0, .int 0, .int 0, .int 0, .int x151])), (q68, .inl (gI g, 5, .inl f152)), (q69, .inl (gI g, 5, .inl f153)), (q70, .inl (gI g, 5, .inl f154)), (q71, .inl (gI g, 5, .inl f155)), (q72, .inl (gI g, 5, .inl f156)), (q73, .inr (9, [.int 0, .int 0, .int 0, .int 0, .int 0, .ref q157, .ref q40, .ref q41, .ref q42, .ref q43, .ref q158, .ref q44, .ref q75, .ref q45, .ref q74, .ref q46, .ref q49])), (q74, .inl (gI g, 5, .inl f159)), (q75, .inl (gI g, 5, .inl f160)), (q76, .inr (2, [.ref q77, .int 0, .int 0, .int 0])), (q77, .inl (gO g, 41, .inr (.inr (.inr (.inr f161))))), (q78, .inr (7, [.ref q79, .ref q80, .ref q81, .ref q82, .ref q83, .int 0, .int 0, .int 0, .int 0, .int x162])), (q79, .inl (gI g, 5, .inl f163)), (q80, .inl (gI g, 5, .inl f164)), (q81, .inl (gI g, 5, .inl f165)), (q82, .inl (gI g, 5, .inl f166)), (q83, .inl (gI g, 5, .inl f167)), (q84, .inr (3, [.ref q168, .int 0])), (q85, .inr (6, [.ref q13, .ref q169, .ref q170, .ref q171, .ref q172, .ref q173, .ref q174, .ref q175, .ref q176, .ref q177, .ref q178, .int 0, .int 0])), (q86, .inl (gZ g, 3, .inl f179)), (q188, .inr (11, [.null, .null, .int 0, .int 0, .int 0, .int 0, .int 0, .int 0, .int 0, .int 0, .long 0, .null, .null, .null, .null, .null, .null, .null, .null, .null, .null, .null, .null, .null, .null, .null, .null, .null, .null, .null, .null, .null, .null, .null, .int 0, .int 0, .int 0, .int 0, .int 0, .int 0, .int 0, .int 0, .int 0, .int 0, .int 0, .int 0, .null, .int 0, .null, .int 0, .int 0, .null, .null, .null, .int 0, .null, .null, .null, .null, .null, .null, .null, .null, .null, .null, .int 0, .int 0, .null, .null]))] := hD
  refine lv_dup hx hb dL_law_11 rfl ?_
  refine kV (wc := [(q188, .inr (11, [.null, .null, .int 0, .int 0, .int 0, .int 0, .int 0, .int 0, .int 0, .int 0, .long 0, .null, .null, .null, .null, .null, .null, .null, .null, .null, .null, .null, .null, .null, .null, .null, .null, .null, .null, .null, .null, .null, .null, .null, .int 0, .int 0, .int 0, .int 0, .int 0, .int 0, .int 0, .int 0, .int 0, .int 0, .int 0, .int 0, .null, .int 0, .null, .int 0, .int 0, .null, .null, .null, .int 0, .null, .null, .null, .null, .null, .null, .null, .null, .null, .null, .int 0, .int 0, .null, .null]))]) (wr := [(q1, .inr (10, [.ref q2, .int 0, .ref q3, .ref q52, .ref q73, .ref q13, .ref q67, .ref q76, .ref q11, .ref q86, .ref q84, .ref q12, .ref q85, .int 0])), (q2, .inl (gB g, 1600, .inl f87)), (q3, .inr (5, [.ref q4, .int 0, .int 0, .int 0, .int (-1)])), (q4, .inr (8, [.ref q88, .ref q89, .int 0, .int 0, .int 0, .int 0, .int 0, .long 0, .int 0, .int 0])), (q5, .inr (7, [.ref q6, .ref q7, .ref q8, .ref q9, .ref q10, .int 0, .int 0, .int 0, .int 0, .int 0])), (q6, .inl (gI g, 5, .inl f90)), (q7, .inl (gI g, 5, .inl f91)), (q8, .inl (gI g, 5, .inl f92)), (q9, .inl (gI g, 5, .inl f93)), (q10, .inl (gI g, 5, .inl f94)), (q11, .inl (gO g, 3, .inr (.inr (.inr (.inr f95))))), (q12, .inr (4, [.ref q13, .ref q73, .ref q67, .ref q84, .ref q14, .ref q96, .ref q97, .ref q98, .ref q99, .ref q20, .ref q21, .int 0])), (q13, .inr (0, [.ref q73, .ref q100, .int 0, .int 0])), (q14, .inr (7, [.ref q15, .ref q16, .ref q17, .ref q18, .ref q19, .int 0, .int 0, .int 0, .int 0, .int 0])), (q15, .inl (gI g, 5, .inl f101)), (q16, .inl (gI g, 5, .inl f102)), (q17, .inl (gI g, 5, .inl f103)), (q18, .inl (gI g, 5, .inl f104)), (q19, .inl (gI g, 5, .inl f105)), (q20, .inl (gI g, 5, .inl f106)), (q21, .inl (gI g, 5, .inl f107)), (q22, .inr (7, [.ref q23, .ref q24, .ref q25, .ref q26, .ref q27, .int 0, .int 0, .int 0, .int 0, .int 0])), (q23, .inl (gI g, 5, .inl f108)), (q24, .inl (gI g, 5, .inl f109)), (q25, .inl (gI g, 5, .inl f110)), (q26, .inl (gI g, 5, .inl f111)), (q27, .inl (gI g, 5, .inl f112)), (q28, .inr (7, [.ref q29, .ref q30, .ref q31, .ref q32, .ref q33, .int 0, .int 0, .int 0, .int 0, .int 0])), (q29, .inl (gI g, 5, .inl f113)), (q30, .inl (gI g, 5, .inl f114)), (q31, .inl (gI g, 5, .inl f115)), (q32, .inl (gI g, 5, .inl f116)), (q33, .inl (gI g, 5, .inl f117)), (q34, .inr (7, [.ref q35, .ref q36, .ref q37, .ref q38, .ref q39, .int 0, .int 0, .int 0, .int 0, .int 0])), (q35, .inl (gI g, 5, .inl f118)), (q36, .inl (gI g, 5, .inl f119)), (q37, .inl (gI g, 5, .inl f120)), (q38, .inl (gI g, 5, .inl f121)), (q39, .inl (gI g, 5, .inl f122)), (q40, .inl (gI g, 8, .inl f123)), (q41, .inl (gI g, 8, .inl f124)), (q42, .inl (gI g, 8, .inl f125)), (q43, .inl (gI g, 8, .inl f126)), (q44, .inl (gI g, 5, .inl f127)), (q45, .inl (gI g, 5, .inl f128)), (q46, .inr (1, [.ref q47, .ref q48, .ref q129, .int 0, .int 0, .int 0])), (q47, .inl (gI g, 300, .inl f130)), (q48, .inl (gI g, 300, .inl f131)), (q49, .inr (1, [.ref q50, .ref q51, .ref q132, .int 0, .int 0, .int 0])), (q50, .inl (gI g, 300, .inl f133)), (q51, .inl (gI g, 300, .inl f134)), (q52, .inr (9, [.int 0, .int 0, .int 0, .int 0, .int 0, .ref q135, .ref q53, .ref q54, .ref q55, .ref q56, .ref q136, .ref q57, .ref q58, .ref q59, .ref q60, .ref q61, .ref q64])), (q53, .inl (gI g, 8, .inl f137)), (q54, .inl (gI g, 8, .inl f138)), (q55, .inl (gI g, 8, .inl f139)), (q56, .inl (gI g, 8, .inl f140)), (q57, .inl (gI g, 5, .inl f141)), (q58, .inl (gI g, 5, .inl f142)), (q59, .inl (gI g, 5, .inl f143)), (q60, .inl (gI g, 5, .inl f144)), (q61, .inr (1, [.ref q62, .ref q63, .ref q145, .int 0, .int 0, .int 0])), (q62, .inl (gI g, 300, .inl f146)), (q63, .inl (gI g, 300, .inl f147)), (q64, .inr (1, [.ref q65, .ref q66, .ref q148, .int 0, .int 0, .int 0])), (q65, .inl (gI g, 300, .inl f149)), (q66, .inl (gI g, 300, .inl f150)), (q67, .inr (7, [.ref q68, .ref q69, .ref q70, .ref q71, .ref q72, .int 0, .int 0, .int 0, .int 0, .int x151])), (q68, .inl (gI g, 5, .inl f152)), (q69, .inl (gI g, 5, .inl f153)), (q70, .inl (gI g, 5, .inl f154)), (q71, .inl (gI g, 5, .inl f155)), (q72, .inl (gI g, 5, .inl f156)), (q73, .inr (9, [.int 0, .int 0, .int 0, .int 0, .int 0, .ref q157, .ref q40, .ref q41, .ref q42, .ref q43, .ref q158, .ref q44, .ref q75, .ref q45, .ref q74, .ref q46, .ref q49])), (q74, .inl (gI g, 5, .inl f159)), (q75, .inl (gI g, 5, .inl f160)), (q76, .inr (2, [.ref q77, .int 0, .int 0, .int 0])), (q77, .inl (gO g, 41, .inr (.inr (.inr (.inr f161))))), (q78, .inr (7, [.ref q79, .ref q80, .ref q81, .ref q82, .ref q83, .int 0, .int 0, .int 0, .int 0, .int x162])), (q79, .inl (gI g, 5, .inl f163)), (q80, .inl (gI g, 5, .inl f164)), (q81, .inl (gI g, 5, .inl f165)), (q82, .inl (gI g, 5, .inl f166)), (q83, .inl (gI g, 5, .inl f167)), (q84, .inr (3, [.ref q168, .int 0])), (q85, .inr (6, [.ref q13, .ref q169, .ref q170, .ref q171, .ref q172, .ref q173, .ref q174, .ref q175, .ref q176, .ref q177, .ref q178, .int 0, .int 0])), (q86, .inl (gZ g, 3, .inl f179))]) (rN (As := []) (rest := [.ref q188]) hcx (c_X11_init H.size) (gdC q12_13) q1_5 q12_11 q12_12 rfl dvX11_init.2 ⟨Nat.le_of_ble_eq_true rfl, Nat.le_of_ble_eq_true rfl⟩ (hP.sub [86] rfl) (hD.sub [86] (by decide) rfl) rfl hl.1 rfl (Nat.le_of_ble_eq_true rfl) dL_law_12 ⟨Nat.le_of_ble_eq_true rfl, Nat.le_of_ble_eq_true rfl⟩) hP hD hS hA [86] [0, 1, 2, 3, 4, 5, 6, 7, 8, 9, 10, 11, 12, 13, 14, 15, 16, 17, 18, 19, 20, 21, 22, 23, 24, 25, 26, 27, 28, 29, 30, 31, 32, 33, 34, 35, 36, 37, 38, 39, 40, 41, 42, 43, 44, 45, 46, 47, 48, 49, 50, 51, 52, 53, 54, 55, 56, 57, 58, 59, 60, 61, 62, 63, 64, 65, 66, 67, 68, 69, 70, 71, 72, 73, 74, 75, 76, 77, 78, 79, 80, 81, 82, 83, 84, 85] rfl rfl (by decide) (by decide) (fun W' H locs hw hP hD hS => ?_)
  obtain ⟨q189, q190, q191, q192, q193, q194, q195, q196, q197, q198, q199, q200, q201, q202, fs203, f204, f205, f206, f207, f208, f209, f210, f211, f212, f213, f214, f215, f216, f217, rfl, hf218, hf219, hf220, hf221, hf222, hf223, hf224, hf225, hf226, hf227, hf228, hf229, hf230, hf231, hf232, hf233, hf234, hf235, hf236, hf237, hf238, hf239, hf240, hf241, hf242, hf243, hf244, hf245, hf246, hf247, hf248, hf249, hf250, hf251, hf252, hf253, hf254⟩ := hw
  have hP : va_P g.1 vwCl [(q1, .inr (10, [.ref q2, .int 0, .ref q3, .ref q52, .ref q73, .ref q13, .ref q67, .ref q76, .ref q11, .ref q86, .ref q84, .ref q12, .ref q85, .int 0])), (q2, .inl (gB g, 1600, .inl f87)), (q3, .inr (5, [.ref q4, .int 0, .int 0, .int 0, .int (-1)])), (q4, .inr (8, [.ref q88, .ref q89, .int 0, .int 0, .int 0, .int 0, .int 0, .long 0, .int 0, .int 0])), (q5, .inr (7, [.ref q6, .ref q7, .ref q8, .ref q9, .ref q10, .int 0, .int 0, .int 0, .int 0, .int 0])), (q6, .inl (gI g, 5, .inl f90)), (q7, .inl (gI g, 5, .inl f91)), (q8, .inl (gI g, 5, .inl f92)), (q9, .inl (gI g, 5, .inl f93)), (q10, .inl (gI g, 5, .inl f94)), (q11, .inl (gO g, 3, .inr (.inr (.inr (.inr f95))))), (q12, .inr (4, [.ref q13, .ref q73, .ref q67, .ref q84, .ref q14, .ref q96, .ref q97, .ref q98, .ref q99, .ref q20, .ref q21, .int 0])), (q13, .inr (0, [.ref q73, .ref q100, .int 0, .int 0])), (q14, .inr (7, [.ref q15, .ref q16, .ref q17, .ref q18, .ref q19, .int 0, .int 0, .int 0, .int 0, .int 0])), (q15, .inl (gI g, 5, .inl f101)), (q16, .inl (gI g, 5, .inl f102)), (q17, .inl (gI g, 5, .inl f103)), (q18, .inl (gI g, 5, .inl f104)), (q19, .inl (gI g, 5, .inl f105)), (q20, .inl (gI g, 5, .inl f106)), (q21, .inl (gI g, 5, .inl f107)), (q22, .inr (7, [.ref q23, .ref q24, .ref q25, .ref q26, .ref q27, .int 0, .int 0, .int 0, .int 0, .int 0])), (q23, .inl (gI g, 5, .inl f108)), (q24, .inl (gI g, 5, .inl f109)), (q25, .inl (gI g, 5, .inl f110)), (q26, .inl (gI g, 5, .inl f111)), (q27, .inl (gI g, 5, .inl f112)), (q28, .inr (7, [.ref q29, .ref q30, .ref q31, .ref q32, .ref q33, .int 0, .int 0, .int 0, .int 0, .int 0])), (q29, .inl (gI g, 5, .inl f113)), (q30, .inl (gI g, 5, .inl f114)), (q31, .inl (gI g, 5, .inl f115)), (q32, .inl (gI g, 5, .inl f116)), (q33, .inl (gI g, 5, .inl f117)), (q34, .inr (7, [.ref q35, .ref q36, .ref q37, .ref q38, .ref q39, .int 0, .int 0, .int 0, .int 0, .int 0])), (q35, .inl (gI g, 5, .inl f118)), (q36, .inl (gI g, 5, .inl f119)), (q37, .inl (gI g, 5, .inl f120)), (q38, .inl (gI g, 5, .inl f121)), (q39, .inl (gI g, 5, .inl f122)), (q40, .inl (gI g, 8, .inl f123)), (q41, .inl (gI g, 8, .inl f124)), (q42, .inl (gI g, 8, .inl f125)), (q43, .inl (gI g, 8, .inl f126)), (q44, .inl (gI g, 5, .inl f127)), (q45, .inl (gI g, 5, .inl f128)), (q46, .inr (1, [.ref q47, .ref q48, .ref q129, .int 0, .int 0, .int 0])), (q47, .inl (gI g, 300, .inl f130)), (q48, .inl (gI g, 300, .inl f131)), (q49, .inr (1, [.ref q50, .ref q51, .ref q132, .int 0, .int 0, .int 0])), (q50, .inl (gI g, 300, .inl f133)), (q51, .inl (gI g, 300, .inl f134)), (q52, .inr (9, [.int 0, .int 0, .int 0, .int 0, .int 0, .ref q135, .ref q53, .ref q54, .ref q55, .ref q56, .ref q136, .ref q57, .ref q58, .ref q59, .ref q60, .ref q61, .ref q64])), (q53, .inl (gI g, 8, .inl f137)), (q54, .inl (gI g, 8, .inl f138)), (q55, .inl (gI g, 8, .inl f139)), (q56, .inl (gI g, 8, .inl f140)), (q57, .inl (gI g, 5, .inl f141)), (q58, .inl (gI g, 5, .inl f142)), (q59, .inl (gI g, 5, .inl f143)), (q60, .inl (gI g, 5, .inl f144)), (q61, .inr (1, [.ref q62, .ref q63, .ref q145, .int 0, .int 0, .int 0])), (q62, .inl (gI g, 300, .inl f146)), (q63, .inl (gI g, 300, .inl f147)), (q64, .inr (1, [.ref q65, .ref q66, .ref q148, .int 0, .int 0, .int 0])), (q65, .inl (gI g, 300, .inl f149)), (q66, .inl (gI g, 300, .inl f150)), (q67, .inr (7, [.ref q68, .ref q69, .ref q70, .ref q71, .ref q72, .int 0, .int 0, .int 0, .int 0, .int x151])), (q68, .inl (gI g, 5, .inl f152)), (q69, .inl (gI g, 5, .inl f153)), (q70, .inl (gI g, 5, .inl f154)), (q71, .inl (gI g, 5, .inl f155)), (q72, .inl (gI g, 5, .inl f156)), (q73, .inr (9, [.int 0, .int 0, .int 0, .int 0, .int 0, .ref q157, .ref q40, .ref q41, .ref q42, .ref q43, .ref q158, .ref q44, .ref q75, .ref q45, .ref q74, .ref q46, .ref q49])), (q74, .inl (gI g, 5, .inl f159)), (q75, .inl (gI g, 5, .inl f160)), (q76, .inr (2, [.ref q77, .int 0, .int 0, .int 0])), (q77, .inl (gO g, 41, .inr (.inr (.inr (.inr f161))))), (q78, .inr (7, [.ref q79, .ref q80, .ref q81, .ref q82, .ref q83, .int 0, .int 0, .int 0, .int 0, .int x162])), (q79, .inl (gI g, 5, .inl f163)), (q80, .inl (gI g, 5, .inl f164)), (q81, .inl (gI g, 5, .inl f165)), (q82, .inl (gI g, 5, .inl f166)), (q83, .inl (gI g, 5, .inl f167)), (q84, .inr (3, [.ref q168, .int 0])), (q85, .inr (6, [.ref q13, .ref q169, .ref q170, .ref q171, .ref q172, .ref q173, .ref q174, .ref q175, .ref q176, .ref q177, .ref q178, .int 0, .int 0])), (q86, .inl (gZ g, 3, .inl f179)), (q188, .inr (11, fs203)), (q189, .inl (gB g, 1620, .inl f204)), (q190, .inl (gI g, 984, .inl f205)), (q191, .inl (gI g, 24, .inl f206)), (q192, .inl (gI g, 8, .inl f207)), (q193, .inl (gI g, 32, .inl f208)), (q194, .inl (gI g, 72, .inl f209)), (q195, .inl (gI g, 2, .inl f210)), (q196, .inl (gI g, 2, .inl f211)), (q197, .inl (gI g, 2, .inl f212)), (q198, .inl (gI g, 2, .inl f213)), (q199, .inl (gI g, 24, .inl f214)), (q200, .inl (gI g, 2, .inl f215)), (q201, .inl (gI g, 2, .inl f216)), (q202, .inl (gZ g, 3, .inl f217))] H := hP
  have hD : va_D A [(q1, .inr (10, [.ref q2, .int 0, .ref q3, .ref q52, .ref q73, .ref q13, .ref q67, .ref q76, .ref q11, .ref q86, .ref q84, .ref q12, .ref q85, .int 0])), (q2, .inl (gB g, 1600, .inl f87)), (q3, .inr (5, [.ref q4, .int 0, .int 0, .int 0, .int (-1)])), (q4, .inr (8, [.ref q88, .ref q89, .int 0, .int 0, .int 0, .int 0, .int 0, .long 0, .int 0, .int 0])), (q5, .inr (7, [.ref q6, .ref q7, .ref q8, .ref q9, .ref q10, .int 0, .int 0, .int 0, .int 0, .int 0])), (q6, .inl (gI g, 5, .inl f90)), (q7, .inl (gI g, 5, .inl f91)), (q8, .inl (gI g, 5, .inl f92)), (q9, .inl (gI g, 5, .inl f93)), (q10, .inl (gI g, 5, .inl f94)), (q11, .inl (gO g, 3, .inr (.inr (.inr (.inr f95))))), (q12, .inr (4, [.ref q13, .ref q73, .ref q67, .ref q84, .ref q14, .ref q96, .ref q97, .ref q98, .ref q99, .ref q20, .ref q21, .int 0])), (q13, .inr (0, [.ref q73, .ref q100, .int 0, .int 0])), (q14, .inr (7, [.ref q15, .ref q16, .ref q17, .ref q18, .ref q19, .int 0, .int 0, .int 0, .int 0, .int 0])), (q15, .inl (gI g, 5, .inl f101)), (q16, .inl (gI g, 5, .inl f102)), (q17, .inl (gI g, 5, .inl f103)), (q18, .inl (gI g, 5, .inl f104)), (q19, .inl (gI g, 5, .inl f105)), (q20, .inl (gI g, 5, .inl f106)), (q21, .inl (gI g, 5, .inl f107)), (q22, .inr (7, [.ref q23, .ref q24, .ref q25, .ref q26, .ref q27, .int 0, .int 0, .int 0, .int 0, .int 0])), (q23, .inl (gI g, 5, .inl f108)), (q24, .inl (gI g, 5, .inl f109)), (q25, .inl (gI g, 5, .inl f110)), (q26, .inl (gI g, 5, .inl f111)), (q27, .inl (gI g, 5, .inl f112)), (q28, .inr (7, [.ref q29, .ref q30, .ref q31, .ref q32, .ref q33, .int 0, .int 0, .int 0, .int 0, .int 0])), (q29, .inl (gI g, 5, .inl f113)), (q30, .inl (gI g, 5, .inl f114)), (q31, .inl (gI g, 5, .inl f115)), (q32, .inl (gI g, 5, .inl f116)), (q33, .inl (gI g, 5, .inl f117)), (q34, .inr (7, [.ref q35, .ref q36, .ref q37, .ref q38, .ref q39, .int 0, .int 0, .int 0, .int 0, .int 0])), (q35, .inl (gI g, 5, .inl f118)), (q36, .inl (gI g, 5, .inl f119)), (q37, .inl (gI g, 5, .inl f120)), (q38, .inl (gI g, 5, .inl f121)), (q39, .inl (gI g, 5, .inl f122)), (q40, .inl (gI g, 8, .inl f123)), (q41, .inl (gI g, 8, .inl f124)), (q42, .inl (gI g, 8, .inl f125)), (q43, .inl (gI g, 8, .inl f126)), (q44, .inl (gI g, 5, .inl f127)), (q45, .inl (gI g, 5, .inl f128)), (q46, .inr (1, [.ref q47, .ref q48, .ref q129, .int 0, .int 0, .int 0])), (q47, .inl (gI g, 300, .inl f130)), (q48, .inl (gI g, 300, .inl f131)), (q49, .inr (1, [.ref q50, .ref q51, .ref q132, .int 0, .int 0, .int 0])), (q50, .inl (gI g, 300, .inl f133)), (q51, .inl (gI g, 300, .inl f134)), (q52, .inr (9, [.int 0, .int 0, .int 0, .int 0, .int 0, .ref q135, .ref q53, .ref q54, .ref q55, .ref q56, .ref q136, .ref q57, .ref q58, .ref q59, .ref q60, .ref q61, .ref q64])), (q53, .inl (gI g, 8, .inl f137)), (q54, .inl (gI g, 8, .inl f138)), (q55, .inl (gI g, 8, .inl f139)), (q56, .inl (gI g, 8, .inl f140)), (q57, .inl (gI g, 5, .inl f141)), (q58, .inl (gI g, 5, .inl f142)), (q59, .inl (gI g, 5, .inl f143)), (q60, .inl (gI g, 5, .inl f144)), (q61, .inr (1, [.ref q62, .ref q63, .ref q145, .int 0, .int 0, .int 0])), (q62, .inl (gI g, 300, .inl f146)), (q63, .inl (gI g, 300, .inl f147)), (q64, .inr (1, [.ref q65, .ref q66, .ref q148, .int 0, .int 0, .int 0])), (q65, .inl (gI g, 300, .inl f149)), (q66, .inl (gI g, 300, .inl f150)), (q67, .inr (7, [.ref q68, .ref q69, .ref q70, .ref q71, .ref q72, .int 0, .int 0, .int 0, .int 0, .int x151])), (q68, .inl (gI g, 5, .inl f152)), (q69, .inl (gI g, 5, .inl f153)), (q70, .inl (gI g, 5, .inl f154)), (q71, .inl (gI g, 5, .inl f155)), (q72, .inl (gI g, 5, .inl f156)), (q73, .inr (9, [.int 0, .int 0, .int 0, .int 0, .int 0, .ref q157, .ref q40, .ref q41, .ref q42, .ref q43, .ref q158, .ref q44, .ref q75, .ref q45, .ref q74, .ref q46, .ref q49])), (q74, .inl (gI g, 5, .inl f159)), (q75, .inl (gI g, 5, .inl f160)), (q76, .inr (2, [.ref q77, .int 0, .int 0, .int 0])), (q77, .inl (gO g, 41, .inr (.inr (.inr (.inr f161))))), (q78, .inr (7, [.ref q79, .ref q80, .ref q81, .ref q82, .ref q83, .int 0, .int 0, .int 0, .int 0, .int x162])), (q79, .inl (gI g, 5, .inl f163)), (q80, .inl (gI g, 5, .inl f164)), (q81, .inl (gI g, 5, .inl f165)), (q82, .inl (gI g, 5, .inl f166)), (q83, .inl (gI g, 5, .inl f167)), (q84, .inr (3, [.ref q168, .int 0])), (q85, .inr (6, [.ref q13, .ref q169, .ref q170, .ref q171, .ref q172, .ref q173, .ref q174, .ref q175, .ref q176, .ref q177, .ref q178, .int 0, .int 0])), (q86, .inl (gZ g, 3, .inl f179)), (q188, .inr (11, fs203)), (q189, .inl (gB g, 1620, .inl f204)), (q190, .inl (gI g, 984, .inl f205)), (q191, .inl (gI g, 24, .inl f206)), (q192, .inl (gI g, 8, .inl f207)), (q193, .inl (gI g, 32, .inl f208)), (q194, .inl (gI g, 72, .inl f209)), (q195, .inl (gI g, 2, .inl f210)), (q196, .inl (gI g, 2, .inl f211)), (q197, .inl (gI g, 2, .inl f212)), (q198, .inl (gI g, 2, .inl f213)), (q199, .inl (gI g, 24, .inl f214)), (q200, .inl (gI g, 2, .inl f215)), (q201, .inl (gI g, 2, .inl f216)), (q202, .inl (gZ g, 3, .inl f217))] := hD
  refine lv_astore_n (lv' := [(2, .ref q188), (1, .ref q1), (0, .ref b)]) hx hb dL_law_15 rfl hl (by decide) rfl (fun ls hl => ?_)
  refine lv_iconst (v := 0) hx hb dL_law_16 (by decide) ?_
  refine lv_istore_n (lv' := [(3, .int 0), (2, .ref q188), (1, .ref q1), (0, .ref b)]) hx hb dL_law_17 rfl hl (by decide) rfl (fun ls hl => ?_)
  by_cases hL6 : L = 6
  · subst hL6
    refine lv_iload_n hx hb dL_law_18 rfl (lv_at hl 0 rfl) ?_
    refine lv_aload_n hx hb dL_law_19 rfl (lv_at hl 3 rfl) ?_
    refine va_slen hx hb hX hbl hbA hS dL_law_20 ?_
    refine lv_tope (y := 6) (by decide) ?_
    refine lv_bipush (v := 6) hx hb dL_law_21 (by decide) ?_
    refine lv_isub hx hb dL_law_23 ?_
    refine lv_tope (y := 0) (by decide) ?_
    refine lv_icmp_gt (tgt := 1284) hx hb dL_law_24 (by decide) (fun c255 => absurd c255 (by decide)) (fun _ => ?_)
    refine lv_aload_n hx hb dL_law_27 rfl (lv_at hl 3 rfl) ?_
    refine lv_iload_n hx hb dL_law_28 rfl (lv_at hl 0 rfl) ?_
    refine sc_ld hx hb hX hbl hbA hS 0 rfl (by decide) (by decide) dL_law_29 ?_
    refine lv_bipush (v := 63) hx hb dL_law_30 (by decide) ?_
    refine lv_iand hx hb dL_law_32 ?_
    refine lv_topi (fun x256 ex256 => ?_)
    by_cases c257 : x256 = 0
    · refine lv_tableIn (off := 183) (tgt := 216) hx hb dL_law_33 (by rw [c257]; decide) (by rw [c257]; decide) (by rw [c257]; decide) (by decide) ?_
      have hP : va_P g.1 vwCl [(q1, .inr (10, [.ref q2, .int 0, .ref q3, .ref q52, .ref q73, .ref q13, .ref q67, .ref q76, .ref q11, .ref q86, .ref q84, .ref q12, .ref q85, .int 0])), (q2, .inl (gB g, 1600, .inl f87)), (q188, .inr (11, fs203)), (q189, .inl (gB g, 1620, .inl f204))] H := hP.sub [0, 1, 86, 87] rfl
      have hD : va_D A [(q1, .inr (10, [.ref q2, .int 0, .ref q3, .ref q52, .ref q73, .ref q13, .ref q67, .ref q76, .ref q11, .ref q86, .ref q84, .ref q12, .ref q85, .int 0])), (q2, .inl (gB g, 1600, .inl f87)), (q188, .inr (11, fs203)), (q189, .inl (gB g, 1620, .inl f204))] := hD.sub [0, 1, 86, 87] (by decide) rfl
      refine lv_aload_n hx hb dL_law_216 rfl (lv_at hl 2 rfl) ?_
      refine lv_aload_n hx hb dL_law_217 rfl (lv_at hl 3 rfl) ?_
      refine lv_iload_n hx hb dL_law_218 rfl (lv_at hl 0 rfl) ?_
      refine lv_iconst (v := 1) hx hb dL_law_219 (by decide) ?_
      refine lv_iadd hx hb dL_law_220 ?_
      refine lv_tope (y := 1) (by decide) ?_
      refine sc_ld hx hb hX hbl hbA hS 1 rfl (by decide) (by decide) dL_law_221 ?_
      refine lv_aload_n hx hb dL_law_222 rfl (lv_at hl 3 rfl) ?_
      refine lv_iload_n hx hb dL_law_223 rfl (lv_at hl 0 rfl) ?_
      refine lv_iconst (v := 2) hx hb dL_law_224 (by decide) ?_
      refine lv_iadd hx hb dL_law_225 ?_
      refine lv_tope (y := 2) (by decide) ?_
      refine sc_ld hx hb hX hbl hbA hS 2 rfl (by decide) (by decide) dL_law_226 ?_
      refine lv_aload_n hx hb dL_law_227 rfl (lv_at hl 3 rfl) ?_
      refine lv_iload_n hx hb dL_law_228 rfl (lv_at hl 0 rfl) ?_
      refine lv_iconst (v := 3) hx hb dL_law_229 (by decide) ?_
      refine lv_iadd hx hb dL_law_230 ?_
      refine lv_tope (y := 3) (by decide) ?_
      refine sc_ld hx hb hX hbl hbA hS 3 rfl (by decide) (by decide) dL_law_231 ?_
      refine lv_aload_n hx hb dL_law_232 rfl (lv_at hl 3 rfl) ?_
      refine lv_iload_n hx hb dL_law_233 rfl (lv_at hl 0 rfl) ?_
      refine lv_iconst (v := 4) hx hb dL_law_234 (by decide) ?_
      refine lv_iadd hx hb dL_law_235 ?_
      refine lv_tope (y := 4) (by decide) ?_
      refine sc_ld hx hb hX hbl hbA hS 4 rfl (by decide) (by decide) dL_law_236 ?_
      refine lv_aload_n hx hb dL_law_237 rfl (lv_at hl 3 rfl) ?_
      refine lv_iload_n hx hb dL_law_238 rfl (lv_at hl 0 rfl) ?_
      refine lv_iconst (v := 5) hx hb dL_law_239 (by decide) ?_
      refine lv_iadd hx hb dL_law_240 ?_
      refine lv_tope (y := 5) (by decide) ?_
      refine sc_ld hx hb hX hbl hbA hS 5 rfl (by decide) (by decide) dL_law_241 ?_
      refine kI (wc := [(q1, .inr (10, [.ref q2, .int 0, .ref q3, .ref q52, .ref q73, .ref q13, .ref q67, .ref q76, .ref q11, .ref q86, .ref q84, .ref q12, .ref q85, .int 0])), (q2, .inl (gB g, 1600, .inl f87))]) (wr := [(q188, .inr (11, fs203)), (q189, .inl (gB g, 1620, .inl f204))]) (rV (As := [.int (xs 1), .int (xs 2), .int (xs 3), .int (xs 4), .int (xs 5)]) (rest := []) (meth2 := "") hcx (c_X10_feed H.size) (gdV q15_10 q15_11 q15_12 q1_2 q15_13) dvX10_feed ⟨Nat.le_of_ble_eq_true rfl, Nat.le_of_ble_eq_true rfl⟩ (hP.sub [0, 1] rfl) (hD.sub [0, 1] (by decide) rfl) (va_recv hK hP (ci := 10) (q0 := 0) rfl rfl) rfl hl.1 rfl (Nat.le_of_ble_eq_true rfl) dL_law_242 ⟨Nat.le_of_ble_eq_true rfl, Nat.le_of_ble_eq_true rfl⟩) hP hD hS hA [0, 1] [2, 3] rfl rfl (by decide) (by decide) (fun r W' H locs hw hP hD hS => ?_)
      obtain ⟨rfl, rfl⟩ := hw
      have hP : va_P g.1 vwCl [(q188, .inr (11, fs203)), (q189, .inl (gB g, 1620, .inl f204))] H := hP
      have hD : va_D A [(q188, .inr (11, fs203)), (q189, .inl (gB g, 1620, .inl f204))] := hD
      refine lv_aload_n hx hb dL_law_245 rfl (lv_at hl 1 rfl) ?_
      refine lv_aload_n hx hb dL_law_246 rfl (lv_at hl 3 rfl) ?_
      refine lv_iload_n hx hb dL_law_247 rfl (lv_at hl 0 rfl) ?_
      refine lv_iconst (v := 1) hx hb dL_law_248 (by decide) ?_
      refine lv_iadd hx hb dL_law_249 ?_
      refine lv_tope (y := 1) (by decide) ?_
      refine sc_ld hx hb hX hbl hbA hS 1 rfl (by decide) (by decide) dL_law_250 ?_
      refine lv_aload_n hx hb dL_law_251 rfl (lv_at hl 3 rfl) ?_
      refine lv_iload_n hx hb dL_law_252 rfl (lv_at hl 0 rfl) ?_
      refine lv_iconst (v := 2) hx hb dL_law_253 (by decide) ?_
      refine lv_iadd hx hb dL_law_254 ?_
      refine lv_tope (y := 2) (by decide) ?_
      refine sc_ld hx hb hX hbl hbA hS 2 rfl (by decide) (by decide) dL_law_255 ?_
      refine lv_aload_n hx hb dL_law_256 rfl (lv_at hl 3 rfl) ?_
      refine lv_iload_n hx hb dL_law_257 rfl (lv_at hl 0 rfl) ?_
      refine lv_iconst (v := 3) hx hb dL_law_258 (by decide) ?_
      refine lv_iadd hx hb dL_law_259 ?_
      refine lv_tope (y := 3) (by decide) ?_
      refine sc_ld hx hb hX hbl hbA hS 3 rfl (by decide) (by decide) dL_law_260 ?_
      refine lv_aload_n hx hb dL_law_261 rfl (lv_at hl 3 rfl) ?_
      refine lv_iload_n hx hb dL_law_262 rfl (lv_at hl 0 rfl) ?_
      refine lv_iconst (v := 4) hx hb dL_law_263 (by decide) ?_
      refine lv_iadd hx hb dL_law_264 ?_
      refine lv_tope (y := 4) (by decide) ?_
      refine sc_ld hx hb hX hbl hbA hS 4 rfl (by decide) (by decide) dL_law_265 ?_
      refine lv_aload_n hx hb dL_law_266 rfl (lv_at hl 3 rfl) ?_
      refine lv_iload_n hx hb dL_law_267 rfl (lv_at hl 0 rfl) ?_
      refine lv_iconst (v := 5) hx hb dL_law_268 (by decide) ?_
      refine lv_iadd hx hb dL_law_269 ?_
      refine lv_tope (y := 5) (by decide) ?_
      refine sc_ld hx hb hX hbl hbA hS 5 rfl (by decide) (by decide) dL_law_270 ?_
      refine kI (wc := [(q188, .inr (11, fs203)), (q189, .inl (gB g, 1620, .inl f204))]) (wr := []) (rV (As := [.int (xs 1), .int (xs 2), .int (xs 3), .int (xs 4), .int (xs 5)]) (rest := [.int 20]) (meth2 := "") hcx (c_X11_feed (hf218) (hf219) (hf233) H.size) (gdV q15_19 q15_20 q15_21 q1_5 q15_22) dvX11_feed ⟨Nat.le_of_ble_eq_true rfl, Nat.le_of_ble_eq_true rfl⟩ (hP.sub [0, 1] rfl) (hD.sub [0, 1] (by decide) rfl) (va_recv hK hP (ci := 11) (q0 := 0) rfl rfl) rfl hl.1 rfl (Nat.le_of_ble_eq_true rfl) dL_law_271 ⟨Nat.le_of_ble_eq_true rfl, Nat.le_of_ble_eq_true rfl⟩) hP hD hS hA [0, 1] [] rfl rfl (by decide) (by decide) (fun r W' H locs hw hP hD hS => ?_)
      obtain ⟨rfl, rfl⟩ := hw
      have hP : va_P g.1 vwCl [] H := hP
      have hD : va_D A [] := hD
      refine lv_icmp_eq (tgt := 1278) hx hb dL_law_274 (by decide) (fun _ => ?_) (fun c258 => absurd (by decide) c258)
      refine lv_iinc (v := 6) (lv' := [(3, .int 6), (2, .ref q188), (1, .ref q1), (0, .ref b)]) hx hb dL_law_1278 hl (k := 0) rfl (by decide) (by decide) rfl (fun ls hl => ?_)
      refine lv_goto (tgt := 18) hx hb dL_law_1281 (by decide) ?_
      refine lv_iload_n hx hb dL_law_18 rfl (lv_at hl 0 rfl) ?_
      refine lv_aload_n hx hb dL_law_19 rfl (lv_at hl 3 rfl) ?_
      refine va_slen hx hb hX hbl hbA hS dL_law_20 ?_
      refine lv_tope (y := 6) (by decide) ?_
      refine lv_bipush (v := 6) hx hb dL_law_21 (by decide) ?_
      refine lv_isub hx hb dL_law_23 ?_
      refine lv_tope (y := 0) (by decide) ?_
      refine lv_icmp_gt (tgt := 1284) hx hb dL_law_24 (by decide) (fun _ => ?_) (fun c259 => absurd (by decide) c259)
      refine lv_iconst (v := 1) hx hb dL_law_1284 (by decide) ?_
      refine va_forget (fun q hq => hAl _ (hS.2.2 q hq)) ?_
      refine W.widen (k := 600000) (n := 7302250) (Nat.le_of_ble_eq_true rfl) (Nat.le_of_ble_eq_true rfl) ?_
      exact lw_ret hx hb hr hlocks dL_law_1285
    by_cases c260 : x256 = 1
    · refine lv_tableIn (off := 246) (tgt := 279) hx hb dL_law_33 (by rw [c260]; decide) (by rw [c260]; decide) (by rw [c260]; decide) (by decide) ?_
      have hP : va_P g.1 vwCl [(q1, .inr (10, [.ref q2, .int 0, .ref q3, .ref q52, .ref q73, .ref q13, .ref q67, .ref q76, .ref q11, .ref q86, .ref q84, .ref q12, .ref q85, .int 0])), (q188, .inr (11, fs203))] H := hP.sub [0, 86] rfl
      have hD : va_D A [(q1, .inr (10, [.ref q2, .int 0, .ref q3, .ref q52, .ref q73, .ref q13, .ref q67, .ref q76, .ref q11, .ref q86, .ref q84, .ref q12, .ref q85, .int 0])), (q188, .inr (11, fs203))] := hD.sub [0, 86] (by decide) rfl
      refine lv_aload_n hx hb dL_law_279 rfl (lv_at hl 2 rfl) ?_
      refine lv_aload_n hx hb dL_law_280 rfl (lv_at hl 3 rfl) ?_
      refine lv_iload_n hx hb dL_law_281 rfl (lv_at hl 0 rfl) ?_
      refine lv_iconst (v := 1) hx hb dL_law_282 (by decide) ?_
      refine lv_iadd hx hb dL_law_283 ?_
      refine lv_tope (y := 1) (by decide) ?_
      refine sc_ld hx hb hX hbl hbA hS 1 rfl (by decide) (by decide) dL_law_284 ?_
      refine kI (wc := [(q1, .inr (10, [.ref q2, .int 0, .ref q3, .ref q52, .ref q73, .ref q13, .ref q67, .ref q76, .ref q11, .ref q86, .ref q84, .ref q12, .ref q85, .int 0]))]) (wr := [(q188, .inr (11, fs203))]) (rV (As := [.int (xs 1)]) (rest := []) (meth2 := "") hcx (c_X10_end H.size) (gdV q16_0 q16_1 q16_2 q1_2 q16_3) dvX10_end ⟨Nat.le_of_ble_eq_true rfl, Nat.le_of_ble_eq_true rfl⟩ (hP.sub [0] rfl) (hD.sub [0] (by decide) rfl) (va_recv hK hP (ci := 10) (q0 := 0) rfl rfl) rfl hl.1 rfl (Nat.le_of_ble_eq_true rfl) dL_law_285 ⟨Nat.le_of_ble_eq_true rfl, Nat.le_of_ble_eq_true rfl⟩) hP hD hS hA [0] [1] rfl rfl (by decide) (by decide) (fun r261 W' H locs hw hP hD hS => ?_)
      obtain ⟨hr262, rfl⟩ := hw
      have hP : va_P g.1 vwCl [(q188, .inr (11, fs203))] H := hP
      have hD : va_D A [(q188, .inr (11, fs203))] := hD
      refine lv_aload_n hx hb dL_law_288 rfl (lv_at hl 1 rfl) ?_
      refine lv_aload_n hx hb dL_law_289 rfl (lv_at hl 3 rfl) ?_
      refine lv_iload_n hx hb dL_law_290 rfl (lv_at hl 0 rfl) ?_
      refine lv_iconst (v := 1) hx hb dL_law_291 (by decide) ?_
      refine lv_iadd hx hb dL_law_292 ?_
      refine lv_tope (y := 1) (by decide) ?_
      refine sc_ld hx hb hX hbl hbA hS 1 rfl (by decide) (by decide) dL_law_293 ?_
      refine kI (wc := [(q188, .inr (11, fs203))]) (wr := []) (rV (As := [.int (xs 1)]) (rest := [.int r261]) (meth2 := "") hcx (c_X11_end (hf218) (hf233) H.size) (gdV q16_4 q16_5 q16_6 q1_5 q16_7) dvX11_end ⟨Nat.le_of_ble_eq_true rfl, Nat.le_of_ble_eq_true rfl⟩ (hP.sub [0] rfl) (hD.sub [0] (by decide) rfl) (va_recv hK hP (ci := 11) (q0 := 0) rfl rfl) rfl hl.1 rfl (Nat.le_of_ble_eq_true rfl) dL_law_294 ⟨Nat.le_of_ble_eq_true rfl, Nat.le_of_ble_eq_true rfl⟩) hP hD hS hA [0] [] rfl rfl (by decide) (by decide) (fun r263 W' H locs hw hP hD hS => ?_)
      obtain ⟨hr264, rfl⟩ := hw
      have hP : va_P g.1 vwCl [] H := hP
      have hD : va_D A [] := hD
      refine lv_icmp_eq (tgt := 1278) hx hb dL_law_297 (by decide) (fun _ => ?_) (fun c265 => absurd (hr262.trans hr264.symm) c265)
      refine lv_iinc (v := 6) (lv' := [(3, .int 6), (2, .ref q188), (1, .ref q1), (0, .ref b)]) hx hb dL_law_1278 hl (k := 0) rfl (by decide) (by decide) rfl (fun ls hl => ?_)
      refine lv_goto (tgt := 18) hx hb dL_law_1281 (by decide) ?_
      refine lv_iload_n hx hb dL_law_18 rfl (lv_at hl 0 rfl) ?_
      refine lv_aload_n hx hb dL_law_19 rfl (lv_at hl 3 rfl) ?_
      refine va_slen hx hb hX hbl hbA hS dL_law_20 ?_
      refine lv_tope (y := 6) (by decide) ?_
      refine lv_bipush (v := 6) hx hb dL_law_21 (by decide) ?_
      refine lv_isub hx hb dL_law_23 ?_
      refine lv_tope (y := 0) (by decide) ?_
      refine lv_icmp_gt (tgt := 1284) hx hb dL_law_24 (by decide) (fun _ => ?_) (fun c266 => absurd (by decide) c266)
      refine lv_iconst (v := 1) hx hb dL_law_1284 (by decide) ?_
      refine va_forget (fun q hq => hAl _ (hS.2.2 q hq)) ?_
      refine W.widen (k := 600000) (n := 7302250) (Nat.le_of_ble_eq_true rfl) (Nat.le_of_ble_eq_true rfl) ?_
      exact lw_ret hx hb hr hlocks dL_law_1285
    by_cases c267 : x256 = 2
    · refine lv_tableIn (off := 269) (tgt := 302) hx hb dL_law_33 (by rw [c267]; decide) (by rw [c267]; decide) (by rw [c267]; decide) (by decide) ?_
      have hP : va_P g.1 vwCl [(q1, .inr (10, [.ref q2, .int 0, .ref q3, .ref q52, .ref q73, .ref q13, .ref q67, .ref q76, .ref q11, .ref q86, .ref q84, .ref q12, .ref q85, .int 0])), (q2, .inl (gB g, 1600, .inl f87)), (q3, .inr (5, [.ref q4, .int 0, .int 0, .int 0, .int (-1)])), (q4, .inr (8, [.ref q88, .ref q89, .int 0, .int 0, .int 0, .int 0, .int 0, .long 0, .int 0, .int 0])), (q40, .inl (gI g, 8, .inl f123)), (q41, .inl (gI g, 8, .inl f124)), (q42, .inl (gI g, 8, .inl f125)), (q43, .inl (gI g, 8, .inl f126)), (q44, .inl (gI g, 5, .inl f127)), (q45, .inl (gI g, 5, .inl f128)), (q46, .inr (1, [.ref q47, .ref q48, .ref q129, .int 0, .int 0, .int 0])), (q47, .inl (gI g, 300, .inl f130)), (q48, .inl (gI g, 300, .inl f131)), (q49, .inr (1, [.ref q50, .ref q51, .ref q132, .int 0, .int 0, .int 0])), (q50, .inl (gI g, 300, .inl f133)), (q51, .inl (gI g, 300, .inl f134)), (q52, .inr (9, [.int 0, .int 0, .int 0, .int 0, .int 0, .ref q135, .ref q53, .ref q54, .ref q55, .ref q56, .ref q136, .ref q57, .ref q58, .ref q59, .ref q60, .ref q61, .ref q64])), (q53, .inl (gI g, 8, .inl f137)), (q54, .inl (gI g, 8, .inl f138)), (q55, .inl (gI g, 8, .inl f139)), (q56, .inl (gI g, 8, .inl f140)), (q57, .inl (gI g, 5, .inl f141)), (q58, .inl (gI g, 5, .inl f142)), (q59, .inl (gI g, 5, .inl f143)), (q60, .inl (gI g, 5, .inl f144)), (q61, .inr (1, [.ref q62, .ref q63, .ref q145, .int 0, .int 0, .int 0])), (q62, .inl (gI g, 300, .inl f146)), (q63, .inl (gI g, 300, .inl f147)), (q64, .inr (1, [.ref q65, .ref q66, .ref q148, .int 0, .int 0, .int 0])), (q65, .inl (gI g, 300, .inl f149)), (q66, .inl (gI g, 300, .inl f150)), (q67, .inr (7, [.ref q68, .ref q69, .ref q70, .ref q71, .ref q72, .int 0, .int 0, .int 0, .int 0, .int x151])), (q68, .inl (gI g, 5, .inl f152)), (q69, .inl (gI g, 5, .inl f153)), (q70, .inl (gI g, 5, .inl f154)), (q71, .inl (gI g, 5, .inl f155)), (q72, .inl (gI g, 5, .inl f156)), (q73, .inr (9, [.int 0, .int 0, .int 0, .int 0, .int 0, .ref q157, .ref q40, .ref q41, .ref q42, .ref q43, .ref q158, .ref q44, .ref q75, .ref q45, .ref q74, .ref q46, .ref q49])), (q74, .inl (gI g, 5, .inl f159)), (q75, .inl (gI g, 5, .inl f160)), (q76, .inr (2, [.ref q77, .int 0, .int 0, .int 0])), (q77, .inl (gO g, 41, .inr (.inr (.inr (.inr f161))))), (q78, .inr (7, [.ref q79, .ref q80, .ref q81, .ref q82, .ref q83, .int 0, .int 0, .int 0, .int 0, .int x162])), (q79, .inl (gI g, 5, .inl f163)), (q80, .inl (gI g, 5, .inl f164)), (q81, .inl (gI g, 5, .inl f165)), (q82, .inl (gI g, 5, .inl f166)), (q83, .inl (gI g, 5, .inl f167)), (q84, .inr (3, [.ref q168, .int 0])), (q85, .inr (6, [.ref q13, .ref q169, .ref q170, .ref q171, .ref q172, .ref q173, .ref q174, .ref q175, .ref q176, .ref q177, .ref q178, .int 0, .int 0])), (q86, .inl (gZ g, 3, .inl f179)), (q188, .inr (11, fs203)), (q195, .inl (gI g, 2, .inl f210)), (q196, .inl (gI g, 2, .inl f211)), (q197, .inl (gI g, 2, .inl f212)), (q198, .inl (gI g, 2, .inl f213)), (q199, .inl (gI g, 24, .inl f214)), (q200, .inl (gI g, 2, .inl f215)), (q201, .inl (gI g, 2, .inl f216)), (q202, .inl (gZ g, 3, .inl f217))] H := hP.sub [0, 1, 2, 3, 39, 40, 41, 42, 43, 44, 45, 46, 47, 48, 49, 50, 51, 52, 53, 54, 55, 56, 57, 58, 59, 60, 61, 62, 63, 64, 65, 66, 67, 68, 69, 70, 71, 72, 73, 74, 75, 76, 77, 78, 79, 80, 81, 82, 83, 84, 85, 86, 93, 94, 95, 96, 97, 98, 99, 100] rfl
      have hD : va_D A [(q1, .inr (10, [.ref q2, .int 0, .ref q3, .ref q52, .ref q73, .ref q13, .ref q67, .ref q76, .ref q11, .ref q86, .ref q84, .ref q12, .ref q85, .int 0])), (q2, .inl (gB g, 1600, .inl f87)), (q3, .inr (5, [.ref q4, .int 0, .int 0, .int 0, .int (-1)])), (q4, .inr (8, [.ref q88, .ref q89, .int 0, .int 0, .int 0, .int 0, .int 0, .long 0, .int 0, .int 0])), (q40, .inl (gI g, 8, .inl f123)), (q41, .inl (gI g, 8, .inl f124)), (q42, .inl (gI g, 8, .inl f125)), (q43, .inl (gI g, 8, .inl f126)), (q44, .inl (gI g, 5, .inl f127)), (q45, .inl (gI g, 5, .inl f128)), (q46, .inr (1, [.ref q47, .ref q48, .ref q129, .int 0, .int 0, .int 0])), (q47, .inl (gI g, 300, .inl f130)), (q48, .inl (gI g, 300, .inl f131)), (q49, .inr (1, [.ref q50, .ref q51, .ref q132, .int 0, .int 0, .int 0])), (q50, .inl (gI g, 300, .inl f133)), (q51, .inl (gI g, 300, .inl f134)), (q52, .inr (9, [.int 0, .int 0, .int 0, .int 0, .int 0, .ref q135, .ref q53, .ref q54, .ref q55, .ref q56, .ref q136, .ref q57, .ref q58, .ref q59, .ref q60, .ref q61, .ref q64])), (q53, .inl (gI g, 8, .inl f137)), (q54, .inl (gI g, 8, .inl f138)), (q55, .inl (gI g, 8, .inl f139)), (q56, .inl (gI g, 8, .inl f140)), (q57, .inl (gI g, 5, .inl f141)), (q58, .inl (gI g, 5, .inl f142)), (q59, .inl (gI g, 5, .inl f143)), (q60, .inl (gI g, 5, .inl f144)), (q61, .inr (1, [.ref q62, .ref q63, .ref q145, .int 0, .int 0, .int 0])), (q62, .inl (gI g, 300, .inl f146)), (q63, .inl (gI g, 300, .inl f147)), (q64, .inr (1, [.ref q65, .ref q66, .ref q148, .int 0, .int 0, .int 0])), (q65, .inl (gI g, 300, .inl f149)), (q66, .inl (gI g, 300, .inl f150)), (q67, .inr (7, [.ref q68, .ref q69, .ref q70, .ref q71, .ref q72, .int 0, .int 0, .int 0, .int 0, .int x151])), (q68, .inl (gI g, 5, .inl f152)), (q69, .inl (gI g, 5, .inl f153)), (q70, .inl (gI g, 5, .inl f154)), (q71, .inl (gI g, 5, .inl f155)), (q72, .inl (gI g, 5, .inl f156)), (q73, .inr (9, [.int 0, .int 0, .int 0, .int 0, .int 0, .ref q157, .ref q40, .ref q41, .ref q42, .ref q43, .ref q158, .ref q44, .ref q75, .ref q45, .ref q74, .ref q46, .ref q49])), (q74, .inl (gI g, 5, .inl f159)), (q75, .inl (gI g, 5, .inl f160)), (q76, .inr (2, [.ref q77, .int 0, .int 0, .int 0])), (q77, .inl (gO g, 41, .inr (.inr (.inr (.inr f161))))), (q78, .inr (7, [.ref q79, .ref q80, .ref q81, .ref q82, .ref q83, .int 0, .int 0, .int 0, .int 0, .int x162])), (q79, .inl (gI g, 5, .inl f163)), (q80, .inl (gI g, 5, .inl f164)), (q81, .inl (gI g, 5, .inl f165)), (q82, .inl (gI g, 5, .inl f166)), (q83, .inl (gI g, 5, .inl f167)), (q84, .inr (3, [.ref q168, .int 0])), (q85, .inr (6, [.ref q13, .ref q169, .ref q170, .ref q171, .ref q172, .ref q173, .ref q174, .ref q175, .ref q176, .ref q177, .ref q178, .int 0, .int 0])), (q86, .inl (gZ g, 3, .inl f179)), (q188, .inr (11, fs203)), (q195, .inl (gI g, 2, .inl f210)), (q196, .inl (gI g, 2, .inl f211)), (q197, .inl (gI g, 2, .inl f212)), (q198, .inl (gI g, 2, .inl f213)), (q199, .inl (gI g, 24, .inl f214)), (q200, .inl (gI g, 2, .inl f215)), (q201, .inl (gI g, 2, .inl f216)), (q202, .inl (gZ g, 3, .inl f217))] := hD.sub [0, 1, 2, 3, 39, 40, 41, 42, 43, 44, 45, 46, 47, 48, 49, 50, 51, 52, 53, 54, 55, 56, 57, 58, 59, 60, 61, 62, 63, 64, 65, 66, 67, 68, 69, 70, 71, 72, 73, 74, 75, 76, 77, 78, 79, 80, 81, 82, 83, 84, 85, 86, 93, 94, 95, 96, 97, 98, 99, 100] (by decide) rfl
      refine lv_aload_n hx hb dL_law_302 rfl (lv_at hl 2 rfl) ?_
      refine kI (wc := [(q1, .inr (10, [.ref q2, .int 0, .ref q3, .ref q52, .ref q73, .ref q13, .ref q67, .ref q76, .ref q11, .ref q86, .ref q84, .ref q12, .ref q85, .int 0])), (q3, .inr (5, [.ref q4, .int 0, .int 0, .int 0, .int (-1)])), (q4, .inr (8, [.ref q88, .ref q89, .int 0, .int 0, .int 0, .int 0, .int 0, .long 0, .int 0, .int 0])), (q2, .inl (gB g, 1600, .inl f87)), (q52, .inr (9, [.int 0, .int 0, .int 0, .int 0, .int 0, .ref q135, .ref q53, .ref q54, .ref q55, .ref q56, .ref q136, .ref q57, .ref q58, .ref q59, .ref q60, .ref q61, .ref q64])), (q53, .inl (gI g, 8, .inl f137)), (q54, .inl (gI g, 8, .inl f138)), (q55, .inl (gI g, 8, .inl f139)), (q56, .inl (gI g, 8, .inl f140)), (q57, .inl (gI g, 5, .inl f141)), (q58, .inl (gI g, 5, .inl f142)), (q59, .inl (gI g, 5, .inl f143)), (q60, .inl (gI g, 5, .inl f144)), (q61, .inr (1, [.ref q62, .ref q63, .ref q145, .int 0, .int 0, .int 0])), (q62, .inl (gI g, 300, .inl f146)), (q63, .inl (gI g, 300, .inl f147)), (q64, .inr (1, [.ref q65, .ref q66, .ref q148, .int 0, .int 0, .int 0])), (q65, .inl (gI g, 300, .inl f149)), (q66, .inl (gI g, 300, .inl f150)), (q73, .inr (9, [.int 0, .int 0, .int 0, .int 0, .int 0, .ref q157, .ref q40, .ref q41, .ref q42, .ref q43, .ref q158, .ref q44, .ref q75, .ref q45, .ref q74, .ref q46, .ref q49])), (q40, .inl (gI g, 8, .inl f123)), (q41, .inl (gI g, 8, .inl f124)), (q42, .inl (gI g, 8, .inl f125)), (q43, .inl (gI g, 8, .inl f126)), (q44, .inl (gI g, 5, .inl f127)), (q75, .inl (gI g, 5, .inl f160)), (q45, .inl (gI g, 5, .inl f128)), (q74, .inl (gI g, 5, .inl f159)), (q46, .inr (1, [.ref q47, .ref q48, .ref q129, .int 0, .int 0, .int 0])), (q47, .inl (gI g, 300, .inl f130)), (q48, .inl (gI g, 300, .inl f131)), (q49, .inr (1, [.ref q50, .ref q51, .ref q132, .int 0, .int 0, .int 0])), (q50, .inl (gI g, 300, .inl f133)), (q51, .inl (gI g, 300, .inl f134)), (q67, .inr (7, [.ref q68, .ref q69, .ref q70, .ref q71, .ref q72, .int 0, .int 0, .int 0, .int 0, .int x151])), (q68, .inl (gI g, 5, .inl f152)), (q69, .inl (gI g, 5, .inl f153)), (q70, .inl (gI g, 5, .inl f154)), (q71, .inl (gI g, 5, .inl f155)), (q72, .inl (gI g, 5, .inl f156)), (q76, .inr (2, [.ref q77, .int 0, .int 0, .int 0])), (q77, .inl (gO g, 41, .inr (.inr (.inr (.inr f161))))), (q78, .inr (7, [.ref q79, .ref q80, .ref q81, .ref q82, .ref q83, .int 0, .int 0, .int 0, .int 0, .int x162])), (q79, .inl (gI g, 5, .inl f163)), (q80, .inl (gI g, 5, .inl f164)), (q81, .inl (gI g, 5, .inl f165)), (q82, .inl (gI g, 5, .inl f166)), (q83, .inl (gI g, 5, .inl f167)), (q84, .inr (3, [.ref q168, .int 0])), (q85, .inr (6, [.ref q13, .ref q169, .ref q170, .ref q171, .ref q172, .ref q173, .ref q174, .ref q175, .ref q176, .ref q177, .ref q178, .int 0, .int 0])), (q86, .inl (gZ g, 3, .inl f179))]) (wr := [(q188, .inr (11, fs203)), (q195, .inl (gI g, 2, .inl f210)), (q196, .inl (gI g, 2, .inl f211)), (q197, .inl (gI g, 2, .inl f212)), (q198, .inl (gI g, 2, .inl f213)), (q199, .inl (gI g, 24, .inl f214)), (q200, .inl (gI g, 2, .inl f215)), (q201, .inl (gI g, 2, .inl f216)), (q202, .inl (gZ g, 3, .inl f217))]) (rV (As := []) (rest := []) (meth2 := "") hcx (c_X10_town (hf183) H.size) (gdV q16_8 q16_9 q16_10 q1_2 q16_11) dvX10_town ⟨Nat.le_of_ble_eq_true rfl, Nat.le_of_ble_eq_true rfl⟩ (hP.sub [0, 2, 3, 1, 16, 17, 18, 19, 20, 21, 22, 23, 24, 25, 26, 27, 28, 29, 30, 37, 4, 5, 6, 7, 8, 39, 9, 38, 10, 11, 12, 13, 14, 15, 31, 32, 33, 34, 35, 36, 40, 41, 42, 43, 44, 45, 46, 47, 48, 49, 50] rfl) (hD.sub [0, 2, 3, 1, 16, 17, 18, 19, 20, 21, 22, 23, 24, 25, 26, 27, 28, 29, 30, 37, 4, 5, 6, 7, 8, 39, 9, 38, 10, 11, 12, 13, 14, 15, 31, 32, 33, 34, 35, 36, 40, 41, 42, 43, 44, 45, 46, 47, 48, 49, 50] (by decide) rfl) (va_recv hK hP (ci := 10) (q0 := 0) rfl rfl) rfl hl.1 rfl (Nat.le_of_ble_eq_true rfl) dL_law_303 ⟨Nat.le_of_ble_eq_true rfl, Nat.le_of_ble_eq_true rfl⟩) hP hD hS hA [0, 2, 3, 1, 16, 17, 18, 19, 20, 21, 22, 23, 24, 25, 26, 27, 28, 29, 30, 37, 4, 5, 6, 7, 8, 39, 9, 38, 10, 11, 12, 13, 14, 15, 31, 32, 33, 34, 35, 36, 40, 41, 42, 43, 44, 45, 46, 47, 48, 49, 50] [51, 52, 53, 54, 55, 56, 57, 58, 59] rfl rfl (by decide) (by decide) (fun r W' H locs hw hP hD hS => ?_)
      obtain ⟨rfl, rfl⟩ := hw
      have hP : va_P g.1 vwCl [(q188, .inr (11, fs203)), (q195, .inl (gI g, 2, .inl f210)), (q196, .inl (gI g, 2, .inl f211)), (q197, .inl (gI g, 2, .inl f212)), (q198, .inl (gI g, 2, .inl f213)), (q199, .inl (gI g, 24, .inl f214)), (q200, .inl (gI g, 2, .inl f215)), (q201, .inl (gI g, 2, .inl f216)), (q202, .inl (gZ g, 3, .inl f217))] H := hP
      have hD : va_D A [(q188, .inr (11, fs203)), (q195, .inl (gI g, 2, .inl f210)), (q196, .inl (gI g, 2, .inl f211)), (q197, .inl (gI g, 2, .inl f212)), (q198, .inl (gI g, 2, .inl f213)), (q199, .inl (gI g, 24, .inl f214)), (q200, .inl (gI g, 2, .inl f215)), (q201, .inl (gI g, 2, .inl f216)), (q202, .inl (gZ g, 3, .inl f217))] := hD
      refine lv_aload_n hx hb dL_law_306 rfl (lv_at hl 1 rfl) ?_
      refine kI (wc := [(q188, .inr (11, fs203)), (q195, .inl (gI g, 2, .inl f210)), (q200, .inl (gI g, 2, .inl f215)), (q196, .inl (gI g, 2, .inl f211)), (q197, .inl (gI g, 2, .inl f212)), (q201, .inl (gI g, 2, .inl f216)), (q198, .inl (gI g, 2, .inl f213)), (q199, .inl (gI g, 24, .inl f214)), (q202, .inl (gZ g, 3, .inl f217))]) (wr := []) (rV (As := []) (rest := [.int 0]) (meth2 := "") hcx (c_X11_town (hf218) (hf233) (hf236) (hf226) (hf232) (hf220) (hf221) (hf222) (hf223) (hf224) (hf225) H.size) (gdV q25_14 q25_15 q25_16 q1_5 q25_17) dvX11_town ⟨Nat.le_of_ble_eq_true rfl, Nat.le_of_ble_eq_true rfl⟩ (hP.sub [0, 1, 6, 2, 3, 7, 4, 5, 8] rfl) (hD.sub [0, 1, 6, 2, 3, 7, 4, 5, 8] (by decide) rfl) (va_recv hK hP (ci := 11) (q0 := 0) rfl rfl) rfl hl.1 rfl (Nat.le_of_ble_eq_true rfl) dL_law_307 ⟨Nat.le_of_ble_eq_true rfl, Nat.le_of_ble_eq_true rfl⟩) hP hD hS hA [0, 1, 6, 2, 3, 7, 4, 5, 8] [] rfl rfl (by decide) (by decide) (fun r W' H locs hw hP hD hS => ?_)
      obtain ⟨rfl, rfl⟩ := hw
      have hP : va_P g.1 vwCl [] H := hP
      have hD : va_D A [] := hD
      refine lv_icmp_eq (tgt := 1278) hx hb dL_law_310 (by decide) (fun _ => ?_) (fun c268 => absurd (by decide) c268)
      refine lv_iinc (v := 6) (lv' := [(3, .int 6), (2, .ref q188), (1, .ref q1), (0, .ref b)]) hx hb dL_law_1278 hl (k := 0) rfl (by decide) (by decide) rfl (fun ls hl => ?_)
      refine lv_goto (tgt := 18) hx hb dL_law_1281 (by decide) ?_
      refine lv_iload_n hx hb dL_law_18 rfl (lv_at hl 0 rfl) ?_
      refine lv_aload_n hx hb dL_law_19 rfl (lv_at hl 3 rfl) ?_
      refine va_slen hx hb hX hbl hbA hS dL_law_20 ?_
      refine lv_tope (y := 6) (by decide) ?_
      refine lv_bipush (v := 6) hx hb dL_law_21 (by decide) ?_
      refine lv_isub hx hb dL_law_23 ?_
      refine lv_tope (y := 0) (by decide) ?_
      refine lv_icmp_gt (tgt := 1284) hx hb dL_law_24 (by decide) (fun _ => ?_) (fun c269 => absurd (by decide) c269)
      refine lv_iconst (v := 1) hx hb dL_law_1284 (by decide) ?_
      refine va_forget (fun q hq => hAl _ (hS.2.2 q hq)) ?_
      refine W.widen (k := 600000) (n := 7302250) (Nat.le_of_ble_eq_true rfl) (Nat.le_of_ble_eq_true rfl) ?_
      exact lw_ret hx hb hr hlocks dL_law_1285
    by_cases c270 : x256 = 3
    · refine lv_tableIn (off := 282) (tgt := 315) hx hb dL_law_33 (by rw [c270]; decide) (by rw [c270]; decide) (by rw [c270]; decide) (by decide) ?_
      have hP : va_P g.1 vwCl [(q1, .inr (10, [.ref q2, .int 0, .ref q3, .ref q52, .ref q73, .ref q13, .ref q67, .ref q76, .ref q11, .ref q86, .ref q84, .ref q12, .ref q85, .int 0])), (q3, .inr (5, [.ref q4, .int 0, .int 0, .int 0, .int (-1)])), (q188, .inr (11, fs203))] H := hP.sub [0, 2, 86] rfl
      have hD : va_D A [(q1, .inr (10, [.ref q2, .int 0, .ref q3, .ref q52, .ref q73, .ref q13, .ref q67, .ref q76, .ref q11, .ref q86, .ref q84, .ref q12, .ref q85, .int 0])), (q3, .inr (5, [.ref q4, .int 0, .int 0, .int 0, .int (-1)])), (q188, .inr (11, fs203))] := hD.sub [0, 2, 86] (by decide) rfl
      refine lv_aload_n hx hb dL_law_315 rfl (lv_at hl 2 rfl) ?_
      refine lv_aload_n hx hb dL_law_316 rfl (lv_at hl 3 rfl) ?_
      refine lv_iload_n hx hb dL_law_317 rfl (lv_at hl 0 rfl) ?_
      refine lv_iconst (v := 1) hx hb dL_law_318 (by decide) ?_
      refine lv_iadd hx hb dL_law_319 ?_
      refine lv_tope (y := 1) (by decide) ?_
      refine sc_ld hx hb hX hbl hbA hS 1 rfl (by decide) (by decide) dL_law_320 ?_
      refine kI (wc := [(q1, .inr (10, [.ref q2, .int 0, .ref q3, .ref q52, .ref q73, .ref q13, .ref q67, .ref q76, .ref q11, .ref q86, .ref q84, .ref q12, .ref q85, .int 0])), (q3, .inr (5, [.ref q4, .int 0, .int 0, .int 0, .int (-1)]))]) (wr := [(q188, .inr (11, fs203))]) (rV (As := [.int (xs 1)]) (rest := []) (meth2 := "") hcx (c_X10_fault H.size) (gdV q31_21 q31_22 q31_23 q1_2 q32_0) dvX10_fault ⟨Nat.le_of_ble_eq_true rfl, Nat.le_of_ble_eq_true rfl⟩ (hP.sub [0, 1] rfl) (hD.sub [0, 1] (by decide) rfl) (va_recv hK hP (ci := 10) (q0 := 0) rfl rfl) rfl hl.1 rfl (Nat.le_of_ble_eq_true rfl) dL_law_321 ⟨Nat.le_of_ble_eq_true rfl, Nat.le_of_ble_eq_true rfl⟩) hP hD hS hA [0, 1] [2] rfl rfl (by decide) (by decide) (fun r271 W' H locs hw hP hD hS => ?_)
      obtain ⟨hr272, rfl⟩ := hw
      have hP : va_P g.1 vwCl [(q188, .inr (11, fs203))] H := hP
      have hD : va_D A [(q188, .inr (11, fs203))] := hD
      refine lv_aload_n hx hb dL_law_324 rfl (lv_at hl 1 rfl) ?_
      refine lv_aload_n hx hb dL_law_325 rfl (lv_at hl 3 rfl) ?_
      refine lv_iload_n hx hb dL_law_326 rfl (lv_at hl 0 rfl) ?_
      refine lv_iconst (v := 1) hx hb dL_law_327 (by decide) ?_
      refine lv_iadd hx hb dL_law_328 ?_
      refine lv_tope (y := 1) (by decide) ?_
      refine sc_ld hx hb hX hbl hbA hS 1 rfl (by decide) (by decide) dL_law_329 ?_
      refine kI (wc := [(q188, .inr (11, fs203))]) (wr := []) (rV (As := [.int (xs 1)]) (rest := [.int r271]) (meth2 := "") hcx (c_X11_fault (hf218) (hf234) (hf235) H.size) (gdV q32_3 q32_4 q32_5 q1_5 q32_6) dvX11_fault ⟨Nat.le_of_ble_eq_true rfl, Nat.le_of_ble_eq_true rfl⟩ (hP.sub [0] rfl) (hD.sub [0] (by decide) rfl) (va_recv hK hP (ci := 11) (q0 := 0) rfl rfl) rfl hl.1 rfl (Nat.le_of_ble_eq_true rfl) dL_law_330 ⟨Nat.le_of_ble_eq_true rfl, Nat.le_of_ble_eq_true rfl⟩) hP hD hS hA [0] [] rfl rfl (by decide) (by decide) (fun r273 W' H locs hw hP hD hS => ?_)
      obtain ⟨hr274, rfl⟩ := hw
      have hP : va_P g.1 vwCl [] H := hP
      have hD : va_D A [] := hD
      refine lv_icmp_eq (tgt := 1278) hx hb dL_law_333 (by decide) (fun _ => ?_) (fun c275 => absurd (hr272.trans hr274.symm) c275)
      refine lv_iinc (v := 6) (lv' := [(3, .int 6), (2, .ref q188), (1, .ref q1), (0, .ref b)]) hx hb dL_law_1278 hl (k := 0) rfl (by decide) (by decide) rfl (fun ls hl => ?_)
      refine lv_goto (tgt := 18) hx hb dL_law_1281 (by decide) ?_
      refine lv_iload_n hx hb dL_law_18 rfl (lv_at hl 0 rfl) ?_
      refine lv_aload_n hx hb dL_law_19 rfl (lv_at hl 3 rfl) ?_
      refine va_slen hx hb hX hbl hbA hS dL_law_20 ?_
      refine lv_tope (y := 6) (by decide) ?_
      refine lv_bipush (v := 6) hx hb dL_law_21 (by decide) ?_
      refine lv_isub hx hb dL_law_23 ?_
      refine lv_tope (y := 0) (by decide) ?_
      refine lv_icmp_gt (tgt := 1284) hx hb dL_law_24 (by decide) (fun _ => ?_) (fun c276 => absurd (by decide) c276)
      refine lv_iconst (v := 1) hx hb dL_law_1284 (by decide) ?_
      refine va_forget (fun q hq => hAl _ (hS.2.2 q hq)) ?_
      refine W.widen (k := 600000) (n := 7302250) (Nat.le_of_ble_eq_true rfl) (Nat.le_of_ble_eq_true rfl) ?_
      exact lw_ret hx hb hr hlocks dL_law_1285
    by_cases c277 : x256 = 4
    · refine lv_tableIn (off := 305) (tgt := 338) hx hb dL_law_33 (by rw [c277]; decide) (by rw [c277]; decide) (by rw [c277]; decide) (by decide) ?_
      have hP : va_P g.1 vwCl [(q1, .inr (10, [.ref q2, .int 0, .ref q3, .ref q52, .ref q73, .ref q13, .ref q67, .ref q76, .ref q11, .ref q86, .ref q84, .ref q12, .ref q85, .int 0])), (q73, .inr (9, [.int 0, .int 0, .int 0, .int 0, .int 0, .ref q157, .ref q40, .ref q41, .ref q42, .ref q43, .ref q158, .ref q44, .ref q75, .ref q45, .ref q74, .ref q46, .ref q49])), (q188, .inr (11, fs203)), (q200, .inl (gI g, 2, .inl f215))] H := hP.sub [0, 72, 86, 98] rfl
      have hD : va_D A [(q1, .inr (10, [.ref q2, .int 0, .ref q3, .ref q52, .ref q73, .ref q13, .ref q67, .ref q76, .ref q11, .ref q86, .ref q84, .ref q12, .ref q85, .int 0])), (q73, .inr (9, [.int 0, .int 0, .int 0, .int 0, .int 0, .ref q157, .ref q40, .ref q41, .ref q42, .ref q43, .ref q158, .ref q44, .ref q75, .ref q45, .ref q74, .ref q46, .ref q49])), (q188, .inr (11, fs203)), (q200, .inl (gI g, 2, .inl f215))] := hD.sub [0, 72, 86, 98] (by decide) rfl
      refine lv_aload_n hx hb dL_law_338 rfl (lv_at hl 2 rfl) ?_
      refine lv_aload_n hx hb dL_law_339 rfl (lv_at hl 3 rfl) ?_
      refine lv_iload_n hx hb dL_law_340 rfl (lv_at hl 0 rfl) ?_
      refine lv_iconst (v := 1) hx hb dL_law_341 (by decide) ?_
      refine lv_iadd hx hb dL_law_342 ?_
      refine lv_tope (y := 1) (by decide) ?_
      refine sc_ld hx hb hX hbl hbA hS 1 rfl (by decide) (by decide) dL_law_343 ?_
      refine lv_aload_n hx hb dL_law_344 rfl (lv_at hl 3 rfl) ?_
      refine lv_iload_n hx hb dL_law_345 rfl (lv_at hl 0 rfl) ?_
      refine lv_iconst (v := 2) hx hb dL_law_346 (by decide) ?_
      refine lv_iadd hx hb dL_law_347 ?_
      refine lv_tope (y := 2) (by decide) ?_
      refine sc_ld hx hb hX hbl hbA hS 2 rfl (by decide) (by decide) dL_law_348 ?_
      refine kI (wc := [(q1, .inr (10, [.ref q2, .int 0, .ref q3, .ref q52, .ref q73, .ref q13, .ref q67, .ref q76, .ref q11, .ref q86, .ref q84, .ref q12, .ref q85, .int 0])), (q73, .inr (9, [.int 0, .int 0, .int 0, .int 0, .int 0, .ref q157, .ref q40, .ref q41, .ref q42, .ref q43, .ref q158, .ref q44, .ref q75, .ref q45, .ref q74, .ref q46, .ref q49]))]) (wr := [(q188, .inr (11, fs203)), (q200, .inl (gI g, 2, .inl f215))]) (rV (As := [.int (xs 1), .int (xs 2)]) (rest := []) (meth2 := "") hcx (c_X10_guild H.size) (gdV q32_7 q32_8 q32_9 q1_2 q32_10) dvX10_guild ⟨Nat.le_of_ble_eq_true rfl, Nat.le_of_ble_eq_true rfl⟩ (hP.sub [0, 1] rfl) (hD.sub [0, 1] (by decide) rfl) (va_recv hK hP (ci := 10) (q0 := 0) rfl rfl) rfl hl.1 rfl (Nat.le_of_ble_eq_true rfl) dL_law_349 ⟨Nat.le_of_ble_eq_true rfl, Nat.le_of_ble_eq_true rfl⟩) hP hD hS hA [0, 1] [2, 3] rfl rfl (by decide) (by decide) (fun r W' H locs hw hP hD hS => ?_)
      obtain ⟨rfl, rfl⟩ := hw
      have hP : va_P g.1 vwCl [(q188, .inr (11, fs203)), (q200, .inl (gI g, 2, .inl f215))] H := hP
      have hD : va_D A [(q188, .inr (11, fs203)), (q200, .inl (gI g, 2, .inl f215))] := hD
      refine lv_aload_n hx hb dL_law_352 rfl (lv_at hl 1 rfl) ?_
      refine lv_aload_n hx hb dL_law_353 rfl (lv_at hl 3 rfl) ?_
      refine lv_iload_n hx hb dL_law_354 rfl (lv_at hl 0 rfl) ?_
      refine lv_iconst (v := 1) hx hb dL_law_355 (by decide) ?_
      refine lv_iadd hx hb dL_law_356 ?_
      refine lv_tope (y := 1) (by decide) ?_
      refine sc_ld hx hb hX hbl hbA hS 1 rfl (by decide) (by decide) dL_law_357 ?_
      refine lv_aload_n hx hb dL_law_358 rfl (lv_at hl 3 rfl) ?_
      refine lv_iload_n hx hb dL_law_359 rfl (lv_at hl 0 rfl) ?_
      refine lv_iconst (v := 2) hx hb dL_law_360 (by decide) ?_
      refine lv_iadd hx hb dL_law_361 ?_
      refine lv_tope (y := 2) (by decide) ?_
      refine sc_ld hx hb hX hbl hbA hS 2 rfl (by decide) (by decide) dL_law_362 ?_
      refine kI (wc := [(q188, .inr (11, fs203)), (q200, .inl (gI g, 2, .inl f215))]) (wr := []) (rV (As := [.int (xs 1), .int (xs 2)]) (rest := [.int (-2)]) (meth2 := "") hcx (c_X11_guild (hf218) (hf221) (hf236) (hf250) H.size) (gdV q34_9 q34_10 q34_11 q1_5 q34_12) dvX11_guild ⟨Nat.le_of_ble_eq_true rfl, Nat.le_of_ble_eq_true rfl⟩ (hP.sub [0, 1] rfl) (hD.sub [0, 1] (by decide) rfl) (va_recv hK hP (ci := 11) (q0 := 0) rfl rfl) rfl hl.1 rfl (Nat.le_of_ble_eq_true rfl) dL_law_363 ⟨Nat.le_of_ble_eq_true rfl, Nat.le_of_ble_eq_true rfl⟩) hP hD hS hA [0, 1] [] rfl rfl (by decide) (by decide) (fun r W' H locs hw hP hD hS => ?_)
      obtain ⟨rfl, rfl⟩ := hw
      have hP : va_P g.1 vwCl [] H := hP
      have hD : va_D A [] := hD
      refine lv_icmp_eq (tgt := 1278) hx hb dL_law_366 (by decide) (fun _ => ?_) (fun c278 => absurd (by decide) c278)
      refine lv_iinc (v := 6) (lv' := [(3, .int 6), (2, .ref q188), (1, .ref q1), (0, .ref b)]) hx hb dL_law_1278 hl (k := 0) rfl (by decide) (by decide) rfl (fun ls hl => ?_)
      refine lv_goto (tgt := 18) hx hb dL_law_1281 (by decide) ?_
      refine lv_iload_n hx hb dL_law_18 rfl (lv_at hl 0 rfl) ?_
      refine lv_aload_n hx hb dL_law_19 rfl (lv_at hl 3 rfl) ?_
      refine va_slen hx hb hX hbl hbA hS dL_law_20 ?_
      refine lv_tope (y := 6) (by decide) ?_
      refine lv_bipush (v := 6) hx hb dL_law_21 (by decide) ?_
      refine lv_isub hx hb dL_law_23 ?_
      refine lv_tope (y := 0) (by decide) ?_
      refine lv_icmp_gt (tgt := 1284) hx hb dL_law_24 (by decide) (fun _ => ?_) (fun c279 => absurd (by decide) c279)
      refine lv_iconst (v := 1) hx hb dL_law_1284 (by decide) ?_
      refine va_forget (fun q hq => hAl _ (hS.2.2 q hq)) ?_
      refine W.widen (k := 600000) (n := 7302250) (Nat.le_of_ble_eq_true rfl) (Nat.le_of_ble_eq_true rfl) ?_
      exact lw_ret hx hb hr hlocks dL_law_1285
    by_cases c280 : x256 = 5
    · refine lv_tableIn (off := 338) (tgt := 371) hx hb dL_law_33 (by rw [c280]; decide) (by rw [c280]; decide) (by rw [c280]; decide) (by decide) ?_
      have hP : va_P g.1 vwCl [(q1, .inr (10, [.ref q2, .int 0, .ref q3, .ref q52, .ref q73, .ref q13, .ref q67, .ref q76, .ref q11, .ref q86, .ref q84, .ref q12, .ref q85, .int 0])), (q73, .inr (9, [.int 0, .int 0, .int 0, .int 0, .int 0, .ref q157, .ref q40, .ref q41, .ref q42, .ref q43, .ref q158, .ref q44, .ref q75, .ref q45, .ref q74, .ref q46, .ref q49])), (q188, .inr (11, fs203)), (q195, .inl (gI g, 2, .inl f210))] H := hP.sub [0, 72, 86, 93] rfl
      have hD : va_D A [(q1, .inr (10, [.ref q2, .int 0, .ref q3, .ref q52, .ref q73, .ref q13, .ref q67, .ref q76, .ref q11, .ref q86, .ref q84, .ref q12, .ref q85, .int 0])), (q73, .inr (9, [.int 0, .int 0, .int 0, .int 0, .int 0, .ref q157, .ref q40, .ref q41, .ref q42, .ref q43, .ref q158, .ref q44, .ref q75, .ref q45, .ref q74, .ref q46, .ref q49])), (q188, .inr (11, fs203)), (q195, .inl (gI g, 2, .inl f210))] := hD.sub [0, 72, 86, 93] (by decide) rfl
      refine lv_aload_n hx hb dL_law_371 rfl (lv_at hl 2 rfl) ?_
      refine lv_aload_n hx hb dL_law_372 rfl (lv_at hl 3 rfl) ?_
      refine lv_iload_n hx hb dL_law_373 rfl (lv_at hl 0 rfl) ?_
      refine lv_iconst (v := 1) hx hb dL_law_374 (by decide) ?_
      refine lv_iadd hx hb dL_law_375 ?_
      refine lv_tope (y := 1) (by decide) ?_
      refine sc_ld hx hb hX hbl hbA hS 1 rfl (by decide) (by decide) dL_law_376 ?_
      refine lv_aload_n hx hb dL_law_377 rfl (lv_at hl 3 rfl) ?_
      refine lv_iload_n hx hb dL_law_378 rfl (lv_at hl 0 rfl) ?_
      refine lv_iconst (v := 2) hx hb dL_law_379 (by decide) ?_
      refine lv_iadd hx hb dL_law_380 ?_
      refine lv_tope (y := 2) (by decide) ?_
      refine sc_ld hx hb hX hbl hbA hS 2 rfl (by decide) (by decide) dL_law_381 ?_
      refine kI (wc := [(q1, .inr (10, [.ref q2, .int 0, .ref q3, .ref q52, .ref q73, .ref q13, .ref q67, .ref q76, .ref q11, .ref q86, .ref q84, .ref q12, .ref q85, .int 0])), (q73, .inr (9, [.int 0, .int 0, .int 0, .int 0, .int 0, .ref q157, .ref q40, .ref q41, .ref q42, .ref q43, .ref q158, .ref q44, .ref q75, .ref q45, .ref q74, .ref q46, .ref q49]))]) (wr := [(q188, .inr (11, fs203)), (q195, .inl (gI g, 2, .inl f210))]) (rV (As := [.int (xs 1), .int (xs 2)]) (rest := []) (meth2 := "") hcx (c_X10_corner H.size) (gdV q36_4 q36_5 q36_6 q1_2 q36_7) dvX10_corner ⟨Nat.le_of_ble_eq_true rfl, Nat.le_of_ble_eq_true rfl⟩ (hP.sub [0, 1] rfl) (hD.sub [0, 1] (by decide) rfl) (va_recv hK hP (ci := 10) (q0 := 0) rfl rfl) rfl hl.1 rfl (Nat.le_of_ble_eq_true rfl) dL_law_382 ⟨Nat.le_of_ble_eq_true rfl, Nat.le_of_ble_eq_true rfl⟩) hP hD hS hA [0, 1] [2, 3] rfl rfl (by decide) (by decide) (fun r W' H locs hw hP hD hS => ?_)
      obtain ⟨rfl, rfl⟩ := hw
      have hP : va_P g.1 vwCl [(q188, .inr (11, fs203)), (q195, .inl (gI g, 2, .inl f210))] H := hP
      have hD : va_D A [(q188, .inr (11, fs203)), (q195, .inl (gI g, 2, .inl f210))] := hD
      refine lv_aload_n hx hb dL_law_385 rfl (lv_at hl 1 rfl) ?_
      refine lv_aload_n hx hb dL_law_386 rfl (lv_at hl 3 rfl) ?_
      refine lv_iload_n hx hb dL_law_387 rfl (lv_at hl 0 rfl) ?_
      refine lv_iconst (v := 1) hx hb dL_law_388 (by decide) ?_
      refine lv_iadd hx hb dL_law_389 ?_
      refine lv_tope (y := 1) (by decide) ?_
      refine sc_ld hx hb hX hbl hbA hS 1 rfl (by decide) (by decide) dL_law_390 ?_
      refine lv_aload_n hx hb dL_law_391 rfl (lv_at hl 3 rfl) ?_
      refine lv_iload_n hx hb dL_law_392 rfl (lv_at hl 0 rfl) ?_
      refine lv_iconst (v := 2) hx hb dL_law_393 (by decide) ?_
      refine lv_iadd hx hb dL_law_394 ?_
      refine lv_tope (y := 2) (by decide) ?_
      refine sc_ld hx hb hX hbl hbA hS 2 rfl (by decide) (by decide) dL_law_395 ?_
      refine kI (wc := [(q188, .inr (11, fs203)), (q195, .inl (gI g, 2, .inl f210))]) (wr := []) (rV (As := [.int (xs 1), .int (xs 2)]) (rest := [.int (-1)]) (meth2 := "") hcx (c_X11_corner (hf218) (hf220) (hf236) (hf242) H.size) (gdV q36_13 q36_14 q36_15 q1_5 q36_16) dvX11_corner ⟨Nat.le_of_ble_eq_true rfl, Nat.le_of_ble_eq_true rfl⟩ (hP.sub [0, 1] rfl) (hD.sub [0, 1] (by decide) rfl) (va_recv hK hP (ci := 11) (q0 := 0) rfl rfl) rfl hl.1 rfl (Nat.le_of_ble_eq_true rfl) dL_law_396 ⟨Nat.le_of_ble_eq_true rfl, Nat.le_of_ble_eq_true rfl⟩) hP hD hS hA [0, 1] [] rfl rfl (by decide) (by decide) (fun r W' H locs hw hP hD hS => ?_)
      obtain ⟨rfl, rfl⟩ := hw
      have hP : va_P g.1 vwCl [] H := hP
      have hD : va_D A [] := hD
      refine lv_icmp_eq (tgt := 1278) hx hb dL_law_399 (by decide) (fun _ => ?_) (fun c281 => absurd (by decide) c281)
      refine lv_iinc (v := 6) (lv' := [(3, .int 6), (2, .ref q188), (1, .ref q1), (0, .ref b)]) hx hb dL_law_1278 hl (k := 0) rfl (by decide) (by decide) rfl (fun ls hl => ?_)
      refine lv_goto (tgt := 18) hx hb dL_law_1281 (by decide) ?_
      refine lv_iload_n hx hb dL_law_18 rfl (lv_at hl 0 rfl) ?_
      refine lv_aload_n hx hb dL_law_19 rfl (lv_at hl 3 rfl) ?_
      refine va_slen hx hb hX hbl hbA hS dL_law_20 ?_
      refine lv_tope (y := 6) (by decide) ?_
      refine lv_bipush (v := 6) hx hb dL_law_21 (by decide) ?_
      refine lv_isub hx hb dL_law_23 ?_
      refine lv_tope (y := 0) (by decide) ?_
      refine lv_icmp_gt (tgt := 1284) hx hb dL_law_24 (by decide) (fun _ => ?_) (fun c282 => absurd (by decide) c282)
      refine lv_iconst (v := 1) hx hb dL_law_1284 (by decide) ?_
      refine va_forget (fun q hq => hAl _ (hS.2.2 q hq)) ?_
      refine W.widen (k := 600000) (n := 7302250) (Nat.le_of_ble_eq_true rfl) (Nat.le_of_ble_eq_true rfl) ?_
      exact lw_ret hx hb hr hlocks dL_law_1285
    by_cases c283 : x256 = 6
    · refine lv_tableIn (off := 371) (tgt := 404) hx hb dL_law_33 (by rw [c283]; decide) (by rw [c283]; decide) (by rw [c283]; decide) (by decide) ?_
      have hP : va_P g.1 vwCl [(q1, .inr (10, [.ref q2, .int 0, .ref q3, .ref q52, .ref q73, .ref q13, .ref q67, .ref q76, .ref q11, .ref q86, .ref q84, .ref q12, .ref q85, .int 0])), (q73, .inr (9, [.int 0, .int 0, .int 0, .int 0, .int 0, .ref q157, .ref q40, .ref q41, .ref q42, .ref q43, .ref q158, .ref q44, .ref q75, .ref q45, .ref q74, .ref q46, .ref q49])), (q188, .inr (11, fs203)), (q200, .inl (gI g, 2, .inl f215))] H := hP.sub [0, 72, 86, 98] rfl
      have hD : va_D A [(q1, .inr (10, [.ref q2, .int 0, .ref q3, .ref q52, .ref q73, .ref q13, .ref q67, .ref q76, .ref q11, .ref q86, .ref q84, .ref q12, .ref q85, .int 0])), (q73, .inr (9, [.int 0, .int 0, .int 0, .int 0, .int 0, .ref q157, .ref q40, .ref q41, .ref q42, .ref q43, .ref q158, .ref q44, .ref q75, .ref q45, .ref q74, .ref q46, .ref q49])), (q188, .inr (11, fs203)), (q200, .inl (gI g, 2, .inl f215))] := hD.sub [0, 72, 86, 98] (by decide) rfl
      refine lv_aload_n hx hb dL_law_404 rfl (lv_at hl 2 rfl) ?_
      refine lv_aload_n hx hb dL_law_405 rfl (lv_at hl 3 rfl) ?_
      refine lv_iload_n hx hb dL_law_406 rfl (lv_at hl 0 rfl) ?_
      refine lv_iconst (v := 1) hx hb dL_law_407 (by decide) ?_
      refine lv_iadd hx hb dL_law_408 ?_
      refine lv_tope (y := 1) (by decide) ?_
      refine sc_ld hx hb hX hbl hbA hS 1 rfl (by decide) (by decide) dL_law_409 ?_
      refine kI (wc := [(q1, .inr (10, [.ref q2, .int 0, .ref q3, .ref q52, .ref q73, .ref q13, .ref q67, .ref q76, .ref q11, .ref q86, .ref q84, .ref q12, .ref q85, .int 0])), (q73, .inr (9, [.int 0, .int 0, .int 0, .int 0, .int 0, .ref q157, .ref q40, .ref q41, .ref q42, .ref q43, .ref q158, .ref q44, .ref q75, .ref q45, .ref q74, .ref q46, .ref q49]))]) (wr := [(q188, .inr (11, fs203)), (q200, .inl (gI g, 2, .inl f215))]) (rV (As := [.int (xs 1)]) (rest := []) (meth2 := "") hcx (c_X10_place H.size) (gdV q36_21 q36_22 q36_23 q1_2 q37_0) dvX10_place ⟨Nat.le_of_ble_eq_true rfl, Nat.le_of_ble_eq_true rfl⟩ (hP.sub [0, 1] rfl) (hD.sub [0, 1] (by decide) rfl) (va_recv hK hP (ci := 10) (q0 := 0) rfl rfl) rfl hl.1 rfl (Nat.le_of_ble_eq_true rfl) dL_law_410 ⟨Nat.le_of_ble_eq_true rfl, Nat.le_of_ble_eq_true rfl⟩) hP hD hS hA [0, 1] [2, 3] rfl rfl (by decide) (by decide) (fun r W' H locs hw hP hD hS => ?_)
      obtain ⟨rfl, rfl⟩ := hw
      have hP : va_P g.1 vwCl [(q188, .inr (11, fs203)), (q200, .inl (gI g, 2, .inl f215))] H := hP
      have hD : va_D A [(q188, .inr (11, fs203)), (q200, .inl (gI g, 2, .inl f215))] := hD
      refine lv_aload_n hx hb dL_law_413 rfl (lv_at hl 1 rfl) ?_
      refine lv_aload_n hx hb dL_law_414 rfl (lv_at hl 3 rfl) ?_
      refine lv_iload_n hx hb dL_law_415 rfl (lv_at hl 0 rfl) ?_
      refine lv_iconst (v := 1) hx hb dL_law_416 (by decide) ?_
      refine lv_iadd hx hb dL_law_417 ?_
      refine lv_tope (y := 1) (by decide) ?_
      refine sc_ld hx hb hX hbl hbA hS 1 rfl (by decide) (by decide) dL_law_418 ?_
      refine kI (wc := [(q188, .inr (11, fs203)), (q200, .inl (gI g, 2, .inl f215))]) (wr := []) (rV (As := [.int (xs 1)]) (rest := [.int (-1)]) (meth2 := "") hcx (c_X11_place (hf218) (hf221) (hf236) (hf250) H.size) (gdV q37_2 q37_3 q37_4 q1_5 q37_5) dvX11_place ⟨Nat.le_of_ble_eq_true rfl, Nat.le_of_ble_eq_true rfl⟩ (hP.sub [0, 1] rfl) (hD.sub [0, 1] (by decide) rfl) (va_recv hK hP (ci := 11) (q0 := 0) rfl rfl) rfl hl.1 rfl (Nat.le_of_ble_eq_true rfl) dL_law_419 ⟨Nat.le_of_ble_eq_true rfl, Nat.le_of_ble_eq_true rfl⟩) hP hD hS hA [0, 1] [] rfl rfl (by decide) (by decide) (fun r W' H locs hw hP hD hS => ?_)
      obtain ⟨rfl, rfl⟩ := hw
      have hP : va_P g.1 vwCl [] H := hP
      have hD : va_D A [] := hD
      refine lv_icmp_eq (tgt := 1278) hx hb dL_law_422 (by decide) (fun _ => ?_) (fun c284 => absurd (by decide) c284)
      refine lv_iinc (v := 6) (lv' := [(3, .int 6), (2, .ref q188), (1, .ref q1), (0, .ref b)]) hx hb dL_law_1278 hl (k := 0) rfl (by decide) (by decide) rfl (fun ls hl => ?_)
      refine lv_goto (tgt := 18) hx hb dL_law_1281 (by decide) ?_
      refine lv_iload_n hx hb dL_law_18 rfl (lv_at hl 0 rfl) ?_
      refine lv_aload_n hx hb dL_law_19 rfl (lv_at hl 3 rfl) ?_
      refine va_slen hx hb hX hbl hbA hS dL_law_20 ?_
      refine lv_tope (y := 6) (by decide) ?_
      refine lv_bipush (v := 6) hx hb dL_law_21 (by decide) ?_
      refine lv_isub hx hb dL_law_23 ?_
      refine lv_tope (y := 0) (by decide) ?_
      refine lv_icmp_gt (tgt := 1284) hx hb dL_law_24 (by decide) (fun _ => ?_) (fun c285 => absurd (by decide) c285)
      refine lv_iconst (v := 1) hx hb dL_law_1284 (by decide) ?_
      refine va_forget (fun q hq => hAl _ (hS.2.2 q hq)) ?_
      refine W.widen (k := 600000) (n := 7302250) (Nat.le_of_ble_eq_true rfl) (Nat.le_of_ble_eq_true rfl) ?_
      exact lw_ret hx hb hr hlocks dL_law_1285
    by_cases c286 : x256 = 7
    · refine lv_tableIn (off := 394) (tgt := 427) hx hb dL_law_33 (by rw [c286]; decide) (by rw [c286]; decide) (by rw [c286]; decide) (by decide) ?_
      have hP : va_P g.1 vwCl [(q1, .inr (10, [.ref q2, .int 0, .ref q3, .ref q52, .ref q73, .ref q13, .ref q67, .ref q76, .ref q11, .ref q86, .ref q84, .ref q12, .ref q85, .int 0])), (q13, .inr (0, [.ref q73, .ref q100, .int 0, .int 0])), (q67, .inr (7, [.ref q68, .ref q69, .ref q70, .ref q71, .ref q72, .int 0, .int 0, .int 0, .int 0, .int x151])), (q73, .inr (9, [.int 0, .int 0, .int 0, .int 0, .int 0, .ref q157, .ref q40, .ref q41, .ref q42, .ref q43, .ref q158, .ref q44, .ref q75, .ref q45, .ref q74, .ref q46, .ref q49])), (q188, .inr (11, fs203)), (q200, .inl (gI g, 2, .inl f215))] H := hP.sub [0, 12, 66, 72, 86, 98] rfl
      have hD : va_D A [(q1, .inr (10, [.ref q2, .int 0, .ref q3, .ref q52, .ref q73, .ref q13, .ref q67, .ref q76, .ref q11, .ref q86, .ref q84, .ref q12, .ref q85, .int 0])), (q13, .inr (0, [.ref q73, .ref q100, .int 0, .int 0])), (q67, .inr (7, [.ref q68, .ref q69, .ref q70, .ref q71, .ref q72, .int 0, .int 0, .int 0, .int 0, .int x151])), (q73, .inr (9, [.int 0, .int 0, .int 0, .int 0, .int 0, .ref q157, .ref q40, .ref q41, .ref q42, .ref q43, .ref q158, .ref q44, .ref q75, .ref q45, .ref q74, .ref q46, .ref q49])), (q188, .inr (11, fs203)), (q200, .inl (gI g, 2, .inl f215))] := hD.sub [0, 12, 66, 72, 86, 98] (by decide) rfl
      refine lv_aload_n hx hb dL_law_427 rfl (lv_at hl 2 rfl) ?_
      refine lv_aload_n hx hb dL_law_428 rfl (lv_at hl 3 rfl) ?_
      refine lv_iload_n hx hb dL_law_429 rfl (lv_at hl 0 rfl) ?_
      refine lv_iconst (v := 1) hx hb dL_law_430 (by decide) ?_
      refine lv_iadd hx hb dL_law_431 ?_
      refine lv_tope (y := 1) (by decide) ?_
      refine sc_ld hx hb hX hbl hbA hS 1 rfl (by decide) (by decide) dL_law_432 ?_
      refine lv_aload_n hx hb dL_law_433 rfl (lv_at hl 3 rfl) ?_
      refine lv_iload_n hx hb dL_law_434 rfl (lv_at hl 0 rfl) ?_
      refine lv_iconst (v := 2) hx hb dL_law_435 (by decide) ?_
      refine lv_iadd hx hb dL_law_436 ?_
      refine lv_tope (y := 2) (by decide) ?_
      refine sc_ld hx hb hX hbl hbA hS 2 rfl (by decide) (by decide) dL_law_437 ?_
      refine kI (wc := [(q1, .inr (10, [.ref q2, .int 0, .ref q3, .ref q52, .ref q73, .ref q13, .ref q67, .ref q76, .ref q11, .ref q86, .ref q84, .ref q12, .ref q85, .int 0])), (q73, .inr (9, [.int 0, .int 0, .int 0, .int 0, .int 0, .ref q157, .ref q40, .ref q41, .ref q42, .ref q43, .ref q158, .ref q44, .ref q75, .ref q45, .ref q74, .ref q46, .ref q49])), (q13, .inr (0, [.ref q73, .ref q100, .int 0, .int 0])), (q67, .inr (7, [.ref q68, .ref q69, .ref q70, .ref q71, .ref q72, .int 0, .int 0, .int 0, .int 0, .int x151]))]) (wr := [(q188, .inr (11, fs203)), (q200, .inl (gI g, 2, .inl f215))]) (rV (As := [.int (xs 1), .int (xs 2)]) (rest := []) (meth2 := "") hcx (c_X10_strain H.size) (gdV q37_6 q37_7 q37_8 q1_2 q37_9) dvX10_strain ⟨Nat.le_of_ble_eq_true rfl, Nat.le_of_ble_eq_true rfl⟩ (hP.sub [0, 3, 1, 2] rfl) (hD.sub [0, 3, 1, 2] (by decide) rfl) (va_recv hK hP (ci := 10) (q0 := 0) rfl rfl) rfl hl.1 rfl (Nat.le_of_ble_eq_true rfl) dL_law_438 ⟨Nat.le_of_ble_eq_true rfl, Nat.le_of_ble_eq_true rfl⟩) hP hD hS hA [0, 3, 1, 2] [4, 5] rfl rfl (by decide) (by decide) (fun r W' H locs hw hP hD hS => ?_)
      obtain ⟨rfl, rfl⟩ := hw
      have hP : va_P g.1 vwCl [(q188, .inr (11, fs203)), (q200, .inl (gI g, 2, .inl f215))] H := hP
      have hD : va_D A [(q188, .inr (11, fs203)), (q200, .inl (gI g, 2, .inl f215))] := hD
      refine lv_aload_n hx hb dL_law_441 rfl (lv_at hl 1 rfl) ?_
      refine lv_aload_n hx hb dL_law_442 rfl (lv_at hl 3 rfl) ?_
      refine lv_iload_n hx hb dL_law_443 rfl (lv_at hl 0 rfl) ?_
      refine lv_iconst (v := 1) hx hb dL_law_444 (by decide) ?_
      refine lv_iadd hx hb dL_law_445 ?_
      refine lv_tope (y := 1) (by decide) ?_
      refine sc_ld hx hb hX hbl hbA hS 1 rfl (by decide) (by decide) dL_law_446 ?_
      refine lv_aload_n hx hb dL_law_447 rfl (lv_at hl 3 rfl) ?_
      refine lv_iload_n hx hb dL_law_448 rfl (lv_at hl 0 rfl) ?_
      refine lv_iconst (v := 2) hx hb dL_law_449 (by decide) ?_
      refine lv_iadd hx hb dL_law_450 ?_
      refine lv_tope (y := 2) (by decide) ?_
      refine sc_ld hx hb hX hbl hbA hS 2 rfl (by decide) (by decide) dL_law_451 ?_
      refine kI (wc := [(q188, .inr (11, fs203)), (q200, .inl (gI g, 2, .inl f215))]) (wr := []) (rV (As := [.int (xs 1), .int (xs 2)]) (rest := [.int (-1000000000)]) (meth2 := "") hcx (c_X11_strain (hf218) (hf221) (hf236) (hf250) H.size) (gdV q39_9 q39_10 q39_11 q1_5 q39_12) dvX11_strain ⟨Nat.le_of_ble_eq_true rfl, Nat.le_of_ble_eq_true rfl⟩ (hP.sub [0, 1] rfl) (hD.sub [0, 1] (by decide) rfl) (va_recv hK hP (ci := 11) (q0 := 0) rfl rfl) rfl hl.1 rfl (Nat.le_of_ble_eq_true rfl) dL_law_452 ⟨Nat.le_of_ble_eq_true rfl, Nat.le_of_ble_eq_true rfl⟩) hP hD hS hA [0, 1] [] rfl rfl (by decide) (by decide) (fun r W' H locs hw hP hD hS => ?_)
      obtain ⟨rfl, rfl⟩ := hw
      have hP : va_P g.1 vwCl [] H := hP
      have hD : va_D A [] := hD
      refine lv_icmp_eq (tgt := 1278) hx hb dL_law_455 (by decide) (fun _ => ?_) (fun c287 => absurd (by decide) c287)
      refine lv_iinc (v := 6) (lv' := [(3, .int 6), (2, .ref q188), (1, .ref q1), (0, .ref b)]) hx hb dL_law_1278 hl (k := 0) rfl (by decide) (by decide) rfl (fun ls hl => ?_)
      refine lv_goto (tgt := 18) hx hb dL_law_1281 (by decide) ?_
      refine lv_iload_n hx hb dL_law_18 rfl (lv_at hl 0 rfl) ?_
      refine lv_aload_n hx hb dL_law_19 rfl (lv_at hl 3 rfl) ?_
      refine va_slen hx hb hX hbl hbA hS dL_law_20 ?_
      refine lv_tope (y := 6) (by decide) ?_
      refine lv_bipush (v := 6) hx hb dL_law_21 (by decide) ?_
      refine lv_isub hx hb dL_law_23 ?_
      refine lv_tope (y := 0) (by decide) ?_
      refine lv_icmp_gt (tgt := 1284) hx hb dL_law_24 (by decide) (fun _ => ?_) (fun c288 => absurd (by decide) c288)
      refine lv_iconst (v := 1) hx hb dL_law_1284 (by decide) ?_
      refine va_forget (fun q hq => hAl _ (hS.2.2 q hq)) ?_
      refine W.widen (k := 600000) (n := 7302250) (Nat.le_of_ble_eq_true rfl) (Nat.le_of_ble_eq_true rfl) ?_
      exact lw_ret hx hb hr hlocks dL_law_1285
    by_cases c289 : x256 = 8
    · refine lv_tableIn (off := 427) (tgt := 460) hx hb dL_law_33 (by rw [c289]; decide) (by rw [c289]; decide) (by rw [c289]; decide) (by decide) ?_
      have hP : va_P g.1 vwCl [(q1, .inr (10, [.ref q2, .int 0, .ref q3, .ref q52, .ref q73, .ref q13, .ref q67, .ref q76, .ref q11, .ref q86, .ref q84, .ref q12, .ref q85, .int 0])), (q13, .inr (0, [.ref q73, .ref q100, .int 0, .int 0])), (q67, .inr (7, [.ref q68, .ref q69, .ref q70, .ref q71, .ref q72, .int 0, .int 0, .int 0, .int 0, .int x151])), (q73, .inr (9, [.int 0, .int 0, .int 0, .int 0, .int 0, .ref q157, .ref q40, .ref q41, .ref q42, .ref q43, .ref q158, .ref q44, .ref q75, .ref q45, .ref q74, .ref q46, .ref q49])), (q188, .inr (11, fs203)), (q195, .inl (gI g, 2, .inl f210)), (q199, .inl (gI g, 24, .inl f214))] H := hP.sub [0, 12, 66, 72, 86, 93, 97] rfl
      have hD : va_D A [(q1, .inr (10, [.ref q2, .int 0, .ref q3, .ref q52, .ref q73, .ref q13, .ref q67, .ref q76, .ref q11, .ref q86, .ref q84, .ref q12, .ref q85, .int 0])), (q13, .inr (0, [.ref q73, .ref q100, .int 0, .int 0])), (q67, .inr (7, [.ref q68, .ref q69, .ref q70, .ref q71, .ref q72, .int 0, .int 0, .int 0, .int 0, .int x151])), (q73, .inr (9, [.int 0, .int 0, .int 0, .int 0, .int 0, .ref q157, .ref q40, .ref q41, .ref q42, .ref q43, .ref q158, .ref q44, .ref q75, .ref q45, .ref q74, .ref q46, .ref q49])), (q188, .inr (11, fs203)), (q195, .inl (gI g, 2, .inl f210)), (q199, .inl (gI g, 24, .inl f214))] := hD.sub [0, 12, 66, 72, 86, 93, 97] (by decide) rfl
      refine lv_aload_n hx hb dL_law_460 rfl (lv_at hl 2 rfl) ?_
      refine kI (wc := [(q1, .inr (10, [.ref q2, .int 0, .ref q3, .ref q52, .ref q73, .ref q13, .ref q67, .ref q76, .ref q11, .ref q86, .ref q84, .ref q12, .ref q85, .int 0])), (q13, .inr (0, [.ref q73, .ref q100, .int 0, .int 0])), (q67, .inr (7, [.ref q68, .ref q69, .ref q70, .ref q71, .ref q72, .int 0, .int 0, .int 0, .int 0, .int x151])), (q73, .inr (9, [.int 0, .int 0, .int 0, .int 0, .int 0, .ref q157, .ref q40, .ref q41, .ref q42, .ref q43, .ref q158, .ref q44, .ref q75, .ref q45, .ref q74, .ref q46, .ref q49]))]) (wr := [(q188, .inr (11, fs203)), (q195, .inl (gI g, 2, .inl f210)), (q199, .inl (gI g, 24, .inl f214))]) (rV (As := []) (rest := []) (meth2 := "") hcx (c_X10_step H.size) (gdV q40_23 q41_0 q41_1 q1_2 q41_2) dvX10_step ⟨Nat.le_of_ble_eq_true rfl, Nat.le_of_ble_eq_true rfl⟩ (hP.sub [0, 1, 2, 3] rfl) (hD.sub [0, 1, 2, 3] (by decide) rfl) (va_recv hK hP (ci := 10) (q0 := 0) rfl rfl) rfl hl.1 rfl (Nat.le_of_ble_eq_true rfl) dL_law_461 ⟨Nat.le_of_ble_eq_true rfl, Nat.le_of_ble_eq_true rfl⟩) hP hD hS hA [0, 1, 2, 3] [4, 5, 6] rfl rfl (by decide) (by decide) (fun r W' H locs hw hP hD hS => ?_)
      obtain ⟨rfl, rfl⟩ := hw
      have hP : va_P g.1 vwCl [(q188, .inr (11, fs203)), (q195, .inl (gI g, 2, .inl f210)), (q199, .inl (gI g, 24, .inl f214))] H := hP
      have hD : va_D A [(q188, .inr (11, fs203)), (q195, .inl (gI g, 2, .inl f210)), (q199, .inl (gI g, 24, .inl f214))] := hD
      refine lv_aload_n hx hb dL_law_464 rfl (lv_at hl 1 rfl) ?_
      refine kI (wc := [(q188, .inr (11, fs203)), (q199, .inl (gI g, 24, .inl f214)), (q195, .inl (gI g, 2, .inl f210))]) (wr := []) (rV (As := []) (rest := [.int (-1)]) (meth2 := "") hcx (c_X11_step (hf218) (hf226) (hf220) (hf236) (hf247) (hf242) H.size) (gdV q41_23 q42_0 q42_1 q1_5 q42_2) dvX11_step ⟨Nat.le_of_ble_eq_true rfl, Nat.le_of_ble_eq_true rfl⟩ (hP.sub [0, 2, 1] rfl) (hD.sub [0, 2, 1] (by decide) rfl) (va_recv hK hP (ci := 11) (q0 := 0) rfl rfl) rfl hl.1 rfl (Nat.le_of_ble_eq_true rfl) dL_law_465 ⟨Nat.le_of_ble_eq_true rfl, Nat.le_of_ble_eq_true rfl⟩) hP hD hS hA [0, 2, 1] [] rfl rfl (by decide) (by decide) (fun r W' H locs hw hP hD hS => ?_)
      obtain ⟨rfl, rfl⟩ := hw
      have hP : va_P g.1 vwCl [] H := hP
      have hD : va_D A [] := hD
      refine lv_icmp_eq (tgt := 1278) hx hb dL_law_468 (by decide) (fun _ => ?_) (fun c290 => absurd (by decide) c290)
      refine lv_iinc (v := 6) (lv' := [(3, .int 6), (2, .ref q188), (1, .ref q1), (0, .ref b)]) hx hb dL_law_1278 hl (k := 0) rfl (by decide) (by decide) rfl (fun ls hl => ?_)
      refine lv_goto (tgt := 18) hx hb dL_law_1281 (by decide) ?_
      refine lv_iload_n hx hb dL_law_18 rfl (lv_at hl 0 rfl) ?_
      refine lv_aload_n hx hb dL_law_19 rfl (lv_at hl 3 rfl) ?_
      refine va_slen hx hb hX hbl hbA hS dL_law_20 ?_
      refine lv_tope (y := 6) (by decide) ?_
      refine lv_bipush (v := 6) hx hb dL_law_21 (by decide) ?_
      refine lv_isub hx hb dL_law_23 ?_
      refine lv_tope (y := 0) (by decide) ?_
      refine lv_icmp_gt (tgt := 1284) hx hb dL_law_24 (by decide) (fun _ => ?_) (fun c291 => absurd (by decide) c291)
      refine lv_iconst (v := 1) hx hb dL_law_1284 (by decide) ?_
      refine va_forget (fun q hq => hAl _ (hS.2.2 q hq)) ?_
      refine W.widen (k := 600000) (n := 7302250) (Nat.le_of_ble_eq_true rfl) (Nat.le_of_ble_eq_true rfl) ?_
      exact lw_ret hx hb hr hlocks dL_law_1285
    by_cases c292 : x256 = 9
    · refine lv_tableIn (off := 440) (tgt := 473) hx hb dL_law_33 (by rw [c292]; decide) (by rw [c292]; decide) (by rw [c292]; decide) (by decide) ?_
      have hP : va_P g.1 vwCl [(q1, .inr (10, [.ref q2, .int 0, .ref q3, .ref q52, .ref q73, .ref q13, .ref q67, .ref q76, .ref q11, .ref q86, .ref q84, .ref q12, .ref q85, .int 0])), (q73, .inr (9, [.int 0, .int 0, .int 0, .int 0, .int 0, .ref q157, .ref q40, .ref q41, .ref q42, .ref q43, .ref q158, .ref q44, .ref q75, .ref q45, .ref q74, .ref q46, .ref q49])), (q188, .inr (11, fs203)), (q200, .inl (gI g, 2, .inl f215))] H := hP.sub [0, 72, 86, 98] rfl
      have hD : va_D A [(q1, .inr (10, [.ref q2, .int 0, .ref q3, .ref q52, .ref q73, .ref q13, .ref q67, .ref q76, .ref q11, .ref q86, .ref q84, .ref q12, .ref q85, .int 0])), (q73, .inr (9, [.int 0, .int 0, .int 0, .int 0, .int 0, .ref q157, .ref q40, .ref q41, .ref q42, .ref q43, .ref q158, .ref q44, .ref q75, .ref q45, .ref q74, .ref q46, .ref q49])), (q188, .inr (11, fs203)), (q200, .inl (gI g, 2, .inl f215))] := hD.sub [0, 72, 86, 98] (by decide) rfl
      refine lv_aload_n hx hb dL_law_473 rfl (lv_at hl 2 rfl) ?_
      refine lv_aload_n hx hb dL_law_474 rfl (lv_at hl 3 rfl) ?_
      refine lv_iload_n hx hb dL_law_475 rfl (lv_at hl 0 rfl) ?_
      refine lv_iconst (v := 1) hx hb dL_law_476 (by decide) ?_
      refine lv_iadd hx hb dL_law_477 ?_
      refine lv_tope (y := 1) (by decide) ?_
      refine sc_ld hx hb hX hbl hbA hS 1 rfl (by decide) (by decide) dL_law_478 ?_
      refine lv_aload_n hx hb dL_law_479 rfl (lv_at hl 3 rfl) ?_
      refine lv_iload_n hx hb dL_law_480 rfl (lv_at hl 0 rfl) ?_
      refine lv_iconst (v := 2) hx hb dL_law_481 (by decide) ?_
      refine lv_iadd hx hb dL_law_482 ?_
      refine lv_tope (y := 2) (by decide) ?_
      refine sc_ld hx hb hX hbl hbA hS 2 rfl (by decide) (by decide) dL_law_483 ?_
      refine kI (wc := [(q1, .inr (10, [.ref q2, .int 0, .ref q3, .ref q52, .ref q73, .ref q13, .ref q67, .ref q76, .ref q11, .ref q86, .ref q84, .ref q12, .ref q85, .int 0])), (q73, .inr (9, [.int 0, .int 0, .int 0, .int 0, .int 0, .ref q157, .ref q40, .ref q41, .ref q42, .ref q43, .ref q158, .ref q44, .ref q75, .ref q45, .ref q74, .ref q46, .ref q49]))]) (wr := [(q188, .inr (11, fs203)), (q200, .inl (gI g, 2, .inl f215))]) (rV (As := [.int (xs 1), .int (xs 2)]) (rest := []) (meth2 := "") hcx (c_X10_reef H.size) (gdV q42_15 q42_16 q42_17 q1_2 q42_18) dvX10_reef ⟨Nat.le_of_ble_eq_true rfl, Nat.le_of_ble_eq_true rfl⟩ (hP.sub [0, 1] rfl) (hD.sub [0, 1] (by decide) rfl) (va_recv hK hP (ci := 10) (q0 := 0) rfl rfl) rfl hl.1 rfl (Nat.le_of_ble_eq_true rfl) dL_law_484 ⟨Nat.le_of_ble_eq_true rfl, Nat.le_of_ble_eq_true rfl⟩) hP hD hS hA [0, 1] [2, 3] rfl rfl (by decide) (by decide) (fun r W' H locs hw hP hD hS => ?_)
      obtain ⟨rfl, rfl⟩ := hw
      have hP : va_P g.1 vwCl [(q188, .inr (11, fs203)), (q200, .inl (gI g, 2, .inl f215))] H := hP
      have hD : va_D A [(q188, .inr (11, fs203)), (q200, .inl (gI g, 2, .inl f215))] := hD
      refine lv_aload_n hx hb dL_law_487 rfl (lv_at hl 1 rfl) ?_
      refine lv_aload_n hx hb dL_law_488 rfl (lv_at hl 3 rfl) ?_
      refine lv_iload_n hx hb dL_law_489 rfl (lv_at hl 0 rfl) ?_
      refine lv_iconst (v := 1) hx hb dL_law_490 (by decide) ?_
      refine lv_iadd hx hb dL_law_491 ?_
      refine lv_tope (y := 1) (by decide) ?_
      refine sc_ld hx hb hX hbl hbA hS 1 rfl (by decide) (by decide) dL_law_492 ?_
      refine lv_aload_n hx hb dL_law_493 rfl (lv_at hl 3 rfl) ?_
      refine lv_iload_n hx hb dL_law_494 rfl (lv_at hl 0 rfl) ?_
      refine lv_iconst (v := 2) hx hb dL_law_495 (by decide) ?_
      refine lv_iadd hx hb dL_law_496 ?_
      refine lv_tope (y := 2) (by decide) ?_
      refine sc_ld hx hb hX hbl hbA hS 2 rfl (by decide) (by decide) dL_law_497 ?_
      refine kI (wc := [(q188, .inr (11, fs203)), (q200, .inl (gI g, 2, .inl f215))]) (wr := []) (rV (As := [.int (xs 1), .int (xs 2)]) (rest := [.int (-1)]) (meth2 := "") hcx (c_X11_reef (hf218) (hf221) (hf236) (hf250) H.size) (gdV q42_19 q42_20 q42_21 q1_5 q42_22) dvX11_reef ⟨Nat.le_of_ble_eq_true rfl, Nat.le_of_ble_eq_true rfl⟩ (hP.sub [0, 1] rfl) (hD.sub [0, 1] (by decide) rfl) (va_recv hK hP (ci := 11) (q0 := 0) rfl rfl) rfl hl.1 rfl (Nat.le_of_ble_eq_true rfl) dL_law_498 ⟨Nat.le_of_ble_eq_true rfl, Nat.le_of_ble_eq_true rfl⟩) hP hD hS hA [0, 1] [] rfl rfl (by decide) (by decide) (fun r W' H locs hw hP hD hS => ?_)
      obtain ⟨rfl, rfl⟩ := hw
      have hP : va_P g.1 vwCl [] H := hP
      have hD : va_D A [] := hD
      refine lv_icmp_eq (tgt := 1278) hx hb dL_law_501 (by decide) (fun _ => ?_) (fun c293 => absurd (by decide) c293)
      refine lv_iinc (v := 6) (lv' := [(3, .int 6), (2, .ref q188), (1, .ref q1), (0, .ref b)]) hx hb dL_law_1278 hl (k := 0) rfl (by decide) (by decide) rfl (fun ls hl => ?_)
      refine lv_goto (tgt := 18) hx hb dL_law_1281 (by decide) ?_
      refine lv_iload_n hx hb dL_law_18 rfl (lv_at hl 0 rfl) ?_
      refine lv_aload_n hx hb dL_law_19 rfl (lv_at hl 3 rfl) ?_
      refine va_slen hx hb hX hbl hbA hS dL_law_20 ?_
      refine lv_tope (y := 6) (by decide) ?_
      refine lv_bipush (v := 6) hx hb dL_law_21 (by decide) ?_
      refine lv_isub hx hb dL_law_23 ?_
      refine lv_tope (y := 0) (by decide) ?_
      refine lv_icmp_gt (tgt := 1284) hx hb dL_law_24 (by decide) (fun _ => ?_) (fun c294 => absurd (by decide) c294)
      refine lv_iconst (v := 1) hx hb dL_law_1284 (by decide) ?_
      refine va_forget (fun q hq => hAl _ (hS.2.2 q hq)) ?_
      refine W.widen (k := 600000) (n := 7302250) (Nat.le_of_ble_eq_true rfl) (Nat.le_of_ble_eq_true rfl) ?_
      exact lw_ret hx hb hr hlocks dL_law_1285
    by_cases c295 : x256 = 10
    · refine lv_tableIn (off := 473) (tgt := 506) hx hb dL_law_33 (by rw [c295]; decide) (by rw [c295]; decide) (by rw [c295]; decide) (by decide) ?_
      have hP : va_P g.1 vwCl [(q1, .inr (10, [.ref q2, .int 0, .ref q3, .ref q52, .ref q73, .ref q13, .ref q67, .ref q76, .ref q11, .ref q86, .ref q84, .ref q12, .ref q85, .int 0])), (q73, .inr (9, [.int 0, .int 0, .int 0, .int 0, .int 0, .ref q157, .ref q40, .ref q41, .ref q42, .ref q43, .ref q158, .ref q44, .ref q75, .ref q45, .ref q74, .ref q46, .ref q49])), (q188, .inr (11, fs203)), (q200, .inl (gI g, 2, .inl f215))] H := hP.sub [0, 72, 86, 98] rfl
      have hD : va_D A [(q1, .inr (10, [.ref q2, .int 0, .ref q3, .ref q52, .ref q73, .ref q13, .ref q67, .ref q76, .ref q11, .ref q86, .ref q84, .ref q12, .ref q85, .int 0])), (q73, .inr (9, [.int 0, .int 0, .int 0, .int 0, .int 0, .ref q157, .ref q40, .ref q41, .ref q42, .ref q43, .ref q158, .ref q44, .ref q75, .ref q45, .ref q74, .ref q46, .ref q49])), (q188, .inr (11, fs203)), (q200, .inl (gI g, 2, .inl f215))] := hD.sub [0, 72, 86, 98] (by decide) rfl
      refine lv_aload_n hx hb dL_law_506 rfl (lv_at hl 2 rfl) ?_
      refine lv_aload_n hx hb dL_law_507 rfl (lv_at hl 3 rfl) ?_
      refine lv_iload_n hx hb dL_law_508 rfl (lv_at hl 0 rfl) ?_
      refine lv_iconst (v := 1) hx hb dL_law_509 (by decide) ?_
      refine lv_iadd hx hb dL_law_510 ?_
      refine lv_tope (y := 1) (by decide) ?_
      refine sc_ld hx hb hX hbl hbA hS 1 rfl (by decide) (by decide) dL_law_511 ?_
      refine lv_aload_n hx hb dL_law_512 rfl (lv_at hl 3 rfl) ?_
      refine lv_iload_n hx hb dL_law_513 rfl (lv_at hl 0 rfl) ?_
      refine lv_iconst (v := 2) hx hb dL_law_514 (by decide) ?_
      refine lv_iadd hx hb dL_law_515 ?_
      refine lv_tope (y := 2) (by decide) ?_
      refine sc_ld hx hb hX hbl hbA hS 2 rfl (by decide) (by decide) dL_law_516 ?_
      refine kI (wc := [(q1, .inr (10, [.ref q2, .int 0, .ref q3, .ref q52, .ref q73, .ref q13, .ref q67, .ref q76, .ref q11, .ref q86, .ref q84, .ref q12, .ref q85, .int 0])), (q73, .inr (9, [.int 0, .int 0, .int 0, .int 0, .int 0, .ref q157, .ref q40, .ref q41, .ref q42, .ref q43, .ref q158, .ref q44, .ref q75, .ref q45, .ref q74, .ref q46, .ref q49]))]) (wr := [(q188, .inr (11, fs203)), (q200, .inl (gI g, 2, .inl f215))]) (rV (As := [.int (xs 1), .int (xs 2)]) (rest := []) (meth2 := "") hcx (c_X10_child H.size) (gdV q42_23 q43_0 q43_1 q1_2 q43_2) dvX10_child ⟨Nat.le_of_ble_eq_true rfl, Nat.le_of_ble_eq_true rfl⟩ (hP.sub [0, 1] rfl) (hD.sub [0, 1] (by decide) rfl) (va_recv hK hP (ci := 10) (q0 := 0) rfl rfl) rfl hl.1 rfl (Nat.le_of_ble_eq_true rfl) dL_law_517 ⟨Nat.le_of_ble_eq_true rfl, Nat.le_of_ble_eq_true rfl⟩) hP hD hS hA [0, 1] [2, 3] rfl rfl (by decide) (by decide) (fun r W' H locs hw hP hD hS => ?_)
      obtain ⟨rfl, rfl⟩ := hw
      have hP : va_P g.1 vwCl [(q188, .inr (11, fs203)), (q200, .inl (gI g, 2, .inl f215))] H := hP
      have hD : va_D A [(q188, .inr (11, fs203)), (q200, .inl (gI g, 2, .inl f215))] := hD
      refine lv_aload_n hx hb dL_law_520 rfl (lv_at hl 1 rfl) ?_
      refine lv_aload_n hx hb dL_law_521 rfl (lv_at hl 3 rfl) ?_
      refine lv_iload_n hx hb dL_law_522 rfl (lv_at hl 0 rfl) ?_
      refine lv_iconst (v := 1) hx hb dL_law_523 (by decide) ?_
      refine lv_iadd hx hb dL_law_524 ?_
      refine lv_tope (y := 1) (by decide) ?_
      refine sc_ld hx hb hX hbl hbA hS 1 rfl (by decide) (by decide) dL_law_525 ?_
      refine lv_aload_n hx hb dL_law_526 rfl (lv_at hl 3 rfl) ?_
      refine lv_iload_n hx hb dL_law_527 rfl (lv_at hl 0 rfl) ?_
      refine lv_iconst (v := 2) hx hb dL_law_528 (by decide) ?_
      refine lv_iadd hx hb dL_law_529 ?_
      refine lv_tope (y := 2) (by decide) ?_
      refine sc_ld hx hb hX hbl hbA hS 2 rfl (by decide) (by decide) dL_law_530 ?_
      refine kI (wc := [(q188, .inr (11, fs203)), (q200, .inl (gI g, 2, .inl f215))]) (wr := []) (rV (As := [.int (xs 1), .int (xs 2)]) (rest := [.int (-1)]) (meth2 := "") hcx (c_X11_child (hf218) (hf221) (hf236) (hf250) H.size) (gdV q43_3 q43_4 q43_5 q1_5 q43_6) dvX11_child ⟨Nat.le_of_ble_eq_true rfl, Nat.le_of_ble_eq_true rfl⟩ (hP.sub [0, 1] rfl) (hD.sub [0, 1] (by decide) rfl) (va_recv hK hP (ci := 11) (q0 := 0) rfl rfl) rfl hl.1 rfl (Nat.le_of_ble_eq_true rfl) dL_law_531 ⟨Nat.le_of_ble_eq_true rfl, Nat.le_of_ble_eq_true rfl⟩) hP hD hS hA [0, 1] [] rfl rfl (by decide) (by decide) (fun r W' H locs hw hP hD hS => ?_)
      obtain ⟨rfl, rfl⟩ := hw
      have hP : va_P g.1 vwCl [] H := hP
      have hD : va_D A [] := hD
      refine lv_icmp_eq (tgt := 1278) hx hb dL_law_534 (by decide) (fun _ => ?_) (fun c296 => absurd (by decide) c296)
      refine lv_iinc (v := 6) (lv' := [(3, .int 6), (2, .ref q188), (1, .ref q1), (0, .ref b)]) hx hb dL_law_1278 hl (k := 0) rfl (by decide) (by decide) rfl (fun ls hl => ?_)
      refine lv_goto (tgt := 18) hx hb dL_law_1281 (by decide) ?_
      refine lv_iload_n hx hb dL_law_18 rfl (lv_at hl 0 rfl) ?_
      refine lv_aload_n hx hb dL_law_19 rfl (lv_at hl 3 rfl) ?_
      refine va_slen hx hb hX hbl hbA hS dL_law_20 ?_
      refine lv_tope (y := 6) (by decide) ?_
      refine lv_bipush (v := 6) hx hb dL_law_21 (by decide) ?_
      refine lv_isub hx hb dL_law_23 ?_
      refine lv_tope (y := 0) (by decide) ?_
      refine lv_icmp_gt (tgt := 1284) hx hb dL_law_24 (by decide) (fun _ => ?_) (fun c297 => absurd (by decide) c297)
      refine lv_iconst (v := 1) hx hb dL_law_1284 (by decide) ?_
      refine va_forget (fun q hq => hAl _ (hS.2.2 q hq)) ?_
      refine W.widen (k := 600000) (n := 7302250) (Nat.le_of_ble_eq_true rfl) (Nat.le_of_ble_eq_true rfl) ?_
      exact lw_ret hx hb hr hlocks dL_law_1285
    by_cases c298 : x256 = 11
    · refine lv_tableIn (off := 506) (tgt := 539) hx hb dL_law_33 (by rw [c298]; decide) (by rw [c298]; decide) (by rw [c298]; decide) (by decide) ?_
      have hP : va_P g.1 vwCl [(q1, .inr (10, [.ref q2, .int 0, .ref q3, .ref q52, .ref q73, .ref q13, .ref q67, .ref q76, .ref q11, .ref q86, .ref q84, .ref q12, .ref q85, .int 0])), (q73, .inr (9, [.int 0, .int 0, .int 0, .int 0, .int 0, .ref q157, .ref q40, .ref q41, .ref q42, .ref q43, .ref q158, .ref q44, .ref q75, .ref q45, .ref q74, .ref q46, .ref q49])), (q188, .inr (11, fs203)), (q200, .inl (gI g, 2, .inl f215))] H := hP.sub [0, 72, 86, 98] rfl
      have hD : va_D A [(q1, .inr (10, [.ref q2, .int 0, .ref q3, .ref q52, .ref q73, .ref q13, .ref q67, .ref q76, .ref q11, .ref q86, .ref q84, .ref q12, .ref q85, .int 0])), (q73, .inr (9, [.int 0, .int 0, .int 0, .int 0, .int 0, .ref q157, .ref q40, .ref q41, .ref q42, .ref q43, .ref q158, .ref q44, .ref q75, .ref q45, .ref q74, .ref q46, .ref q49])), (q188, .inr (11, fs203)), (q200, .inl (gI g, 2, .inl f215))] := hD.sub [0, 72, 86, 98] (by decide) rfl
      refine lv_aload_n hx hb dL_law_539 rfl (lv_at hl 2 rfl) ?_
      refine lv_aload_n hx hb dL_law_540 rfl (lv_at hl 3 rfl) ?_
      refine lv_iload_n hx hb dL_law_541 rfl (lv_at hl 0 rfl) ?_
      refine lv_iconst (v := 1) hx hb dL_law_542 (by decide) ?_
      refine lv_iadd hx hb dL_law_543 ?_
      refine lv_tope (y := 1) (by decide) ?_
      refine sc_ld hx hb hX hbl hbA hS 1 rfl (by decide) (by decide) dL_law_544 ?_
      refine lv_aload_n hx hb dL_law_545 rfl (lv_at hl 3 rfl) ?_
      refine lv_iload_n hx hb dL_law_546 rfl (lv_at hl 0 rfl) ?_
      refine lv_iconst (v := 2) hx hb dL_law_547 (by decide) ?_
      refine lv_iadd hx hb dL_law_548 ?_
      refine lv_tope (y := 2) (by decide) ?_
      refine sc_ld hx hb hX hbl hbA hS 2 rfl (by decide) (by decide) dL_law_549 ?_
      refine kI (wc := [(q1, .inr (10, [.ref q2, .int 0, .ref q3, .ref q52, .ref q73, .ref q13, .ref q67, .ref q76, .ref q11, .ref q86, .ref q84, .ref q12, .ref q85, .int 0])), (q73, .inr (9, [.int 0, .int 0, .int 0, .int 0, .int 0, .ref q157, .ref q40, .ref q41, .ref q42, .ref q43, .ref q158, .ref q44, .ref q75, .ref q45, .ref q74, .ref q46, .ref q49]))]) (wr := [(q188, .inr (11, fs203)), (q200, .inl (gI g, 2, .inl f215))]) (rV (As := [.int (xs 1), .int (xs 2)]) (rest := []) (meth2 := "") hcx (c_X10_swap H.size) (gdV q43_7 q43_8 q43_9 q1_2 q43_10) dvX10_swap ⟨Nat.le_of_ble_eq_true rfl, Nat.le_of_ble_eq_true rfl⟩ (hP.sub [0, 1] rfl) (hD.sub [0, 1] (by decide) rfl) (va_recv hK hP (ci := 10) (q0 := 0) rfl rfl) rfl hl.1 rfl (Nat.le_of_ble_eq_true rfl) dL_law_550 ⟨Nat.le_of_ble_eq_true rfl, Nat.le_of_ble_eq_true rfl⟩) hP hD hS hA [0, 1] [2, 3] rfl rfl (by decide) (by decide) (fun r W' H locs hw hP hD hS => ?_)
      obtain ⟨rfl, rfl⟩ := hw
      have hP : va_P g.1 vwCl [(q188, .inr (11, fs203)), (q200, .inl (gI g, 2, .inl f215))] H := hP
      have hD : va_D A [(q188, .inr (11, fs203)), (q200, .inl (gI g, 2, .inl f215))] := hD
      refine lv_aload_n hx hb dL_law_553 rfl (lv_at hl 1 rfl) ?_
      refine lv_aload_n hx hb dL_law_554 rfl (lv_at hl 3 rfl) ?_
      refine lv_iload_n hx hb dL_law_555 rfl (lv_at hl 0 rfl) ?_
      refine lv_iconst (v := 1) hx hb dL_law_556 (by decide) ?_
      refine lv_iadd hx hb dL_law_557 ?_
      refine lv_tope (y := 1) (by decide) ?_
      refine sc_ld hx hb hX hbl hbA hS 1 rfl (by decide) (by decide) dL_law_558 ?_
      refine lv_aload_n hx hb dL_law_559 rfl (lv_at hl 3 rfl) ?_
      refine lv_iload_n hx hb dL_law_560 rfl (lv_at hl 0 rfl) ?_
      refine lv_iconst (v := 2) hx hb dL_law_561 (by decide) ?_
      refine lv_iadd hx hb dL_law_562 ?_
      refine lv_tope (y := 2) (by decide) ?_
      refine sc_ld hx hb hX hbl hbA hS 2 rfl (by decide) (by decide) dL_law_563 ?_
      refine kI (wc := [(q188, .inr (11, fs203)), (q200, .inl (gI g, 2, .inl f215))]) (wr := []) (rV (As := [.int (xs 1), .int (xs 2)]) (rest := [.int 0]) (meth2 := "") hcx (c_X11_swap (hf218) (hf221) (hf236) (hf250) H.size) (gdV q43_11 q43_12 q43_13 q1_5 q43_14) dvX11_swap ⟨Nat.le_of_ble_eq_true rfl, Nat.le_of_ble_eq_true rfl⟩ (hP.sub [0, 1] rfl) (hD.sub [0, 1] (by decide) rfl) (va_recv hK hP (ci := 11) (q0 := 0) rfl rfl) rfl hl.1 rfl (Nat.le_of_ble_eq_true rfl) dL_law_564 ⟨Nat.le_of_ble_eq_true rfl, Nat.le_of_ble_eq_true rfl⟩) hP hD hS hA [0, 1] [] rfl rfl (by decide) (by decide) (fun r W' H locs hw hP hD hS => ?_)
      obtain ⟨rfl, rfl⟩ := hw
      have hP : va_P g.1 vwCl [] H := hP
      have hD : va_D A [] := hD
      refine lv_icmp_eq (tgt := 1278) hx hb dL_law_567 (by decide) (fun _ => ?_) (fun c299 => absurd (by decide) c299)
      refine lv_iinc (v := 6) (lv' := [(3, .int 6), (2, .ref q188), (1, .ref q1), (0, .ref b)]) hx hb dL_law_1278 hl (k := 0) rfl (by decide) (by decide) rfl (fun ls hl => ?_)
      refine lv_goto (tgt := 18) hx hb dL_law_1281 (by decide) ?_
      refine lv_iload_n hx hb dL_law_18 rfl (lv_at hl 0 rfl) ?_
      refine lv_aload_n hx hb dL_law_19 rfl (lv_at hl 3 rfl) ?_
      refine va_slen hx hb hX hbl hbA hS dL_law_20 ?_
      refine lv_tope (y := 6) (by decide) ?_
      refine lv_bipush (v := 6) hx hb dL_law_21 (by decide) ?_
      refine lv_isub hx hb dL_law_23 ?_
      refine lv_tope (y := 0) (by decide) ?_
      refine lv_icmp_gt (tgt := 1284) hx hb dL_law_24 (by decide) (fun _ => ?_) (fun c300 => absurd (by decide) c300)
      refine lv_iconst (v := 1) hx hb dL_law_1284 (by decide) ?_
      refine va_forget (fun q hq => hAl _ (hS.2.2 q hq)) ?_
      refine W.widen (k := 600000) (n := 7302250) (Nat.le_of_ble_eq_true rfl) (Nat.le_of_ble_eq_true rfl) ?_
      exact lw_ret hx hb hr hlocks dL_law_1285
    by_cases c301 : x256 = 12
    · refine lv_tableIn (off := 539) (tgt := 572) hx hb dL_law_33 (by rw [c301]; decide) (by rw [c301]; decide) (by rw [c301]; decide) (by decide) ?_
      have hP : va_P g.1 vwCl [(q1, .inr (10, [.ref q2, .int 0, .ref q3, .ref q52, .ref q73, .ref q13, .ref q67, .ref q76, .ref q11, .ref q86, .ref q84, .ref q12, .ref q85, .int 0])), (q73, .inr (9, [.int 0, .int 0, .int 0, .int 0, .int 0, .ref q157, .ref q40, .ref q41, .ref q42, .ref q43, .ref q158, .ref q44, .ref q75, .ref q45, .ref q74, .ref q46, .ref q49])), (q188, .inr (11, fs203)), (q200, .inl (gI g, 2, .inl f215))] H := hP.sub [0, 72, 86, 98] rfl
      have hD : va_D A [(q1, .inr (10, [.ref q2, .int 0, .ref q3, .ref q52, .ref q73, .ref q13, .ref q67, .ref q76, .ref q11, .ref q86, .ref q84, .ref q12, .ref q85, .int 0])), (q73, .inr (9, [.int 0, .int 0, .int 0, .int 0, .int 0, .ref q157, .ref q40, .ref q41, .ref q42, .ref q43, .ref q158, .ref q44, .ref q75, .ref q45, .ref q74, .ref q46, .ref q49])), (q188, .inr (11, fs203)), (q200, .inl (gI g, 2, .inl f215))] := hD.sub [0, 72, 86, 98] (by decide) rfl
      refine lv_aload_n hx hb dL_law_572 rfl (lv_at hl 2 rfl) ?_
      refine lv_aload_n hx hb dL_law_573 rfl (lv_at hl 3 rfl) ?_
      refine lv_iload_n hx hb dL_law_574 rfl (lv_at hl 0 rfl) ?_
      refine lv_iconst (v := 1) hx hb dL_law_575 (by decide) ?_
      refine lv_iadd hx hb dL_law_576 ?_
      refine lv_tope (y := 1) (by decide) ?_
      refine sc_ld hx hb hX hbl hbA hS 1 rfl (by decide) (by decide) dL_law_577 ?_
      refine lv_aload_n hx hb dL_law_578 rfl (lv_at hl 3 rfl) ?_
      refine lv_iload_n hx hb dL_law_579 rfl (lv_at hl 0 rfl) ?_
      refine lv_iconst (v := 2) hx hb dL_law_580 (by decide) ?_
      refine lv_iadd hx hb dL_law_581 ?_
      refine lv_tope (y := 2) (by decide) ?_
      refine sc_ld hx hb hX hbl hbA hS 2 rfl (by decide) (by decide) dL_law_582 ?_
      refine kI (wc := [(q1, .inr (10, [.ref q2, .int 0, .ref q3, .ref q52, .ref q73, .ref q13, .ref q67, .ref q76, .ref q11, .ref q86, .ref q84, .ref q12, .ref q85, .int 0])), (q73, .inr (9, [.int 0, .int 0, .int 0, .int 0, .int 0, .ref q157, .ref q40, .ref q41, .ref q42, .ref q43, .ref q158, .ref q44, .ref q75, .ref q45, .ref q74, .ref q46, .ref q49]))]) (wr := [(q188, .inr (11, fs203)), (q200, .inl (gI g, 2, .inl f215))]) (rV (As := [.int (xs 1), .int (xs 2)]) (rest := []) (meth2 := "") hcx (c_X10_under H.size) (gdV q43_15 q43_16 q43_17 q1_2 q43_18) dvX10_under ⟨Nat.le_of_ble_eq_true rfl, Nat.le_of_ble_eq_true rfl⟩ (hP.sub [0, 1] rfl) (hD.sub [0, 1] (by decide) rfl) (va_recv hK hP (ci := 10) (q0 := 0) rfl rfl) rfl hl.1 rfl (Nat.le_of_ble_eq_true rfl) dL_law_583 ⟨Nat.le_of_ble_eq_true rfl, Nat.le_of_ble_eq_true rfl⟩) hP hD hS hA [0, 1] [2, 3] rfl rfl (by decide) (by decide) (fun r W' H locs hw hP hD hS => ?_)
      obtain ⟨rfl, rfl⟩ := hw
      have hP : va_P g.1 vwCl [(q188, .inr (11, fs203)), (q200, .inl (gI g, 2, .inl f215))] H := hP
      have hD : va_D A [(q188, .inr (11, fs203)), (q200, .inl (gI g, 2, .inl f215))] := hD
      refine lv_aload_n hx hb dL_law_586 rfl (lv_at hl 1 rfl) ?_
      refine lv_aload_n hx hb dL_law_587 rfl (lv_at hl 3 rfl) ?_
      refine lv_iload_n hx hb dL_law_588 rfl (lv_at hl 0 rfl) ?_
      refine lv_iconst (v := 1) hx hb dL_law_589 (by decide) ?_
      refine lv_iadd hx hb dL_law_590 ?_
      refine lv_tope (y := 1) (by decide) ?_
      refine sc_ld hx hb hX hbl hbA hS 1 rfl (by decide) (by decide) dL_law_591 ?_
      refine lv_aload_n hx hb dL_law_592 rfl (lv_at hl 3 rfl) ?_
      refine lv_iload_n hx hb dL_law_593 rfl (lv_at hl 0 rfl) ?_
      refine lv_iconst (v := 2) hx hb dL_law_594 (by decide) ?_
      refine lv_iadd hx hb dL_law_595 ?_
      refine lv_tope (y := 2) (by decide) ?_
      refine sc_ld hx hb hX hbl hbA hS 2 rfl (by decide) (by decide) dL_law_596 ?_
      refine kI (wc := [(q188, .inr (11, fs203)), (q200, .inl (gI g, 2, .inl f215))]) (wr := []) (rV (As := [.int (xs 1), .int (xs 2)]) (rest := [.int (-1)]) (meth2 := "") hcx (c_X11_under (hf218) (hf221) (hf236) (hf250) H.size) (gdV q44_4 q44_5 q44_6 q1_5 q44_7) dvX11_under ⟨Nat.le_of_ble_eq_true rfl, Nat.le_of_ble_eq_true rfl⟩ (hP.sub [0, 1] rfl) (hD.sub [0, 1] (by decide) rfl) (va_recv hK hP (ci := 11) (q0 := 0) rfl rfl) rfl hl.1 rfl (Nat.le_of_ble_eq_true rfl) dL_law_597 ⟨Nat.le_of_ble_eq_true rfl, Nat.le_of_ble_eq_true rfl⟩) hP hD hS hA [0, 1] [] rfl rfl (by decide) (by decide) (fun r W' H locs hw hP hD hS => ?_)
      obtain ⟨rfl, rfl⟩ := hw
      have hP : va_P g.1 vwCl [] H := hP
      have hD : va_D A [] := hD
      refine lv_icmp_eq (tgt := 1278) hx hb dL_law_600 (by decide) (fun _ => ?_) (fun c302 => absurd (by decide) c302)
      refine lv_iinc (v := 6) (lv' := [(3, .int 6), (2, .ref q188), (1, .ref q1), (0, .ref b)]) hx hb dL_law_1278 hl (k := 0) rfl (by decide) (by decide) rfl (fun ls hl => ?_)
      refine lv_goto (tgt := 18) hx hb dL_law_1281 (by decide) ?_
      refine lv_iload_n hx hb dL_law_18 rfl (lv_at hl 0 rfl) ?_
      refine lv_aload_n hx hb dL_law_19 rfl (lv_at hl 3 rfl) ?_
      refine va_slen hx hb hX hbl hbA hS dL_law_20 ?_
      refine lv_tope (y := 6) (by decide) ?_
      refine lv_bipush (v := 6) hx hb dL_law_21 (by decide) ?_
      refine lv_isub hx hb dL_law_23 ?_
      refine lv_tope (y := 0) (by decide) ?_
      refine lv_icmp_gt (tgt := 1284) hx hb dL_law_24 (by decide) (fun _ => ?_) (fun c303 => absurd (by decide) c303)
      refine lv_iconst (v := 1) hx hb dL_law_1284 (by decide) ?_
      refine va_forget (fun q hq => hAl _ (hS.2.2 q hq)) ?_
      refine W.widen (k := 600000) (n := 7302250) (Nat.le_of_ble_eq_true rfl) (Nat.le_of_ble_eq_true rfl) ?_
      exact lw_ret hx hb hr hlocks dL_law_1285
    by_cases c304 : x256 = 13
    · refine lv_tableIn (off := 572) (tgt := 605) hx hb dL_law_33 (by rw [c304]; decide) (by rw [c304]; decide) (by rw [c304]; decide) (by decide) ?_
      have hP : va_P g.1 vwCl [(q1, .inr (10, [.ref q2, .int 0, .ref q3, .ref q52, .ref q73, .ref q13, .ref q67, .ref q76, .ref q11, .ref q86, .ref q84, .ref q12, .ref q85, .int 0])), (q73, .inr (9, [.int 0, .int 0, .int 0, .int 0, .int 0, .ref q157, .ref q40, .ref q41, .ref q42, .ref q43, .ref q158, .ref q44, .ref q75, .ref q45, .ref q74, .ref q46, .ref q49])), (q188, .inr (11, fs203)), (q200, .inl (gI g, 2, .inl f215))] H := hP.sub [0, 72, 86, 98] rfl
      have hD : va_D A [(q1, .inr (10, [.ref q2, .int 0, .ref q3, .ref q52, .ref q73, .ref q13, .ref q67, .ref q76, .ref q11, .ref q86, .ref q84, .ref q12, .ref q85, .int 0])), (q73, .inr (9, [.int 0, .int 0, .int 0, .int 0, .int 0, .ref q157, .ref q40, .ref q41, .ref q42, .ref q43, .ref q158, .ref q44, .ref q75, .ref q45, .ref q74, .ref q46, .ref q49])), (q188, .inr (11, fs203)), (q200, .inl (gI g, 2, .inl f215))] := hD.sub [0, 72, 86, 98] (by decide) rfl
      refine lv_aload_n hx hb dL_law_605 rfl (lv_at hl 2 rfl) ?_
      refine lv_aload_n hx hb dL_law_606 rfl (lv_at hl 3 rfl) ?_
      refine lv_iload_n hx hb dL_law_607 rfl (lv_at hl 0 rfl) ?_
      refine lv_iconst (v := 1) hx hb dL_law_608 (by decide) ?_
      refine lv_iadd hx hb dL_law_609 ?_
      refine lv_tope (y := 1) (by decide) ?_
      refine sc_ld hx hb hX hbl hbA hS 1 rfl (by decide) (by decide) dL_law_610 ?_
      refine kI (wc := [(q1, .inr (10, [.ref q2, .int 0, .ref q3, .ref q52, .ref q73, .ref q13, .ref q67, .ref q76, .ref q11, .ref q86, .ref q84, .ref q12, .ref q85, .int 0])), (q73, .inr (9, [.int 0, .int 0, .int 0, .int 0, .int 0, .ref q157, .ref q40, .ref q41, .ref q42, .ref q43, .ref q158, .ref q44, .ref q75, .ref q45, .ref q74, .ref q46, .ref q49]))]) (wr := [(q188, .inr (11, fs203)), (q200, .inl (gI g, 2, .inl f215))]) (rV (As := [.int (xs 1)]) (rest := []) (meth2 := "") hcx (c_X10_part H.size) (gdV q44_12 q44_13 q44_14 q1_2 q44_15) dvX10_part ⟨Nat.le_of_ble_eq_true rfl, Nat.le_of_ble_eq_true rfl⟩ (hP.sub [0, 1] rfl) (hD.sub [0, 1] (by decide) rfl) (va_recv hK hP (ci := 10) (q0 := 0) rfl rfl) rfl hl.1 rfl (Nat.le_of_ble_eq_true rfl) dL_law_611 ⟨Nat.le_of_ble_eq_true rfl, Nat.le_of_ble_eq_true rfl⟩) hP hD hS hA [0, 1] [2, 3] rfl rfl (by decide) (by decide) (fun r W' H locs hw hP hD hS => ?_)
      obtain ⟨rfl, rfl⟩ := hw
      have hP : va_P g.1 vwCl [(q188, .inr (11, fs203)), (q200, .inl (gI g, 2, .inl f215))] H := hP
      have hD : va_D A [(q188, .inr (11, fs203)), (q200, .inl (gI g, 2, .inl f215))] := hD
      refine lv_aload_n hx hb dL_law_614 rfl (lv_at hl 1 rfl) ?_
      refine lv_aload_n hx hb dL_law_615 rfl (lv_at hl 3 rfl) ?_
      refine lv_iload_n hx hb dL_law_616 rfl (lv_at hl 0 rfl) ?_
      refine lv_iconst (v := 1) hx hb dL_law_617 (by decide) ?_
      refine lv_iadd hx hb dL_law_618 ?_
      refine lv_tope (y := 1) (by decide) ?_
      refine sc_ld hx hb hX hbl hbA hS 1 rfl (by decide) (by decide) dL_law_619 ?_
      refine kI (wc := [(q188, .inr (11, fs203)), (q200, .inl (gI g, 2, .inl f215))]) (wr := []) (rV (As := [.int (xs 1)]) (rest := [.int (-1)]) (meth2 := "") hcx (c_X11_part (hf218) (hf221) (hf236) (hf250) H.size) (gdV q44_20 q44_21 q44_22 q1_5 q44_23) dvX11_part ⟨Nat.le_of_ble_eq_true rfl, Nat.le_of_ble_eq_true rfl⟩ (hP.sub [0, 1] rfl) (hD.sub [0, 1] (by decide) rfl) (va_recv hK hP (ci := 11) (q0 := 0) rfl rfl) rfl hl.1 rfl (Nat.le_of_ble_eq_true rfl) dL_law_620 ⟨Nat.le_of_ble_eq_true rfl, Nat.le_of_ble_eq_true rfl⟩) hP hD hS hA [0, 1] [] rfl rfl (by decide) (by decide) (fun r W' H locs hw hP hD hS => ?_)
      obtain ⟨rfl, rfl⟩ := hw
      have hP : va_P g.1 vwCl [] H := hP
      have hD : va_D A [] := hD
      refine lv_icmp_eq (tgt := 1278) hx hb dL_law_623 (by decide) (fun _ => ?_) (fun c305 => absurd (by decide) c305)
      refine lv_iinc (v := 6) (lv' := [(3, .int 6), (2, .ref q188), (1, .ref q1), (0, .ref b)]) hx hb dL_law_1278 hl (k := 0) rfl (by decide) (by decide) rfl (fun ls hl => ?_)
      refine lv_goto (tgt := 18) hx hb dL_law_1281 (by decide) ?_
      refine lv_iload_n hx hb dL_law_18 rfl (lv_at hl 0 rfl) ?_
      refine lv_aload_n hx hb dL_law_19 rfl (lv_at hl 3 rfl) ?_
      refine va_slen hx hb hX hbl hbA hS dL_law_20 ?_
      refine lv_tope (y := 6) (by decide) ?_
      refine lv_bipush (v := 6) hx hb dL_law_21 (by decide) ?_
      refine lv_isub hx hb dL_law_23 ?_
      refine lv_tope (y := 0) (by decide) ?_
      refine lv_icmp_gt (tgt := 1284) hx hb dL_law_24 (by decide) (fun _ => ?_) (fun c306 => absurd (by decide) c306)
      refine lv_iconst (v := 1) hx hb dL_law_1284 (by decide) ?_
      refine va_forget (fun q hq => hAl _ (hS.2.2 q hq)) ?_
      refine W.widen (k := 600000) (n := 7302250) (Nat.le_of_ble_eq_true rfl) (Nat.le_of_ble_eq_true rfl) ?_
      exact lw_ret hx hb hr hlocks dL_law_1285
    by_cases c307 : x256 = 14
    · refine lv_tableIn (off := 595) (tgt := 628) hx hb dL_law_33 (by rw [c307]; decide) (by rw [c307]; decide) (by rw [c307]; decide) (by decide) ?_
      have hP : va_P g.1 vwCl [(q1, .inr (10, [.ref q2, .int 0, .ref q3, .ref q52, .ref q73, .ref q13, .ref q67, .ref q76, .ref q11, .ref q86, .ref q84, .ref q12, .ref q85, .int 0])), (q5, .inr (7, [.ref q6, .ref q7, .ref q8, .ref q9, .ref q10, .int 0, .int 0, .int 0, .int 0, .int 0])), (q6, .inl (gI g, 5, .inl f90)), (q7, .inl (gI g, 5, .inl f91)), (q8, .inl (gI g, 5, .inl f92)), (q9, .inl (gI g, 5, .inl f93)), (q10, .inl (gI g, 5, .inl f94)), (q67, .inr (7, [.ref q68, .ref q69, .ref q70, .ref q71, .ref q72, .int 0, .int 0, .int 0, .int 0, .int x151])), (q68, .inl (gI g, 5, .inl f152)), (q69, .inl (gI g, 5, .inl f153)), (q70, .inl (gI g, 5, .inl f154)), (q71, .inl (gI g, 5, .inl f155)), (q72, .inl (gI g, 5, .inl f156)), (q73, .inr (9, [.int 0, .int 0, .int 0, .int 0, .int 0, .ref q157, .ref q40, .ref q41, .ref q42, .ref q43, .ref q158, .ref q44, .ref q75, .ref q45, .ref q74, .ref q46, .ref q49])), (q76, .inr (2, [.ref q77, .int 0, .int 0, .int 0])), (q77, .inl (gO g, 41, .inr (.inr (.inr (.inr f161))))), (q188, .inr (11, fs203)), (q190, .inl (gI g, 984, .inl f205)), (q199, .inl (gI g, 24, .inl f214)), (q200, .inl (gI g, 2, .inl f215))] H := hP.sub [0, 4, 5, 6, 7, 8, 9, 66, 67, 68, 69, 70, 71, 72, 75, 76, 86, 88, 97, 98] rfl
      have hD : va_D A [(q1, .inr (10, [.ref q2, .int 0, .ref q3, .ref q52, .ref q73, .ref q13, .ref q67, .ref q76, .ref q11, .ref q86, .ref q84, .ref q12, .ref q85, .int 0])), (q5, .inr (7, [.ref q6, .ref q7, .ref q8, .ref q9, .ref q10, .int 0, .int 0, .int 0, .int 0, .int 0])), (q6, .inl (gI g, 5, .inl f90)), (q7, .inl (gI g, 5, .inl f91)), (q8, .inl (gI g, 5, .inl f92)), (q9, .inl (gI g, 5, .inl f93)), (q10, .inl (gI g, 5, .inl f94)), (q67, .inr (7, [.ref q68, .ref q69, .ref q70, .ref q71, .ref q72, .int 0, .int 0, .int 0, .int 0, .int x151])), (q68, .inl (gI g, 5, .inl f152)), (q69, .inl (gI g, 5, .inl f153)), (q70, .inl (gI g, 5, .inl f154)), (q71, .inl (gI g, 5, .inl f155)), (q72, .inl (gI g, 5, .inl f156)), (q73, .inr (9, [.int 0, .int 0, .int 0, .int 0, .int 0, .ref q157, .ref q40, .ref q41, .ref q42, .ref q43, .ref q158, .ref q44, .ref q75, .ref q45, .ref q74, .ref q46, .ref q49])), (q76, .inr (2, [.ref q77, .int 0, .int 0, .int 0])), (q77, .inl (gO g, 41, .inr (.inr (.inr (.inr f161))))), (q188, .inr (11, fs203)), (q190, .inl (gI g, 984, .inl f205)), (q199, .inl (gI g, 24, .inl f214)), (q200, .inl (gI g, 2, .inl f215))] := hD.sub [0, 4, 5, 6, 7, 8, 9, 66, 67, 68, 69, 70, 71, 72, 75, 76, 86, 88, 97, 98] (by decide) rfl
      refine lv_aload_n hx hb dL_law_628 rfl (lv_at hl 2 rfl) ?_
      refine kI (wc := [(q1, .inr (10, [.ref q2, .int 0, .ref q3, .ref q52, .ref q73, .ref q13, .ref q67, .ref q76, .ref q11, .ref q86, .ref q84, .ref q12, .ref q85, .int 0])), (q67, .inr (7, [.ref q68, .ref q69, .ref q70, .ref q71, .ref q72, .int 0, .int 0, .int 0, .int 0, .int x151])), (q68, .inl (gI g, 5, .inl f152)), (q69, .inl (gI g, 5, .inl f153)), (q70, .inl (gI g, 5, .inl f154)), (q71, .inl (gI g, 5, .inl f155)), (q72, .inl (gI g, 5, .inl f156)), (q73, .inr (9, [.int 0, .int 0, .int 0, .int 0, .int 0, .ref q157, .ref q40, .ref q41, .ref q42, .ref q43, .ref q158, .ref q44, .ref q75, .ref q45, .ref q74, .ref q46, .ref q49])), (q76, .inr (2, [.ref q77, .int 0, .int 0, .int 0])), (q77, .inl (gO g, 41, .inr (.inr (.inr (.inr f161))))), (q5, .inr (7, [.ref q6, .ref q7, .ref q8, .ref q9, .ref q10, .int 0, .int 0, .int 0, .int 0, .int 0])), (q6, .inl (gI g, 5, .inl f90)), (q7, .inl (gI g, 5, .inl f91)), (q8, .inl (gI g, 5, .inl f92)), (q9, .inl (gI g, 5, .inl f93)), (q10, .inl (gI g, 5, .inl f94))]) (wr := [(q188, .inr (11, fs203)), (q190, .inl (gI g, 984, .inl f205)), (q199, .inl (gI g, 24, .inl f214)), (q200, .inl (gI g, 2, .inl f215))]) (rV (As := []) (rest := []) (meth2 := "") hcx (c_X10_day (hf184) H.size) (gdV q45_0 q45_1 q45_2 q1_2 q45_3) dvX10_day ⟨Nat.le_of_ble_eq_true rfl, Nat.le_of_ble_eq_true rfl⟩ (hP.sub [0, 7, 8, 9, 10, 11, 12, 13, 14, 15, 1, 2, 3, 4, 5, 6] rfl) (hD.sub [0, 7, 8, 9, 10, 11, 12, 13, 14, 15, 1, 2, 3, 4, 5, 6] (by decide) rfl) (va_recv hK hP (ci := 10) (q0 := 0) rfl rfl) rfl hl.1 rfl (Nat.le_of_ble_eq_true rfl) dL_law_629 ⟨Nat.le_of_ble_eq_true rfl, Nat.le_of_ble_eq_true rfl⟩) hP hD hS hA [0, 7, 8, 9, 10, 11, 12, 13, 14, 15, 1, 2, 3, 4, 5, 6] [16, 17, 18, 19] rfl rfl (by decide) (by decide) (fun r W' H locs hw hP hD hS => ?_)
      obtain ⟨rfl, rfl⟩ := hw
      have hP : va_P g.1 vwCl [(q188, .inr (11, fs203)), (q190, .inl (gI g, 984, .inl f205)), (q199, .inl (gI g, 24, .inl f214)), (q200, .inl (gI g, 2, .inl f215))] H := hP
      have hD : va_D A [(q188, .inr (11, fs203)), (q190, .inl (gI g, 984, .inl f205)), (q199, .inl (gI g, 24, .inl f214)), (q200, .inl (gI g, 2, .inl f215))] := hD
      refine lv_aload_n hx hb dL_law_632 rfl (lv_at hl 1 rfl) ?_
      refine kI (wc := [(q188, .inr (11, fs203)), (q199, .inl (gI g, 24, .inl f214)), (q190, .inl (gI g, 984, .inl f205)), (q200, .inl (gI g, 2, .inl f215))]) (wr := []) (rV (As := []) (rest := [.int 0]) (meth2 := "") hcx (c_X11_day (hf218) (hf226) (hf227) (hf237) (hf221) (hf236) (hf246) (hf247) (hf248) (hf250) H.size) (gdV q45_8 q45_9 q45_10 q1_5 q45_11) dvX11_day ⟨Nat.le_of_ble_eq_true rfl, Nat.le_of_ble_eq_true rfl⟩ (hP.sub [0, 2, 1, 3] rfl) (hD.sub [0, 2, 1, 3] (by decide) rfl) (va_recv hK hP (ci := 11) (q0 := 0) rfl rfl) rfl hl.1 rfl (Nat.le_of_ble_eq_true rfl) dL_law_633 ⟨Nat.le_of_ble_eq_true rfl, Nat.le_of_ble_eq_true rfl⟩) hP hD hS hA [0, 2, 1, 3] [] rfl rfl (by decide) (by decide) (fun r W' H locs hw hP hD hS => ?_)
      obtain ⟨rfl, rfl⟩ := hw
      have hP : va_P g.1 vwCl [] H := hP
      have hD : va_D A [] := hD
      refine lv_icmp_eq (tgt := 1278) hx hb dL_law_636 (by decide) (fun _ => ?_) (fun c308 => absurd (by decide) c308)
      refine lv_iinc (v := 6) (lv' := [(3, .int 6), (2, .ref q188), (1, .ref q1), (0, .ref b)]) hx hb dL_law_1278 hl (k := 0) rfl (by decide) (by decide) rfl (fun ls hl => ?_)
      refine lv_goto (tgt := 18) hx hb dL_law_1281 (by decide) ?_
      refine lv_iload_n hx hb dL_law_18 rfl (lv_at hl 0 rfl) ?_
      refine lv_aload_n hx hb dL_law_19 rfl (lv_at hl 3 rfl) ?_
      refine va_slen hx hb hX hbl hbA hS dL_law_20 ?_
      refine lv_tope (y := 6) (by decide) ?_
      refine lv_bipush (v := 6) hx hb dL_law_21 (by decide) ?_
      refine lv_isub hx hb dL_law_23 ?_
      refine lv_tope (y := 0) (by decide) ?_
      refine lv_icmp_gt (tgt := 1284) hx hb dL_law_24 (by decide) (fun _ => ?_) (fun c309 => absurd (by decide) c309)
      refine lv_iconst (v := 1) hx hb dL_law_1284 (by decide) ?_
      refine va_forget (fun q hq => hAl _ (hS.2.2 q hq)) ?_
      refine W.widen (k := 600000) (n := 7302250) (Nat.le_of_ble_eq_true rfl) (Nat.le_of_ble_eq_true rfl) ?_
      exact lw_ret hx hb hr hlocks dL_law_1285
    by_cases c310 : x256 = 15
    · refine lv_tableIn (off := 608) (tgt := 641) hx hb dL_law_33 (by rw [c310]; decide) (by rw [c310]; decide) (by rw [c310]; decide) (by decide) ?_
      have hP : va_P g.1 vwCl [(q1, .inr (10, [.ref q2, .int 0, .ref q3, .ref q52, .ref q73, .ref q13, .ref q67, .ref q76, .ref q11, .ref q86, .ref q84, .ref q12, .ref q85, .int 0])), (q76, .inr (2, [.ref q77, .int 0, .int 0, .int 0])), (q188, .inr (11, fs203))] H := hP.sub [0, 75, 86] rfl
      have hD : va_D A [(q1, .inr (10, [.ref q2, .int 0, .ref q3, .ref q52, .ref q73, .ref q13, .ref q67, .ref q76, .ref q11, .ref q86, .ref q84, .ref q12, .ref q85, .int 0])), (q76, .inr (2, [.ref q77, .int 0, .int 0, .int 0])), (q188, .inr (11, fs203))] := hD.sub [0, 75, 86] (by decide) rfl
      refine lv_aload_n hx hb dL_law_641 rfl (lv_at hl 2 rfl) ?_
      refine kI (wc := [(q1, .inr (10, [.ref q2, .int 0, .ref q3, .ref q52, .ref q73, .ref q13, .ref q67, .ref q76, .ref q11, .ref q86, .ref q84, .ref q12, .ref q85, .int 0])), (q76, .inr (2, [.ref q77, .int 0, .int 0, .int 0]))]) (wr := [(q188, .inr (11, fs203))]) (rV (As := []) (rest := []) (meth2 := "") hcx (c_X10_undo H.size) (gdV q45_12 q45_13 q45_14 q1_2 q45_15) dvX10_undo ⟨Nat.le_of_ble_eq_true rfl, Nat.le_of_ble_eq_true rfl⟩ (hP.sub [0, 1] rfl) (hD.sub [0, 1] (by decide) rfl) (va_recv hK hP (ci := 10) (q0 := 0) rfl rfl) rfl hl.1 rfl (Nat.le_of_ble_eq_true rfl) dL_law_642 ⟨Nat.le_of_ble_eq_true rfl, Nat.le_of_ble_eq_true rfl⟩) hP hD hS hA [0, 1] [2] rfl rfl (by decide) (by decide) (fun r W' H locs hw hP hD hS => ?_)
      obtain ⟨rfl, rfl⟩ := hw
      have hP : va_P g.1 vwCl [(q188, .inr (11, fs203))] H := hP
      have hD : va_D A [(q188, .inr (11, fs203))] := hD
      refine lv_aload_n hx hb dL_law_645 rfl (lv_at hl 1 rfl) ?_
      refine kI (wc := [(q188, .inr (11, fs203))]) (wr := []) (rV (As := []) (rest := [.int 0]) (meth2 := "") hcx (c_X11_undo (hf218) (hf237) H.size) (gdV q45_20 q45_21 q45_22 q1_5 q45_23) dvX11_undo ⟨Nat.le_of_ble_eq_true rfl, Nat.le_of_ble_eq_true rfl⟩ (hP.sub [0] rfl) (hD.sub [0] (by decide) rfl) (va_recv hK hP (ci := 11) (q0 := 0) rfl rfl) rfl hl.1 rfl (Nat.le_of_ble_eq_true rfl) dL_law_646 ⟨Nat.le_of_ble_eq_true rfl, Nat.le_of_ble_eq_true rfl⟩) hP hD hS hA [0] [] rfl rfl (by decide) (by decide) (fun r W' H locs hw hP hD hS => ?_)
      obtain ⟨rfl, rfl⟩ := hw
      have hP : va_P g.1 vwCl [] H := hP
      have hD : va_D A [] := hD
      refine lv_icmp_eq (tgt := 1278) hx hb dL_law_649 (by decide) (fun _ => ?_) (fun c311 => absurd (by decide) c311)
      refine lv_iinc (v := 6) (lv' := [(3, .int 6), (2, .ref q188), (1, .ref q1), (0, .ref b)]) hx hb dL_law_1278 hl (k := 0) rfl (by decide) (by decide) rfl (fun ls hl => ?_)
      refine lv_goto (tgt := 18) hx hb dL_law_1281 (by decide) ?_
      refine lv_iload_n hx hb dL_law_18 rfl (lv_at hl 0 rfl) ?_
      refine lv_aload_n hx hb dL_law_19 rfl (lv_at hl 3 rfl) ?_
      refine va_slen hx hb hX hbl hbA hS dL_law_20 ?_
      refine lv_tope (y := 6) (by decide) ?_
      refine lv_bipush (v := 6) hx hb dL_law_21 (by decide) ?_
      refine lv_isub hx hb dL_law_23 ?_
      refine lv_tope (y := 0) (by decide) ?_
      refine lv_icmp_gt (tgt := 1284) hx hb dL_law_24 (by decide) (fun _ => ?_) (fun c312 => absurd (by decide) c312)
      refine lv_iconst (v := 1) hx hb dL_law_1284 (by decide) ?_
      refine va_forget (fun q hq => hAl _ (hS.2.2 q hq)) ?_
      refine W.widen (k := 600000) (n := 7302250) (Nat.le_of_ble_eq_true rfl) (Nat.le_of_ble_eq_true rfl) ?_
      exact lw_ret hx hb hr hlocks dL_law_1285
    by_cases c313 : x256 = 16
    · refine lv_tableIn (off := 621) (tgt := 654) hx hb dL_law_33 (by rw [c313]; decide) (by rw [c313]; decide) (by rw [c313]; decide) (by decide) ?_
      have hP : va_P g.1 vwCl [(q1, .inr (10, [.ref q2, .int 0, .ref q3, .ref q52, .ref q73, .ref q13, .ref q67, .ref q76, .ref q11, .ref q86, .ref q84, .ref q12, .ref q85, .int 0])), (q76, .inr (2, [.ref q77, .int 0, .int 0, .int 0])), (q188, .inr (11, fs203))] H := hP.sub [0, 75, 86] rfl
      have hD : va_D A [(q1, .inr (10, [.ref q2, .int 0, .ref q3, .ref q52, .ref q73, .ref q13, .ref q67, .ref q76, .ref q11, .ref q86, .ref q84, .ref q12, .ref q85, .int 0])), (q76, .inr (2, [.ref q77, .int 0, .int 0, .int 0])), (q188, .inr (11, fs203))] := hD.sub [0, 75, 86] (by decide) rfl
      refine lv_aload_n hx hb dL_law_654 rfl (lv_at hl 2 rfl) ?_
      refine kI (wc := [(q1, .inr (10, [.ref q2, .int 0, .ref q3, .ref q52, .ref q73, .ref q13, .ref q67, .ref q76, .ref q11, .ref q86, .ref q84, .ref q12, .ref q85, .int 0])), (q76, .inr (2, [.ref q77, .int 0, .int 0, .int 0]))]) (wr := [(q188, .inr (11, fs203))]) (rV (As := []) (rest := []) (meth2 := "") hcx (c_X10_redo H.size) (gdV q46_4 q46_5 q46_6 q1_2 q46_7) dvX10_redo ⟨Nat.le_of_ble_eq_true rfl, Nat.le_of_ble_eq_true rfl⟩ (hP.sub [0, 1] rfl) (hD.sub [0, 1] (by decide) rfl) (va_recv hK hP (ci := 10) (q0 := 0) rfl rfl) rfl hl.1 rfl (Nat.le_of_ble_eq_true rfl) dL_law_655 ⟨Nat.le_of_ble_eq_true rfl, Nat.le_of_ble_eq_true rfl⟩) hP hD hS hA [0, 1] [2] rfl rfl (by decide) (by decide) (fun r W' H locs hw hP hD hS => ?_)
      obtain ⟨rfl, rfl⟩ := hw
      have hP : va_P g.1 vwCl [(q188, .inr (11, fs203))] H := hP
      have hD : va_D A [(q188, .inr (11, fs203))] := hD
      refine lv_aload_n hx hb dL_law_658 rfl (lv_at hl 1 rfl) ?_
      refine kI (wc := [(q188, .inr (11, fs203))]) (wr := []) (rV (As := []) (rest := [.int 0]) (meth2 := "") hcx (c_X11_redo (hf218) (hf238) H.size) (gdV q46_12 q46_13 q46_14 q1_5 q46_15) dvX11_redo ⟨Nat.le_of_ble_eq_true rfl, Nat.le_of_ble_eq_true rfl⟩ (hP.sub [0] rfl) (hD.sub [0] (by decide) rfl) (va_recv hK hP (ci := 11) (q0 := 0) rfl rfl) rfl hl.1 rfl (Nat.le_of_ble_eq_true rfl) dL_law_659 ⟨Nat.le_of_ble_eq_true rfl, Nat.le_of_ble_eq_true rfl⟩) hP hD hS hA [0] [] rfl rfl (by decide) (by decide) (fun r W' H locs hw hP hD hS => ?_)
      obtain ⟨rfl, rfl⟩ := hw
      have hP : va_P g.1 vwCl [] H := hP
      have hD : va_D A [] := hD
      refine lv_icmp_eq (tgt := 1278) hx hb dL_law_662 (by decide) (fun _ => ?_) (fun c314 => absurd (by decide) c314)
      refine lv_iinc (v := 6) (lv' := [(3, .int 6), (2, .ref q188), (1, .ref q1), (0, .ref b)]) hx hb dL_law_1278 hl (k := 0) rfl (by decide) (by decide) rfl (fun ls hl => ?_)
      refine lv_goto (tgt := 18) hx hb dL_law_1281 (by decide) ?_
      refine lv_iload_n hx hb dL_law_18 rfl (lv_at hl 0 rfl) ?_
      refine lv_aload_n hx hb dL_law_19 rfl (lv_at hl 3 rfl) ?_
      refine va_slen hx hb hX hbl hbA hS dL_law_20 ?_
      refine lv_tope (y := 6) (by decide) ?_
      refine lv_bipush (v := 6) hx hb dL_law_21 (by decide) ?_
      refine lv_isub hx hb dL_law_23 ?_
      refine lv_tope (y := 0) (by decide) ?_
      refine lv_icmp_gt (tgt := 1284) hx hb dL_law_24 (by decide) (fun _ => ?_) (fun c315 => absurd (by decide) c315)
      refine lv_iconst (v := 1) hx hb dL_law_1284 (by decide) ?_
      refine va_forget (fun q hq => hAl _ (hS.2.2 q hq)) ?_
      refine W.widen (k := 600000) (n := 7302250) (Nat.le_of_ble_eq_true rfl) (Nat.le_of_ble_eq_true rfl) ?_
      exact lw_ret hx hb hr hlocks dL_law_1285
    by_cases c316 : x256 = 17
    · refine lv_tableIn (off := 634) (tgt := 667) hx hb dL_law_33 (by rw [c316]; decide) (by rw [c316]; decide) (by rw [c316]; decide) (by decide) ?_
      have hP : va_P g.1 vwCl [(q1, .inr (10, [.ref q2, .int 0, .ref q3, .ref q52, .ref q73, .ref q13, .ref q67, .ref q76, .ref q11, .ref q86, .ref q84, .ref q12, .ref q85, .int 0])), (q12, .inr (4, [.ref q13, .ref q73, .ref q67, .ref q84, .ref q14, .ref q96, .ref q97, .ref q98, .ref q99, .ref q20, .ref q21, .int 0])), (q13, .inr (0, [.ref q73, .ref q100, .int 0, .int 0])), (q14, .inr (7, [.ref q15, .ref q16, .ref q17, .ref q18, .ref q19, .int 0, .int 0, .int 0, .int 0, .int 0])), (q15, .inl (gI g, 5, .inl f101)), (q16, .inl (gI g, 5, .inl f102)), (q17, .inl (gI g, 5, .inl f103)), (q18, .inl (gI g, 5, .inl f104)), (q19, .inl (gI g, 5, .inl f105)), (q67, .inr (7, [.ref q68, .ref q69, .ref q70, .ref q71, .ref q72, .int 0, .int 0, .int 0, .int 0, .int x151])), (q68, .inl (gI g, 5, .inl f152)), (q69, .inl (gI g, 5, .inl f153)), (q70, .inl (gI g, 5, .inl f154)), (q71, .inl (gI g, 5, .inl f155)), (q72, .inl (gI g, 5, .inl f156)), (q73, .inr (9, [.int 0, .int 0, .int 0, .int 0, .int 0, .ref q157, .ref q40, .ref q41, .ref q42, .ref q43, .ref q158, .ref q44, .ref q75, .ref q45, .ref q74, .ref q46, .ref q49])), (q188, .inr (11, fs203)), (q191, .inl (gI g, 24, .inl f206)), (q195, .inl (gI g, 2, .inl f210)), (q199, .inl (gI g, 24, .inl f214))] H := hP.sub [0, 11, 12, 13, 14, 15, 16, 17, 18, 66, 67, 68, 69, 70, 71, 72, 86, 89, 93, 97] rfl
      have hD : va_D A [(q1, .inr (10, [.ref q2, .int 0, .ref q3, .ref q52, .ref q73, .ref q13, .ref q67, .ref q76, .ref q11, .ref q86, .ref q84, .ref q12, .ref q85, .int 0])), (q12, .inr (4, [.ref q13, .ref q73, .ref q67, .ref q84, .ref q14, .ref q96, .ref q97, .ref q98, .ref q99, .ref q20, .ref q21, .int 0])), (q13, .inr (0, [.ref q73, .ref q100, .int 0, .int 0])), (q14, .inr (7, [.ref q15, .ref q16, .ref q17, .ref q18, .ref q19, .int 0, .int 0, .int 0, .int 0, .int 0])), (q15, .inl (gI g, 5, .inl f101)), (q16, .inl (gI g, 5, .inl f102)), (q17, .inl (gI g, 5, .inl f103)), (q18, .inl (gI g, 5, .inl f104)), (q19, .inl (gI g, 5, .inl f105)), (q67, .inr (7, [.ref q68, .ref q69, .ref q70, .ref q71, .ref q72, .int 0, .int 0, .int 0, .int 0, .int x151])), (q68, .inl (gI g, 5, .inl f152)), (q69, .inl (gI g, 5, .inl f153)), (q70, .inl (gI g, 5, .inl f154)), (q71, .inl (gI g, 5, .inl f155)), (q72, .inl (gI g, 5, .inl f156)), (q73, .inr (9, [.int 0, .int 0, .int 0, .int 0, .int 0, .ref q157, .ref q40, .ref q41, .ref q42, .ref q43, .ref q158, .ref q44, .ref q75, .ref q45, .ref q74, .ref q46, .ref q49])), (q188, .inr (11, fs203)), (q191, .inl (gI g, 24, .inl f206)), (q195, .inl (gI g, 2, .inl f210)), (q199, .inl (gI g, 24, .inl f214))] := hD.sub [0, 11, 12, 13, 14, 15, 16, 17, 18, 66, 67, 68, 69, 70, 71, 72, 86, 89, 93, 97] (by decide) rfl
      refine lv_aload_n hx hb dL_law_667 rfl (lv_at hl 2 rfl) ?_
      refine lv_aload_n hx hb dL_law_668 rfl (lv_at hl 3 rfl) ?_
      refine lv_iload_n hx hb dL_law_669 rfl (lv_at hl 0 rfl) ?_
      refine lv_iconst (v := 1) hx hb dL_law_670 (by decide) ?_
      refine lv_iadd hx hb dL_law_671 ?_
      refine lv_tope (y := 1) (by decide) ?_
      refine sc_ld hx hb hX hbl hbA hS 1 rfl (by decide) (by decide) dL_law_672 ?_
      refine lv_aload_n hx hb dL_law_673 rfl (lv_at hl 3 rfl) ?_
      refine lv_iload_n hx hb dL_law_674 rfl (lv_at hl 0 rfl) ?_
      refine lv_iconst (v := 2) hx hb dL_law_675 (by decide) ?_
      refine lv_iadd hx hb dL_law_676 ?_
      refine lv_tope (y := 2) (by decide) ?_
      refine sc_ld hx hb hX hbl hbA hS 2 rfl (by decide) (by decide) dL_law_677 ?_
      refine kI (wc := [(q1, .inr (10, [.ref q2, .int 0, .ref q3, .ref q52, .ref q73, .ref q13, .ref q67, .ref q76, .ref q11, .ref q86, .ref q84, .ref q12, .ref q85, .int 0])), (q12, .inr (4, [.ref q13, .ref q73, .ref q67, .ref q84, .ref q14, .ref q96, .ref q97, .ref q98, .ref q99, .ref q20, .ref q21, .int 0])), (q14, .inr (7, [.ref q15, .ref q16, .ref q17, .ref q18, .ref q19, .int 0, .int 0, .int 0, .int 0, .int 0])), (q15, .inl (gI g, 5, .inl f101)), (q16, .inl (gI g, 5, .inl f102)), (q17, .inl (gI g, 5, .inl f103)), (q18, .inl (gI g, 5, .inl f104)), (q19, .inl (gI g, 5, .inl f105)), (q67, .inr (7, [.ref q68, .ref q69, .ref q70, .ref q71, .ref q72, .int 0, .int 0, .int 0, .int 0, .int x151])), (q68, .inl (gI g, 5, .inl f152)), (q69, .inl (gI g, 5, .inl f153)), (q70, .inl (gI g, 5, .inl f154)), (q71, .inl (gI g, 5, .inl f155)), (q72, .inl (gI g, 5, .inl f156)), (q13, .inr (0, [.ref q73, .ref q100, .int 0, .int 0])), (q73, .inr (9, [.int 0, .int 0, .int 0, .int 0, .int 0, .ref q157, .ref q40, .ref q41, .ref q42, .ref q43, .ref q158, .ref q44, .ref q75, .ref q45, .ref q74, .ref q46, .ref q49]))]) (wr := [(q188, .inr (11, fs203)), (q191, .inl (gI g, 24, .inl f206)), (q195, .inl (gI g, 2, .inl f210)), (q199, .inl (gI g, 24, .inl f214))]) (rV (As := [.int (xs 1), .int (xs 2)]) (rest := []) (meth2 := "") hcx (c_X10_will H.size) (gdV q46_16 q46_17 q46_18 q1_2 q46_19) dvX10_will ⟨Nat.le_of_ble_eq_true rfl, Nat.le_of_ble_eq_true rfl⟩ (hP.sub [0, 1, 3, 4, 5, 6, 7, 8, 9, 10, 11, 12, 13, 14, 2, 15] rfl) (hD.sub [0, 1, 3, 4, 5, 6, 7, 8, 9, 10, 11, 12, 13, 14, 2, 15] (by decide) rfl) (va_recv hK hP (ci := 10) (q0 := 0) rfl rfl) rfl hl.1 rfl (Nat.le_of_ble_eq_true rfl) dL_law_678 ⟨Nat.le_of_ble_eq_true rfl, Nat.le_of_ble_eq_true rfl⟩) hP hD hS hA [0, 1, 3, 4, 5, 6, 7, 8, 9, 10, 11, 12, 13, 14, 2, 15] [16, 17, 18, 19] rfl rfl (by decide) (by decide) (fun r317 W' H locs hw hP hD hS => ?_)
      obtain ⟨hr318, rfl⟩ := hw
      have hP : va_P g.1 vwCl [(q188, .inr (11, fs203)), (q191, .inl (gI g, 24, .inl f206)), (q195, .inl (gI g, 2, .inl f210)), (q199, .inl (gI g, 24, .inl f214))] H := hP
      have hD : va_D A [(q188, .inr (11, fs203)), (q191, .inl (gI g, 24, .inl f206)), (q195, .inl (gI g, 2, .inl f210)), (q199, .inl (gI g, 24, .inl f214))] := hD
      refine lv_aload_n hx hb dL_law_681 rfl (lv_at hl 1 rfl) ?_
      refine lv_aload_n hx hb dL_law_682 rfl (lv_at hl 3 rfl) ?_
      refine lv_iload_n hx hb dL_law_683 rfl (lv_at hl 0 rfl) ?_
      refine lv_iconst (v := 1) hx hb dL_law_684 (by decide) ?_
      refine lv_iadd hx hb dL_law_685 ?_
      refine lv_tope (y := 1) (by decide) ?_
      refine sc_ld hx hb hX hbl hbA hS 1 rfl (by decide) (by decide) dL_law_686 ?_
      refine lv_aload_n hx hb dL_law_687 rfl (lv_at hl 3 rfl) ?_
      refine lv_iload_n hx hb dL_law_688 rfl (lv_at hl 0 rfl) ?_
      refine lv_iconst (v := 2) hx hb dL_law_689 (by decide) ?_
      refine lv_iadd hx hb dL_law_690 ?_
      refine lv_tope (y := 2) (by decide) ?_
      refine sc_ld hx hb hX hbl hbA hS 2 rfl (by decide) (by decide) dL_law_691 ?_
      refine kI (wc := [(q188, .inr (11, fs203)), (q199, .inl (gI g, 24, .inl f214)), (q191, .inl (gI g, 24, .inl f206)), (q195, .inl (gI g, 2, .inl f210))]) (wr := []) (rV (As := [.int (xs 1), .int (xs 2)]) (rest := [.int r317]) (meth2 := "") hcx (c_X11_will (hf218) (hf226) (hf228) (hf220) (hf236) (hf246) (hf247) (hf242) H.size) (gdV q47_5 q47_6 q47_7 q1_5 q47_8) dvX11_will ⟨Nat.le_of_ble_eq_true rfl, Nat.le_of_ble_eq_true rfl⟩ (hP.sub [0, 3, 1, 2] rfl) (hD.sub [0, 3, 1, 2] (by decide) rfl) (va_recv hK hP (ci := 11) (q0 := 0) rfl rfl) rfl hl.1 rfl (Nat.le_of_ble_eq_true rfl) dL_law_692 ⟨Nat.le_of_ble_eq_true rfl, Nat.le_of_ble_eq_true rfl⟩) hP hD hS hA [0, 3, 1, 2] [] rfl rfl (by decide) (by decide) (fun r319 W' H locs hw hP hD hS => ?_)
      obtain ⟨hr320, rfl⟩ := hw
      have hP : va_P g.1 vwCl [] H := hP
      have hD : va_D A [] := hD
      refine lv_icmp_eq (tgt := 1278) hx hb dL_law_695 (by decide) (fun _ => ?_) (fun c321 => absurd (hr318.trans hr320.symm) c321)
      refine lv_iinc (v := 6) (lv' := [(3, .int 6), (2, .ref q188), (1, .ref q1), (0, .ref b)]) hx hb dL_law_1278 hl (k := 0) rfl (by decide) (by decide) rfl (fun ls hl => ?_)
      refine lv_goto (tgt := 18) hx hb dL_law_1281 (by decide) ?_
      refine lv_iload_n hx hb dL_law_18 rfl (lv_at hl 0 rfl) ?_
      refine lv_aload_n hx hb dL_law_19 rfl (lv_at hl 3 rfl) ?_
      refine va_slen hx hb hX hbl hbA hS dL_law_20 ?_
      refine lv_tope (y := 6) (by decide) ?_
      refine lv_bipush (v := 6) hx hb dL_law_21 (by decide) ?_
      refine lv_isub hx hb dL_law_23 ?_
      refine lv_tope (y := 0) (by decide) ?_
      refine lv_icmp_gt (tgt := 1284) hx hb dL_law_24 (by decide) (fun _ => ?_) (fun c322 => absurd (by decide) c322)
      refine lv_iconst (v := 1) hx hb dL_law_1284 (by decide) ?_
      refine va_forget (fun q hq => hAl _ (hS.2.2 q hq)) ?_
      refine W.widen (k := 600000) (n := 7302250) (Nat.le_of_ble_eq_true rfl) (Nat.le_of_ble_eq_true rfl) ?_
      exact lw_ret hx hb hr hlocks dL_law_1285
    by_cases c323 : x256 = 18
    · refine lv_tableIn (off := 667) (tgt := 700) hx hb dL_law_33 (by rw [c323]; decide) (by rw [c323]; decide) (by rw [c323]; decide) (by decide) ?_
      have hP : va_P g.1 vwCl [(q1, .inr (10, [.ref q2, .int 0, .ref q3, .ref q52, .ref q73, .ref q13, .ref q67, .ref q76, .ref q11, .ref q86, .ref q84, .ref q12, .ref q85, .int 0])), (q73, .inr (9, [.int 0, .int 0, .int 0, .int 0, .int 0, .ref q157, .ref q40, .ref q41, .ref q42, .ref q43, .ref q158, .ref q44, .ref q75, .ref q45, .ref q74, .ref q46, .ref q49])), (q188, .inr (11, fs203)), (q200, .inl (gI g, 2, .inl f215))] H := hP.sub [0, 72, 86, 98] rfl
      have hD : va_D A [(q1, .inr (10, [.ref q2, .int 0, .ref q3, .ref q52, .ref q73, .ref q13, .ref q67, .ref q76, .ref q11, .ref q86, .ref q84, .ref q12, .ref q85, .int 0])), (q73, .inr (9, [.int 0, .int 0, .int 0, .int 0, .int 0, .ref q157, .ref q40, .ref q41, .ref q42, .ref q43, .ref q158, .ref q44, .ref q75, .ref q45, .ref q74, .ref q46, .ref q49])), (q188, .inr (11, fs203)), (q200, .inl (gI g, 2, .inl f215))] := hD.sub [0, 72, 86, 98] (by decide) rfl
      refine lv_aload_n hx hb dL_law_700 rfl (lv_at hl 2 rfl) ?_
      refine lv_aload_n hx hb dL_law_701 rfl (lv_at hl 3 rfl) ?_
      refine lv_iload_n hx hb dL_law_702 rfl (lv_at hl 0 rfl) ?_
      refine lv_iconst (v := 1) hx hb dL_law_703 (by decide) ?_
      refine lv_iadd hx hb dL_law_704 ?_
      refine lv_tope (y := 1) (by decide) ?_
      refine sc_ld hx hb hX hbl hbA hS 1 rfl (by decide) (by decide) dL_law_705 ?_
      refine kI (wc := [(q1, .inr (10, [.ref q2, .int 0, .ref q3, .ref q52, .ref q73, .ref q13, .ref q67, .ref q76, .ref q11, .ref q86, .ref q84, .ref q12, .ref q85, .int 0])), (q73, .inr (9, [.int 0, .int 0, .int 0, .int 0, .int 0, .ref q157, .ref q40, .ref q41, .ref q42, .ref q43, .ref q158, .ref q44, .ref q75, .ref q45, .ref q74, .ref q46, .ref q49]))]) (wr := [(q188, .inr (11, fs203)), (q200, .inl (gI g, 2, .inl f215))]) (rV (As := [.int (xs 1)]) (rest := []) (meth2 := "") hcx (c_X10_far H.size) (gdV q47_17 q47_18 q47_19 q1_2 q47_20) dvX10_far ⟨Nat.le_of_ble_eq_true rfl, Nat.le_of_ble_eq_true rfl⟩ (hP.sub [0, 1] rfl) (hD.sub [0, 1] (by decide) rfl) (va_recv hK hP (ci := 10) (q0 := 0) rfl rfl) rfl hl.1 rfl (Nat.le_of_ble_eq_true rfl) dL_law_706 ⟨Nat.le_of_ble_eq_true rfl, Nat.le_of_ble_eq_true rfl⟩) hP hD hS hA [0, 1] [2, 3] rfl rfl (by decide) (by decide) (fun r W' H locs hw hP hD hS => ?_)
      obtain ⟨rfl, rfl⟩ := hw
      have hP : va_P g.1 vwCl [(q188, .inr (11, fs203)), (q200, .inl (gI g, 2, .inl f215))] H := hP
      have hD : va_D A [(q188, .inr (11, fs203)), (q200, .inl (gI g, 2, .inl f215))] := hD
      refine lv_aload_n hx hb dL_law_709 rfl (lv_at hl 1 rfl) ?_
      refine lv_aload_n hx hb dL_law_710 rfl (lv_at hl 3 rfl) ?_
      refine lv_iload_n hx hb dL_law_711 rfl (lv_at hl 0 rfl) ?_
      refine lv_iconst (v := 1) hx hb dL_law_712 (by decide) ?_
      refine lv_iadd hx hb dL_law_713 ?_
      refine lv_tope (y := 1) (by decide) ?_
      refine sc_ld hx hb hX hbl hbA hS 1 rfl (by decide) (by decide) dL_law_714 ?_
      refine kI (wc := [(q188, .inr (11, fs203)), (q200, .inl (gI g, 2, .inl f215))]) (wr := []) (rV (As := [.int (xs 1)]) (rest := [.int (-1)]) (meth2 := "") hcx (c_X11_far (hf218) (hf221) (hf236) (hf250) H.size) (gdV q48_4 q48_5 q48_6 q1_5 q48_7) dvX11_far ⟨Nat.le_of_ble_eq_true rfl, Nat.le_of_ble_eq_true rfl⟩ (hP.sub [0, 1] rfl) (hD.sub [0, 1] (by decide) rfl) (va_recv hK hP (ci := 11) (q0 := 0) rfl rfl) rfl hl.1 rfl (Nat.le_of_ble_eq_true rfl) dL_law_715 ⟨Nat.le_of_ble_eq_true rfl, Nat.le_of_ble_eq_true rfl⟩) hP hD hS hA [0, 1] [] rfl rfl (by decide) (by decide) (fun r W' H locs hw hP hD hS => ?_)
      obtain ⟨rfl, rfl⟩ := hw
      have hP : va_P g.1 vwCl [] H := hP
      have hD : va_D A [] := hD
      refine lv_icmp_eq (tgt := 1278) hx hb dL_law_718 (by decide) (fun _ => ?_) (fun c324 => absurd (by decide) c324)
      refine lv_iinc (v := 6) (lv' := [(3, .int 6), (2, .ref q188), (1, .ref q1), (0, .ref b)]) hx hb dL_law_1278 hl (k := 0) rfl (by decide) (by decide) rfl (fun ls hl => ?_)
      refine lv_goto (tgt := 18) hx hb dL_law_1281 (by decide) ?_
      refine lv_iload_n hx hb dL_law_18 rfl (lv_at hl 0 rfl) ?_
      refine lv_aload_n hx hb dL_law_19 rfl (lv_at hl 3 rfl) ?_
      refine va_slen hx hb hX hbl hbA hS dL_law_20 ?_
      refine lv_tope (y := 6) (by decide) ?_
      refine lv_bipush (v := 6) hx hb dL_law_21 (by decide) ?_
      refine lv_isub hx hb dL_law_23 ?_
      refine lv_tope (y := 0) (by decide) ?_
      refine lv_icmp_gt (tgt := 1284) hx hb dL_law_24 (by decide) (fun _ => ?_) (fun c325 => absurd (by decide) c325)
      refine lv_iconst (v := 1) hx hb dL_law_1284 (by decide) ?_
      refine va_forget (fun q hq => hAl _ (hS.2.2 q hq)) ?_
      refine W.widen (k := 600000) (n := 7302250) (Nat.le_of_ble_eq_true rfl) (Nat.le_of_ble_eq_true rfl) ?_
      exact lw_ret hx hb hr hlocks dL_law_1285
    by_cases c326 : x256 = 19
    · refine lv_tableIn (off := 690) (tgt := 723) hx hb dL_law_33 (by rw [c326]; decide) (by rw [c326]; decide) (by rw [c326]; decide) (by decide) ?_
      have hP : va_P g.1 vwCl [(q1, .inr (10, [.ref q2, .int 0, .ref q3, .ref q52, .ref q73, .ref q13, .ref q67, .ref q76, .ref q11, .ref q86, .ref q84, .ref q12, .ref q85, .int 0])), (q73, .inr (9, [.int 0, .int 0, .int 0, .int 0, .int 0, .ref q157, .ref q40, .ref q41, .ref q42, .ref q43, .ref q158, .ref q44, .ref q75, .ref q45, .ref q74, .ref q46, .ref q49])), (q188, .inr (11, fs203)), (q200, .inl (gI g, 2, .inl f215))] H := hP.sub [0, 72, 86, 98] rfl
      have hD : va_D A [(q1, .inr (10, [.ref q2, .int 0, .ref q3, .ref q52, .ref q73, .ref q13, .ref q67, .ref q76, .ref q11, .ref q86, .ref q84, .ref q12, .ref q85, .int 0])), (q73, .inr (9, [.int 0, .int 0, .int 0, .int 0, .int 0, .ref q157, .ref q40, .ref q41, .ref q42, .ref q43, .ref q158, .ref q44, .ref q75, .ref q45, .ref q74, .ref q46, .ref q49])), (q188, .inr (11, fs203)), (q200, .inl (gI g, 2, .inl f215))] := hD.sub [0, 72, 86, 98] (by decide) rfl
      refine lv_aload_n hx hb dL_law_723 rfl (lv_at hl 2 rfl) ?_
      refine lv_aload_n hx hb dL_law_724 rfl (lv_at hl 3 rfl) ?_
      refine lv_iload_n hx hb dL_law_725 rfl (lv_at hl 0 rfl) ?_
      refine lv_iconst (v := 1) hx hb dL_law_726 (by decide) ?_
      refine lv_iadd hx hb dL_law_727 ?_
      refine lv_tope (y := 1) (by decide) ?_
      refine sc_ld hx hb hX hbl hbA hS 1 rfl (by decide) (by decide) dL_law_728 ?_
      refine kI (wc := [(q1, .inr (10, [.ref q2, .int 0, .ref q3, .ref q52, .ref q73, .ref q13, .ref q67, .ref q76, .ref q11, .ref q86, .ref q84, .ref q12, .ref q85, .int 0])), (q73, .inr (9, [.int 0, .int 0, .int 0, .int 0, .int 0, .ref q157, .ref q40, .ref q41, .ref q42, .ref q43, .ref q158, .ref q44, .ref q75, .ref q45, .ref q74, .ref q46, .ref q49]))]) (wr := [(q188, .inr (11, fs203)), (q200, .inl (gI g, 2, .inl f215))]) (rV (As := [.int (xs 1)]) (rest := []) (meth2 := "") hcx (c_X10_least H.size) (gdV q48_16 q48_17 q48_18 q1_2 q48_19) dvX10_least ⟨Nat.le_of_ble_eq_true rfl, Nat.le_of_ble_eq_true rfl⟩ (hP.sub [0, 1] rfl) (hD.sub [0, 1] (by decide) rfl) (va_recv hK hP (ci := 10) (q0 := 0) rfl rfl) rfl hl.1 rfl (Nat.le_of_ble_eq_true rfl) dL_law_729 ⟨Nat.le_of_ble_eq_true rfl, Nat.le_of_ble_eq_true rfl⟩) hP hD hS hA [0, 1] [2, 3] rfl rfl (by decide) (by decide) (fun r W' H locs hw hP hD hS => ?_)
      obtain ⟨rfl, rfl⟩ := hw
      have hP : va_P g.1 vwCl [(q188, .inr (11, fs203)), (q200, .inl (gI g, 2, .inl f215))] H := hP
      have hD : va_D A [(q188, .inr (11, fs203)), (q200, .inl (gI g, 2, .inl f215))] := hD
      refine lv_aload_n hx hb dL_law_732 rfl (lv_at hl 1 rfl) ?_
      refine lv_aload_n hx hb dL_law_733 rfl (lv_at hl 3 rfl) ?_
      refine lv_iload_n hx hb dL_law_734 rfl (lv_at hl 0 rfl) ?_
      refine lv_iconst (v := 1) hx hb dL_law_735 (by decide) ?_
      refine lv_iadd hx hb dL_law_736 ?_
      refine lv_tope (y := 1) (by decide) ?_
      refine sc_ld hx hb hX hbl hbA hS 1 rfl (by decide) (by decide) dL_law_737 ?_
      refine kI (wc := [(q188, .inr (11, fs203)), (q200, .inl (gI g, 2, .inl f215))]) (wr := []) (rV (As := [.int (xs 1)]) (rest := [.int (-1)]) (meth2 := "") hcx (c_X11_least (hf218) (hf221) (hf236) (hf250) H.size) (gdV q49_7 q49_8 q49_9 q1_5 q49_10) dvX11_least ⟨Nat.le_of_ble_eq_true rfl, Nat.le_of_ble_eq_true rfl⟩ (hP.sub [0, 1] rfl) (hD.sub [0, 1] (by decide) rfl) (va_recv hK hP (ci := 11) (q0 := 0) rfl rfl) rfl hl.1 rfl (Nat.le_of_ble_eq_true rfl) dL_law_738 ⟨Nat.le_of_ble_eq_true rfl, Nat.le_of_ble_eq_true rfl⟩) hP hD hS hA [0, 1] [] rfl rfl (by decide) (by decide) (fun r W' H locs hw hP hD hS => ?_)
      obtain ⟨rfl, rfl⟩ := hw
      have hP : va_P g.1 vwCl [] H := hP
      have hD : va_D A [] := hD
      refine lv_icmp_eq (tgt := 1278) hx hb dL_law_741 (by decide) (fun _ => ?_) (fun c327 => absurd (by decide) c327)
      refine lv_iinc (v := 6) (lv' := [(3, .int 6), (2, .ref q188), (1, .ref q1), (0, .ref b)]) hx hb dL_law_1278 hl (k := 0) rfl (by decide) (by decide) rfl (fun ls hl => ?_)
      refine lv_goto (tgt := 18) hx hb dL_law_1281 (by decide) ?_
      refine lv_iload_n hx hb dL_law_18 rfl (lv_at hl 0 rfl) ?_
      refine lv_aload_n hx hb dL_law_19 rfl (lv_at hl 3 rfl) ?_
      refine va_slen hx hb hX hbl hbA hS dL_law_20 ?_
      refine lv_tope (y := 6) (by decide) ?_
      refine lv_bipush (v := 6) hx hb dL_law_21 (by decide) ?_
      refine lv_isub hx hb dL_law_23 ?_
      refine lv_tope (y := 0) (by decide) ?_
      refine lv_icmp_gt (tgt := 1284) hx hb dL_law_24 (by decide) (fun _ => ?_) (fun c328 => absurd (by decide) c328)
      refine lv_iconst (v := 1) hx hb dL_law_1284 (by decide) ?_
      refine va_forget (fun q hq => hAl _ (hS.2.2 q hq)) ?_
      refine W.widen (k := 600000) (n := 7302250) (Nat.le_of_ble_eq_true rfl) (Nat.le_of_ble_eq_true rfl) ?_
      exact lw_ret hx hb hr hlocks dL_law_1285
    by_cases c329 : x256 = 20
    · refine lv_tableIn (off := 713) (tgt := 746) hx hb dL_law_33 (by rw [c329]; decide) (by rw [c329]; decide) (by rw [c329]; decide) (by decide) ?_
      have hP : va_P g.1 vwCl [(q1, .inr (10, [.ref q2, .int 0, .ref q3, .ref q52, .ref q73, .ref q13, .ref q67, .ref q76, .ref q11, .ref q86, .ref q84, .ref q12, .ref q85, .int 0])), (q12, .inr (4, [.ref q13, .ref q73, .ref q67, .ref q84, .ref q14, .ref q96, .ref q97, .ref q98, .ref q99, .ref q20, .ref q21, .int 0])), (q20, .inl (gI g, 5, .inl f106)), (q21, .inl (gI g, 5, .inl f107)), (q73, .inr (9, [.int 0, .int 0, .int 0, .int 0, .int 0, .ref q157, .ref q40, .ref q41, .ref q42, .ref q43, .ref q158, .ref q44, .ref q75, .ref q45, .ref q74, .ref q46, .ref q49])), (q84, .inr (3, [.ref q168, .int 0])), (q188, .inr (11, fs203)), (q191, .inl (gI g, 24, .inl f206)), (q192, .inl (gI g, 8, .inl f207)), (q195, .inl (gI g, 2, .inl f210)), (q199, .inl (gI g, 24, .inl f214)), (q200, .inl (gI g, 2, .inl f215))] H := hP.sub [0, 11, 19, 20, 72, 83, 86, 89, 90, 93, 97, 98] rfl
      have hD : va_D A [(q1, .inr (10, [.ref q2, .int 0, .ref q3, .ref q52, .ref q73, .ref q13, .ref q67, .ref q76, .ref q11, .ref q86, .ref q84, .ref q12, .ref q85, .int 0])), (q12, .inr (4, [.ref q13, .ref q73, .ref q67, .ref q84, .ref q14, .ref q96, .ref q97, .ref q98, .ref q99, .ref q20, .ref q21, .int 0])), (q20, .inl (gI g, 5, .inl f106)), (q21, .inl (gI g, 5, .inl f107)), (q73, .inr (9, [.int 0, .int 0, .int 0, .int 0, .int 0, .ref q157, .ref q40, .ref q41, .ref q42, .ref q43, .ref q158, .ref q44, .ref q75, .ref q45, .ref q74, .ref q46, .ref q49])), (q84, .inr (3, [.ref q168, .int 0])), (q188, .inr (11, fs203)), (q191, .inl (gI g, 24, .inl f206)), (q192, .inl (gI g, 8, .inl f207)), (q195, .inl (gI g, 2, .inl f210)), (q199, .inl (gI g, 24, .inl f214)), (q200, .inl (gI g, 2, .inl f215))] := hD.sub [0, 11, 19, 20, 72, 83, 86, 89, 90, 93, 97, 98] (by decide) rfl
      refine lv_aload_n hx hb dL_law_746 rfl (lv_at hl 2 rfl) ?_
      refine kI (wc := [(q1, .inr (10, [.ref q2, .int 0, .ref q3, .ref q52, .ref q73, .ref q13, .ref q67, .ref q76, .ref q11, .ref q86, .ref q84, .ref q12, .ref q85, .int 0])), (q12, .inr (4, [.ref q13, .ref q73, .ref q67, .ref q84, .ref q14, .ref q96, .ref q97, .ref q98, .ref q99, .ref q20, .ref q21, .int 0])), (q84, .inr (3, [.ref q168, .int 0])), (q73, .inr (9, [.int 0, .int 0, .int 0, .int 0, .int 0, .ref q157, .ref q40, .ref q41, .ref q42, .ref q43, .ref q158, .ref q44, .ref q75, .ref q45, .ref q74, .ref q46, .ref q49])), (q20, .inl (gI g, 5, .inl f106)), (q21, .inl (gI g, 5, .inl f107))]) (wr := [(q188, .inr (11, fs203)), (q191, .inl (gI g, 24, .inl f206)), (q192, .inl (gI g, 8, .inl f207)), (q195, .inl (gI g, 2, .inl f210)), (q199, .inl (gI g, 24, .inl f214)), (q200, .inl (gI g, 2, .inl f215))]) (rV (As := []) (rest := []) (meth2 := "") hcx (c_X10_largest H.size) (gdV q49_15 q49_16 q49_17 q1_2 q49_18) dvX10_largest ⟨Nat.le_of_ble_eq_true rfl, Nat.le_of_ble_eq_true rfl⟩ (hP.sub [0, 1, 5, 4, 2, 3] rfl) (hD.sub [0, 1, 5, 4, 2, 3] (by decide) rfl) (va_recv hK hP (ci := 10) (q0 := 0) rfl rfl) rfl hl.1 rfl (Nat.le_of_ble_eq_true rfl) dL_law_747 ⟨Nat.le_of_ble_eq_true rfl, Nat.le_of_ble_eq_true rfl⟩) hP hD hS hA [0, 1, 5, 4, 2, 3] [6, 7, 8, 9, 10, 11] rfl rfl (by decide) (by decide) (fun r W' H locs hw hP hD hS => ?_)
      obtain ⟨rfl, rfl⟩ := hw
      have hP : va_P g.1 vwCl [(q188, .inr (11, fs203)), (q191, .inl (gI g, 24, .inl f206)), (q192, .inl (gI g, 8, .inl f207)), (q195, .inl (gI g, 2, .inl f210)), (q199, .inl (gI g, 24, .inl f214)), (q200, .inl (gI g, 2, .inl f215))] H := hP
      have hD : va_D A [(q188, .inr (11, fs203)), (q191, .inl (gI g, 24, .inl f206)), (q192, .inl (gI g, 8, .inl f207)), (q195, .inl (gI g, 2, .inl f210)), (q199, .inl (gI g, 24, .inl f214)), (q200, .inl (gI g, 2, .inl f215))] := hD
      refine lv_aload_n hx hb dL_law_750 rfl (lv_at hl 1 rfl) ?_
      refine kI (wc := [(q188, .inr (11, fs203)), (q199, .inl (gI g, 24, .inl f214)), (q191, .inl (gI g, 24, .inl f206)), (q192, .inl (gI g, 8, .inl f207)), (q195, .inl (gI g, 2, .inl f210)), (q200, .inl (gI g, 2, .inl f215))]) (wr := []) (rV (As := []) (rest := [.int 0]) (meth2 := "") hcx (c_X11_largest (hf218) (hf226) (hf228) (hf229) (hf220) (hf221) (hf236) (hf246) (hf247) (hf242) (hf250) H.size) (gdV q51_10 q51_11 q51_12 q1_5 q51_13) dvX11_largest ⟨Nat.le_of_ble_eq_true rfl, Nat.le_of_ble_eq_true rfl⟩ (hP.sub [0, 4, 1, 2, 3, 5] rfl) (hD.sub [0, 4, 1, 2, 3, 5] (by decide) rfl) (va_recv hK hP (ci := 11) (q0 := 0) rfl rfl) rfl hl.1 rfl (Nat.le_of_ble_eq_true rfl) dL_law_751 ⟨Nat.le_of_ble_eq_true rfl, Nat.le_of_ble_eq_true rfl⟩) hP hD hS hA [0, 4, 1, 2, 3, 5] [] rfl rfl (by decide) (by decide) (fun r W' H locs hw hP hD hS => ?_)
      obtain ⟨rfl, rfl⟩ := hw
      have hP : va_P g.1 vwCl [] H := hP
      have hD : va_D A [] := hD
      refine lv_icmp_eq (tgt := 1278) hx hb dL_law_754 (by decide) (fun _ => ?_) (fun c330 => absurd (by decide) c330)
      refine lv_iinc (v := 6) (lv' := [(3, .int 6), (2, .ref q188), (1, .ref q1), (0, .ref b)]) hx hb dL_law_1278 hl (k := 0) rfl (by decide) (by decide) rfl (fun ls hl => ?_)
      refine lv_goto (tgt := 18) hx hb dL_law_1281 (by decide) ?_
      refine lv_iload_n hx hb dL_law_18 rfl (lv_at hl 0 rfl) ?_
      refine lv_aload_n hx hb dL_law_19 rfl (lv_at hl 3 rfl) ?_
      refine va_slen hx hb hX hbl hbA hS dL_law_20 ?_
      refine lv_tope (y := 6) (by decide) ?_
      refine lv_bipush (v := 6) hx hb dL_law_21 (by decide) ?_
      refine lv_isub hx hb dL_law_23 ?_
      refine lv_tope (y := 0) (by decide) ?_
      refine lv_icmp_gt (tgt := 1284) hx hb dL_law_24 (by decide) (fun _ => ?_) (fun c331 => absurd (by decide) c331)
      refine lv_iconst (v := 1) hx hb dL_law_1284 (by decide) ?_
      refine va_forget (fun q hq => hAl _ (hS.2.2 q hq)) ?_
      refine W.widen (k := 600000) (n := 7302250) (Nat.le_of_ble_eq_true rfl) (Nat.le_of_ble_eq_true rfl) ?_
      exact lw_ret hx hb hr hlocks dL_law_1285
    by_cases c332 : x256 = 21
    · refine lv_tableIn (off := 726) (tgt := 759) hx hb dL_law_33 (by rw [c332]; decide) (by rw [c332]; decide) (by rw [c332]; decide) (by decide) ?_
      have hP : va_P g.1 vwCl [(q1, .inr (10, [.ref q2, .int 0, .ref q3, .ref q52, .ref q73, .ref q13, .ref q67, .ref q76, .ref q11, .ref q86, .ref q84, .ref q12, .ref q85, .int 0])), (q12, .inr (4, [.ref q13, .ref q73, .ref q67, .ref q84, .ref q14, .ref q96, .ref q97, .ref q98, .ref q99, .ref q20, .ref q21, .int 0])), (q13, .inr (0, [.ref q73, .ref q100, .int 0, .int 0])), (q14, .inr (7, [.ref q15, .ref q16, .ref q17, .ref q18, .ref q19, .int 0, .int 0, .int 0, .int 0, .int 0])), (q15, .inl (gI g, 5, .inl f101)), (q16, .inl (gI g, 5, .inl f102)), (q17, .inl (gI g, 5, .inl f103)), (q18, .inl (gI g, 5, .inl f104)), (q19, .inl (gI g, 5, .inl f105)), (q20, .inl (gI g, 5, .inl f106)), (q21, .inl (gI g, 5, .inl f107)), (q67, .inr (7, [.ref q68, .ref q69, .ref q70, .ref q71, .ref q72, .int 0, .int 0, .int 0, .int 0, .int x151])), (q68, .inl (gI g, 5, .inl f152)), (q69, .inl (gI g, 5, .inl f153)), (q70, .inl (gI g, 5, .inl f154)), (q71, .inl (gI g, 5, .inl f155)), (q72, .inl (gI g, 5, .inl f156)), (q73, .inr (9, [.int 0, .int 0, .int 0, .int 0, .int 0, .ref q157, .ref q40, .ref q41, .ref q42, .ref q43, .ref q158, .ref q44, .ref q75, .ref q45, .ref q74, .ref q46, .ref q49])), (q84, .inr (3, [.ref q168, .int 0])), (q188, .inr (11, fs203)), (q191, .inl (gI g, 24, .inl f206)), (q192, .inl (gI g, 8, .inl f207)), (q195, .inl (gI g, 2, .inl f210)), (q199, .inl (gI g, 24, .inl f214)), (q200, .inl (gI g, 2, .inl f215))] H := hP.sub [0, 11, 12, 13, 14, 15, 16, 17, 18, 19, 20, 66, 67, 68, 69, 70, 71, 72, 83, 86, 89, 90, 93, 97, 98] rfl
      have hD : va_D A [(q1, .inr (10, [.ref q2, .int 0, .ref q3, .ref q52, .ref q73, .ref q13, .ref q67, .ref q76, .ref q11, .ref q86, .ref q84, .ref q12, .ref q85, .int 0])), (q12, .inr (4, [.ref q13, .ref q73, .ref q67, .ref q84, .ref q14, .ref q96, .ref q97, .ref q98, .ref q99, .ref q20, .ref q21, .int 0])), (q13, .inr (0, [.ref q73, .ref q100, .int 0, .int 0])), (q14, .inr (7, [.ref q15, .ref q16, .ref q17, .ref q18, .ref q19, .int 0, .int 0, .int 0, .int 0, .int 0])), (q15, .inl (gI g, 5, .inl f101)), (q16, .inl (gI g, 5, .inl f102)), (q17, .inl (gI g, 5, .inl f103)), (q18, .inl (gI g, 5, .inl f104)), (q19, .inl (gI g, 5, .inl f105)), (q20, .inl (gI g, 5, .inl f106)), (q21, .inl (gI g, 5, .inl f107)), (q67, .inr (7, [.ref q68, .ref q69, .ref q70, .ref q71, .ref q72, .int 0, .int 0, .int 0, .int 0, .int x151])), (q68, .inl (gI g, 5, .inl f152)), (q69, .inl (gI g, 5, .inl f153)), (q70, .inl (gI g, 5, .inl f154)), (q71, .inl (gI g, 5, .inl f155)), (q72, .inl (gI g, 5, .inl f156)), (q73, .inr (9, [.int 0, .int 0, .int 0, .int 0, .int 0, .ref q157, .ref q40, .ref q41, .ref q42, .ref q43, .ref q158, .ref q44, .ref q75, .ref q45, .ref q74, .ref q46, .ref q49])), (q84, .inr (3, [.ref q168, .int 0])), (q188, .inr (11, fs203)), (q191, .inl (gI g, 24, .inl f206)), (q192, .inl (gI g, 8, .inl f207)), (q195, .inl (gI g, 2, .inl f210)), (q199, .inl (gI g, 24, .inl f214)), (q200, .inl (gI g, 2, .inl f215))] := hD.sub [0, 11, 12, 13, 14, 15, 16, 17, 18, 19, 20, 66, 67, 68, 69, 70, 71, 72, 83, 86, 89, 90, 93, 97, 98] (by decide) rfl
      refine lv_aload_n hx hb dL_law_759 rfl (lv_at hl 2 rfl) ?_
      refine kI (wc := [(q1, .inr (10, [.ref q2, .int 0, .ref q3, .ref q52, .ref q73, .ref q13, .ref q67, .ref q76, .ref q11, .ref q86, .ref q84, .ref q12, .ref q85, .int 0])), (q12, .inr (4, [.ref q13, .ref q73, .ref q67, .ref q84, .ref q14, .ref q96, .ref q97, .ref q98, .ref q99, .ref q20, .ref q21, .int 0])), (q84, .inr (3, [.ref q168, .int 0])), (q73, .inr (9, [.int 0, .int 0, .int 0, .int 0, .int 0, .ref q157, .ref q40, .ref q41, .ref q42, .ref q43, .ref q158, .ref q44, .ref q75, .ref q45, .ref q74, .ref q46, .ref q49])), (q20, .inl (gI g, 5, .inl f106)), (q21, .inl (gI g, 5, .inl f107)), (q14, .inr (7, [.ref q15, .ref q16, .ref q17, .ref q18, .ref q19, .int 0, .int 0, .int 0, .int 0, .int 0])), (q15, .inl (gI g, 5, .inl f101)), (q16, .inl (gI g, 5, .inl f102)), (q17, .inl (gI g, 5, .inl f103)), (q18, .inl (gI g, 5, .inl f104)), (q19, .inl (gI g, 5, .inl f105)), (q67, .inr (7, [.ref q68, .ref q69, .ref q70, .ref q71, .ref q72, .int 0, .int 0, .int 0, .int 0, .int x151])), (q68, .inl (gI g, 5, .inl f152)), (q69, .inl (gI g, 5, .inl f153)), (q70, .inl (gI g, 5, .inl f154)), (q71, .inl (gI g, 5, .inl f155)), (q72, .inl (gI g, 5, .inl f156)), (q13, .inr (0, [.ref q73, .ref q100, .int 0, .int 0]))]) (wr := [(q188, .inr (11, fs203)), (q191, .inl (gI g, 24, .inl f206)), (q192, .inl (gI g, 8, .inl f207)), (q195, .inl (gI g, 2, .inl f210)), (q199, .inl (gI g, 24, .inl f214)), (q200, .inl (gI g, 2, .inl f215))]) (rV (As := []) (rest := []) (meth2 := "") hcx (c_X10_street H.size) (gdV q52_5 q52_6 q52_7 q1_2 q52_8) dvX10_street ⟨Nat.le_of_ble_eq_true rfl, Nat.le_of_ble_eq_true rfl⟩ (hP.sub [0, 1, 18, 17, 9, 10, 3, 4, 5, 6, 7, 8, 11, 12, 13, 14, 15, 16, 2] rfl) (hD.sub [0, 1, 18, 17, 9, 10, 3, 4, 5, 6, 7, 8, 11, 12, 13, 14, 15, 16, 2] (by decide) rfl) (va_recv hK hP (ci := 10) (q0 := 0) rfl rfl) rfl hl.1 rfl (Nat.le_of_ble_eq_true rfl) dL_law_760 ⟨Nat.le_of_ble_eq_true rfl, Nat.le_of_ble_eq_true rfl⟩) hP hD hS hA [0, 1, 18, 17, 9, 10, 3, 4, 5, 6, 7, 8, 11, 12, 13, 14, 15, 16, 2] [19, 20, 21, 22, 23, 24] rfl rfl (by decide) (by decide) (fun r W' H locs hw hP hD hS => ?_)
      obtain ⟨rfl, rfl⟩ := hw
      have hP : va_P g.1 vwCl [(q188, .inr (11, fs203)), (q191, .inl (gI g, 24, .inl f206)), (q192, .inl (gI g, 8, .inl f207)), (q195, .inl (gI g, 2, .inl f210)), (q199, .inl (gI g, 24, .inl f214)), (q200, .inl (gI g, 2, .inl f215))] H := hP
      have hD : va_D A [(q188, .inr (11, fs203)), (q191, .inl (gI g, 24, .inl f206)), (q192, .inl (gI g, 8, .inl f207)), (q195, .inl (gI g, 2, .inl f210)), (q199, .inl (gI g, 24, .inl f214)), (q200, .inl (gI g, 2, .inl f215))] := hD
      refine lv_aload_n hx hb dL_law_763 rfl (lv_at hl 1 rfl) ?_
      refine kI (wc := [(q188, .inr (11, fs203)), (q199, .inl (gI g, 24, .inl f214)), (q191, .inl (gI g, 24, .inl f206)), (q192, .inl (gI g, 8, .inl f207)), (q195, .inl (gI g, 2, .inl f210)), (q200, .inl (gI g, 2, .inl f215))]) (wr := []) (rV (As := []) (rest := [.int 0]) (meth2 := "") hcx (c_X11_street (hf218) (hf226) (hf228) (hf229) (hf220) (hf221) (hf236) (hf246) (hf247) (hf242) (hf250) H.size) (gdV q53_9 q53_10 q53_11 q1_5 q53_12) dvX11_street ⟨Nat.le_of_ble_eq_true rfl, Nat.le_of_ble_eq_true rfl⟩ (hP.sub [0, 4, 1, 2, 3, 5] rfl) (hD.sub [0, 4, 1, 2, 3, 5] (by decide) rfl) (va_recv hK hP (ci := 11) (q0 := 0) rfl rfl) rfl hl.1 rfl (Nat.le_of_ble_eq_true rfl) dL_law_764 ⟨Nat.le_of_ble_eq_true rfl, Nat.le_of_ble_eq_true rfl⟩) hP hD hS hA [0, 4, 1, 2, 3, 5] [] rfl rfl (by decide) (by decide) (fun r W' H locs hw hP hD hS => ?_)
      obtain ⟨rfl, rfl⟩ := hw
      have hP : va_P g.1 vwCl [] H := hP
      have hD : va_D A [] := hD
      refine lv_icmp_eq (tgt := 1278) hx hb dL_law_767 (by decide) (fun _ => ?_) (fun c333 => absurd (by decide) c333)
      refine lv_iinc (v := 6) (lv' := [(3, .int 6), (2, .ref q188), (1, .ref q1), (0, .ref b)]) hx hb dL_law_1278 hl (k := 0) rfl (by decide) (by decide) rfl (fun ls hl => ?_)
      refine lv_goto (tgt := 18) hx hb dL_law_1281 (by decide) ?_
      refine lv_iload_n hx hb dL_law_18 rfl (lv_at hl 0 rfl) ?_
      refine lv_aload_n hx hb dL_law_19 rfl (lv_at hl 3 rfl) ?_
      refine va_slen hx hb hX hbl hbA hS dL_law_20 ?_
      refine lv_tope (y := 6) (by decide) ?_
      refine lv_bipush (v := 6) hx hb dL_law_21 (by decide) ?_
      refine lv_isub hx hb dL_law_23 ?_
      refine lv_tope (y := 0) (by decide) ?_
      refine lv_icmp_gt (tgt := 1284) hx hb dL_law_24 (by decide) (fun _ => ?_) (fun c334 => absurd (by decide) c334)
      refine lv_iconst (v := 1) hx hb dL_law_1284 (by decide) ?_
      refine va_forget (fun q hq => hAl _ (hS.2.2 q hq)) ?_
      refine W.widen (k := 600000) (n := 7302250) (Nat.le_of_ble_eq_true rfl) (Nat.le_of_ble_eq_true rfl) ?_
      exact lw_ret hx hb hr hlocks dL_law_1285
    by_cases c335 : x256 = 22
    · refine lv_tableIn (off := 739) (tgt := 772) hx hb dL_law_33 (by rw [c335]; decide) (by rw [c335]; decide) (by rw [c335]; decide) (by decide) ?_
      have hP : va_P g.1 vwCl [(q1, .inr (10, [.ref q2, .int 0, .ref q3, .ref q52, .ref q73, .ref q13, .ref q67, .ref q76, .ref q11, .ref q86, .ref q84, .ref q12, .ref q85, .int 0])), (q73, .inr (9, [.int 0, .int 0, .int 0, .int 0, .int 0, .ref q157, .ref q40, .ref q41, .ref q42, .ref q43, .ref q158, .ref q44, .ref q75, .ref q45, .ref q74, .ref q46, .ref q49])), (q188, .inr (11, fs203)), (q200, .inl (gI g, 2, .inl f215))] H := hP.sub [0, 72, 86, 98] rfl
      have hD : va_D A [(q1, .inr (10, [.ref q2, .int 0, .ref q3, .ref q52, .ref q73, .ref q13, .ref q67, .ref q76, .ref q11, .ref q86, .ref q84, .ref q12, .ref q85, .int 0])), (q73, .inr (9, [.int 0, .int 0, .int 0, .int 0, .int 0, .ref q157, .ref q40, .ref q41, .ref q42, .ref q43, .ref q158, .ref q44, .ref q75, .ref q45, .ref q74, .ref q46, .ref q49])), (q188, .inr (11, fs203)), (q200, .inl (gI g, 2, .inl f215))] := hD.sub [0, 72, 86, 98] (by decide) rfl
      refine lv_aload_n hx hb dL_law_772 rfl (lv_at hl 2 rfl) ?_
      refine lv_aload_n hx hb dL_law_773 rfl (lv_at hl 3 rfl) ?_
      refine lv_iload_n hx hb dL_law_774 rfl (lv_at hl 0 rfl) ?_
      refine lv_iconst (v := 1) hx hb dL_law_775 (by decide) ?_
      refine lv_iadd hx hb dL_law_776 ?_
      refine lv_tope (y := 1) (by decide) ?_
      refine sc_ld hx hb hX hbl hbA hS 1 rfl (by decide) (by decide) dL_law_777 ?_
      refine lv_aload_n hx hb dL_law_778 rfl (lv_at hl 3 rfl) ?_
      refine lv_iload_n hx hb dL_law_779 rfl (lv_at hl 0 rfl) ?_
      refine lv_iconst (v := 2) hx hb dL_law_780 (by decide) ?_
      refine lv_iadd hx hb dL_law_781 ?_
      refine lv_tope (y := 2) (by decide) ?_
      refine sc_ld hx hb hX hbl hbA hS 2 rfl (by decide) (by decide) dL_law_782 ?_
      refine kI (wc := [(q1, .inr (10, [.ref q2, .int 0, .ref q3, .ref q52, .ref q73, .ref q13, .ref q67, .ref q76, .ref q11, .ref q86, .ref q84, .ref q12, .ref q85, .int 0])), (q73, .inr (9, [.int 0, .int 0, .int 0, .int 0, .int 0, .ref q157, .ref q40, .ref q41, .ref q42, .ref q43, .ref q158, .ref q44, .ref q75, .ref q45, .ref q74, .ref q46, .ref q49]))]) (wr := [(q188, .inr (11, fs203)), (q200, .inl (gI g, 2, .inl f215))]) (rV (As := [.int (xs 1), .int (xs 2)]) (rest := []) (meth2 := "") hcx (c_X10_host H.size) (gdV q53_20 q53_21 q53_22 q1_2 q53_23) dvX10_host ⟨Nat.le_of_ble_eq_true rfl, Nat.le_of_ble_eq_true rfl⟩ (hP.sub [0, 1] rfl) (hD.sub [0, 1] (by decide) rfl) (va_recv hK hP (ci := 10) (q0 := 0) rfl rfl) rfl hl.1 rfl (Nat.le_of_ble_eq_true rfl) dL_law_783 ⟨Nat.le_of_ble_eq_true rfl, Nat.le_of_ble_eq_true rfl⟩) hP hD hS hA [0, 1] [2, 3] rfl rfl (by decide) (by decide) (fun r W' H locs hw hP hD hS => ?_)
      obtain ⟨rfl, rfl⟩ := hw
      have hP : va_P g.1 vwCl [(q188, .inr (11, fs203)), (q200, .inl (gI g, 2, .inl f215))] H := hP
      have hD : va_D A [(q188, .inr (11, fs203)), (q200, .inl (gI g, 2, .inl f215))] := hD
      refine lv_aload_n hx hb dL_law_786 rfl (lv_at hl 1 rfl) ?_
      refine lv_aload_n hx hb dL_law_787 rfl (lv_at hl 3 rfl) ?_
      refine lv_iload_n hx hb dL_law_788 rfl (lv_at hl 0 rfl) ?_
      refine lv_iconst (v := 1) hx hb dL_law_789 (by decide) ?_
      refine lv_iadd hx hb dL_law_790 ?_
      refine lv_tope (y := 1) (by decide) ?_
      refine sc_ld hx hb hX hbl hbA hS 1 rfl (by decide) (by decide) dL_law_791 ?_
      refine lv_aload_n hx hb dL_law_792 rfl (lv_at hl 3 rfl) ?_
      refine lv_iload_n hx hb dL_law_793 rfl (lv_at hl 0 rfl) ?_
      refine lv_iconst (v := 2) hx hb dL_law_794 (by decide) ?_
      refine lv_iadd hx hb dL_law_795 ?_
      refine lv_tope (y := 2) (by decide) ?_
      refine sc_ld hx hb hX hbl hbA hS 2 rfl (by decide) (by decide) dL_law_796 ?_
      refine kI (wc := [(q188, .inr (11, fs203)), (q200, .inl (gI g, 2, .inl f215))]) (wr := []) (rV (As := [.int (xs 1), .int (xs 2)]) (rest := [.int (-1)]) (meth2 := "") hcx (c_X11_host (hf218) (hf221) (hf236) (hf250) H.size) (gdV q54_6 q54_7 q54_8 q1_5 q54_9) dvX11_host ⟨Nat.le_of_ble_eq_true rfl, Nat.le_of_ble_eq_true rfl⟩ (hP.sub [0, 1] rfl) (hD.sub [0, 1] (by decide) rfl) (va_recv hK hP (ci := 11) (q0 := 0) rfl rfl) rfl hl.1 rfl (Nat.le_of_ble_eq_true rfl) dL_law_797 ⟨Nat.le_of_ble_eq_true rfl, Nat.le_of_ble_eq_true rfl⟩) hP hD hS hA [0, 1] [] rfl rfl (by decide) (by decide) (fun r W' H locs hw hP hD hS => ?_)
      obtain ⟨rfl, rfl⟩ := hw
      have hP : va_P g.1 vwCl [] H := hP
      have hD : va_D A [] := hD
      refine lv_icmp_eq (tgt := 1278) hx hb dL_law_800 (by decide) (fun _ => ?_) (fun c336 => absurd (by decide) c336)
      refine lv_iinc (v := 6) (lv' := [(3, .int 6), (2, .ref q188), (1, .ref q1), (0, .ref b)]) hx hb dL_law_1278 hl (k := 0) rfl (by decide) (by decide) rfl (fun ls hl => ?_)
      refine lv_goto (tgt := 18) hx hb dL_law_1281 (by decide) ?_
      refine lv_iload_n hx hb dL_law_18 rfl (lv_at hl 0 rfl) ?_
      refine lv_aload_n hx hb dL_law_19 rfl (lv_at hl 3 rfl) ?_
      refine va_slen hx hb hX hbl hbA hS dL_law_20 ?_
      refine lv_tope (y := 6) (by decide) ?_
      refine lv_bipush (v := 6) hx hb dL_law_21 (by decide) ?_
      refine lv_isub hx hb dL_law_23 ?_
      refine lv_tope (y := 0) (by decide) ?_
      refine lv_icmp_gt (tgt := 1284) hx hb dL_law_24 (by decide) (fun _ => ?_) (fun c337 => absurd (by decide) c337)
      refine lv_iconst (v := 1) hx hb dL_law_1284 (by decide) ?_
      refine va_forget (fun q hq => hAl _ (hS.2.2 q hq)) ?_
      refine W.widen (k := 600000) (n := 7302250) (Nat.le_of_ble_eq_true rfl) (Nat.le_of_ble_eq_true rfl) ?_
      exact lw_ret hx hb hr hlocks dL_law_1285
    by_cases c338 : x256 = 23
    · refine lv_tableIn (off := 772) (tgt := 805) hx hb dL_law_33 (by rw [c338]; decide) (by rw [c338]; decide) (by rw [c338]; decide) (by decide) ?_
      have hP : va_P g.1 vwCl [(q1, .inr (10, [.ref q2, .int 0, .ref q3, .ref q52, .ref q73, .ref q13, .ref q67, .ref q76, .ref q11, .ref q86, .ref q84, .ref q12, .ref q85, .int 0])), (q73, .inr (9, [.int 0, .int 0, .int 0, .int 0, .int 0, .ref q157, .ref q40, .ref q41, .ref q42, .ref q43, .ref q158, .ref q44, .ref q75, .ref q45, .ref q74, .ref q46, .ref q49])), (q84, .inr (3, [.ref q168, .int 0])), (q188, .inr (11, fs203)), (q200, .inl (gI g, 2, .inl f215))] H := hP.sub [0, 72, 83, 86, 98] rfl
      have hD : va_D A [(q1, .inr (10, [.ref q2, .int 0, .ref q3, .ref q52, .ref q73, .ref q13, .ref q67, .ref q76, .ref q11, .ref q86, .ref q84, .ref q12, .ref q85, .int 0])), (q73, .inr (9, [.int 0, .int 0, .int 0, .int 0, .int 0, .ref q157, .ref q40, .ref q41, .ref q42, .ref q43, .ref q158, .ref q44, .ref q75, .ref q45, .ref q74, .ref q46, .ref q49])), (q84, .inr (3, [.ref q168, .int 0])), (q188, .inr (11, fs203)), (q200, .inl (gI g, 2, .inl f215))] := hD.sub [0, 72, 83, 86, 98] (by decide) rfl
      refine lv_aload_n hx hb dL_law_805 rfl (lv_at hl 2 rfl) ?_
      refine lv_aload_n hx hb dL_law_806 rfl (lv_at hl 3 rfl) ?_
      refine lv_iload_n hx hb dL_law_807 rfl (lv_at hl 0 rfl) ?_
      refine lv_iconst (v := 1) hx hb dL_law_808 (by decide) ?_
      refine lv_iadd hx hb dL_law_809 ?_
      refine lv_tope (y := 1) (by decide) ?_
      refine sc_ld hx hb hX hbl hbA hS 1 rfl (by decide) (by decide) dL_law_810 ?_
      refine lv_aload_n hx hb dL_law_811 rfl (lv_at hl 3 rfl) ?_
      refine lv_iload_n hx hb dL_law_812 rfl (lv_at hl 0 rfl) ?_
      refine lv_iconst (v := 2) hx hb dL_law_813 (by decide) ?_
      refine lv_iadd hx hb dL_law_814 ?_
      refine lv_tope (y := 2) (by decide) ?_
      refine sc_ld hx hb hX hbl hbA hS 2 rfl (by decide) (by decide) dL_law_815 ?_
      refine kI (wc := [(q1, .inr (10, [.ref q2, .int 0, .ref q3, .ref q52, .ref q73, .ref q13, .ref q67, .ref q76, .ref q11, .ref q86, .ref q84, .ref q12, .ref q85, .int 0])), (q73, .inr (9, [.int 0, .int 0, .int 0, .int 0, .int 0, .ref q157, .ref q40, .ref q41, .ref q42, .ref q43, .ref q158, .ref q44, .ref q75, .ref q45, .ref q74, .ref q46, .ref q49])), (q84, .inr (3, [.ref q168, .int 0]))]) (wr := [(q188, .inr (11, fs203)), (q200, .inl (gI g, 2, .inl f215))]) (rV (As := [.int (xs 1), .int (xs 2)]) (rest := []) (meth2 := "") hcx (c_X10_rivals H.size) (gdV q54_10 q54_11 q54_12 q1_2 q54_13) dvX10_rivals ⟨Nat.le_of_ble_eq_true rfl, Nat.le_of_ble_eq_true rfl⟩ (hP.sub [0, 1, 2] rfl) (hD.sub [0, 1, 2] (by decide) rfl) (va_recv hK hP (ci := 10) (q0 := 0) rfl rfl) rfl hl.1 rfl (Nat.le_of_ble_eq_true rfl) dL_law_816 ⟨Nat.le_of_ble_eq_true rfl, Nat.le_of_ble_eq_true rfl⟩) hP hD hS hA [0, 1, 2] [3, 4] rfl rfl (by decide) (by decide) (fun r W' H locs hw hP hD hS => ?_)
      obtain ⟨rfl, rfl⟩ := hw
      have hP : va_P g.1 vwCl [(q188, .inr (11, fs203)), (q200, .inl (gI g, 2, .inl f215))] H := hP
      have hD : va_D A [(q188, .inr (11, fs203)), (q200, .inl (gI g, 2, .inl f215))] := hD
      refine lv_aload_n hx hb dL_law_819 rfl (lv_at hl 1 rfl) ?_
      refine lv_aload_n hx hb dL_law_820 rfl (lv_at hl 3 rfl) ?_
      refine lv_iload_n hx hb dL_law_821 rfl (lv_at hl 0 rfl) ?_
      refine lv_iconst (v := 1) hx hb dL_law_822 (by decide) ?_
      refine lv_iadd hx hb dL_law_823 ?_
      refine lv_tope (y := 1) (by decide) ?_
      refine sc_ld hx hb hX hbl hbA hS 1 rfl (by decide) (by decide) dL_law_824 ?_
      refine lv_aload_n hx hb dL_law_825 rfl (lv_at hl 3 rfl) ?_
      refine lv_iload_n hx hb dL_law_826 rfl (lv_at hl 0 rfl) ?_
      refine lv_iconst (v := 2) hx hb dL_law_827 (by decide) ?_
      refine lv_iadd hx hb dL_law_828 ?_
      refine lv_tope (y := 2) (by decide) ?_
      refine sc_ld hx hb hX hbl hbA hS 2 rfl (by decide) (by decide) dL_law_829 ?_
      refine kI (wc := [(q188, .inr (11, fs203)), (q200, .inl (gI g, 2, .inl f215))]) (wr := []) (rV (As := [.int (xs 1), .int (xs 2)]) (rest := [.int (-1)]) (meth2 := "") hcx (c_X11_rivals (hf218) (hf221) (hf236) (hf250) H.size) (gdV q55_6 q55_7 q55_8 q1_5 q55_9) dvX11_rivals ⟨Nat.le_of_ble_eq_true rfl, Nat.le_of_ble_eq_true rfl⟩ (hP.sub [0, 1] rfl) (hD.sub [0, 1] (by decide) rfl) (va_recv hK hP (ci := 11) (q0 := 0) rfl rfl) rfl hl.1 rfl (Nat.le_of_ble_eq_true rfl) dL_law_830 ⟨Nat.le_of_ble_eq_true rfl, Nat.le_of_ble_eq_true rfl⟩) hP hD hS hA [0, 1] [] rfl rfl (by decide) (by decide) (fun r W' H locs hw hP hD hS => ?_)
      obtain ⟨rfl, rfl⟩ := hw
      have hP : va_P g.1 vwCl [] H := hP
      have hD : va_D A [] := hD
      refine lv_icmp_eq (tgt := 1278) hx hb dL_law_833 (by decide) (fun _ => ?_) (fun c339 => absurd (by decide) c339)
      refine lv_iinc (v := 6) (lv' := [(3, .int 6), (2, .ref q188), (1, .ref q1), (0, .ref b)]) hx hb dL_law_1278 hl (k := 0) rfl (by decide) (by decide) rfl (fun ls hl => ?_)
      refine lv_goto (tgt := 18) hx hb dL_law_1281 (by decide) ?_
      refine lv_iload_n hx hb dL_law_18 rfl (lv_at hl 0 rfl) ?_
      refine lv_aload_n hx hb dL_law_19 rfl (lv_at hl 3 rfl) ?_
      refine va_slen hx hb hX hbl hbA hS dL_law_20 ?_
      refine lv_tope (y := 6) (by decide) ?_
      refine lv_bipush (v := 6) hx hb dL_law_21 (by decide) ?_
      refine lv_isub hx hb dL_law_23 ?_
      refine lv_tope (y := 0) (by decide) ?_
      refine lv_icmp_gt (tgt := 1284) hx hb dL_law_24 (by decide) (fun _ => ?_) (fun c340 => absurd (by decide) c340)
      refine lv_iconst (v := 1) hx hb dL_law_1284 (by decide) ?_
      refine va_forget (fun q hq => hAl _ (hS.2.2 q hq)) ?_
      refine W.widen (k := 600000) (n := 7302250) (Nat.le_of_ble_eq_true rfl) (Nat.le_of_ble_eq_true rfl) ?_
      exact lw_ret hx hb hr hlocks dL_law_1285
    by_cases c341 : x256 = 24
    · refine lv_tableIn (off := 805) (tgt := 838) hx hb dL_law_33 (by rw [c341]; decide) (by rw [c341]; decide) (by rw [c341]; decide) (by decide) ?_
      have hP : va_P g.1 vwCl [(q1, .inr (10, [.ref q2, .int 0, .ref q3, .ref q52, .ref q73, .ref q13, .ref q67, .ref q76, .ref q11, .ref q86, .ref q84, .ref q12, .ref q85, .int 0])), (q12, .inr (4, [.ref q13, .ref q73, .ref q67, .ref q84, .ref q14, .ref q96, .ref q97, .ref q98, .ref q99, .ref q20, .ref q21, .int 0])), (q20, .inl (gI g, 5, .inl f106)), (q21, .inl (gI g, 5, .inl f107)), (q73, .inr (9, [.int 0, .int 0, .int 0, .int 0, .int 0, .ref q157, .ref q40, .ref q41, .ref q42, .ref q43, .ref q158, .ref q44, .ref q75, .ref q45, .ref q74, .ref q46, .ref q49])), (q84, .inr (3, [.ref q168, .int 0])), (q188, .inr (11, fs203)), (q193, .inl (gI g, 32, .inl f208)), (q200, .inl (gI g, 2, .inl f215))] H := hP.sub [0, 11, 19, 20, 72, 83, 86, 91, 98] rfl
      have hD : va_D A [(q1, .inr (10, [.ref q2, .int 0, .ref q3, .ref q52, .ref q73, .ref q13, .ref q67, .ref q76, .ref q11, .ref q86, .ref q84, .ref q12, .ref q85, .int 0])), (q12, .inr (4, [.ref q13, .ref q73, .ref q67, .ref q84, .ref q14, .ref q96, .ref q97, .ref q98, .ref q99, .ref q20, .ref q21, .int 0])), (q20, .inl (gI g, 5, .inl f106)), (q21, .inl (gI g, 5, .inl f107)), (q73, .inr (9, [.int 0, .int 0, .int 0, .int 0, .int 0, .ref q157, .ref q40, .ref q41, .ref q42, .ref q43, .ref q158, .ref q44, .ref q75, .ref q45, .ref q74, .ref q46, .ref q49])), (q84, .inr (3, [.ref q168, .int 0])), (q188, .inr (11, fs203)), (q193, .inl (gI g, 32, .inl f208)), (q200, .inl (gI g, 2, .inl f215))] := hD.sub [0, 11, 19, 20, 72, 83, 86, 91, 98] (by decide) rfl
      refine lv_aload_n hx hb dL_law_838 rfl (lv_at hl 2 rfl) ?_
      refine kI (wc := [(q1, .inr (10, [.ref q2, .int 0, .ref q3, .ref q52, .ref q73, .ref q13, .ref q67, .ref q76, .ref q11, .ref q86, .ref q84, .ref q12, .ref q85, .int 0])), (q12, .inr (4, [.ref q13, .ref q73, .ref q67, .ref q84, .ref q14, .ref q96, .ref q97, .ref q98, .ref q99, .ref q20, .ref q21, .int 0])), (q84, .inr (3, [.ref q168, .int 0])), (q73, .inr (9, [.int 0, .int 0, .int 0, .int 0, .int 0, .ref q157, .ref q40, .ref q41, .ref q42, .ref q43, .ref q158, .ref q44, .ref q75, .ref q45, .ref q74, .ref q46, .ref q49])), (q20, .inl (gI g, 5, .inl f106)), (q21, .inl (gI g, 5, .inl f107))]) (wr := [(q188, .inr (11, fs203)), (q193, .inl (gI g, 32, .inl f208)), (q200, .inl (gI g, 2, .inl f215))]) (rV (As := []) (rest := []) (meth2 := "") hcx (c_X10_pairs H.size) (gdV q55_18 q55_19 q55_20 q1_2 q55_21) dvX10_pairs ⟨Nat.le_of_ble_eq_true rfl, Nat.le_of_ble_eq_true rfl⟩ (hP.sub [0, 1, 5, 4, 2, 3] rfl) (hD.sub [0, 1, 5, 4, 2, 3] (by decide) rfl) (va_recv hK hP (ci := 10) (q0 := 0) rfl rfl) rfl hl.1 rfl (Nat.le_of_ble_eq_true rfl) dL_law_839 ⟨Nat.le_of_ble_eq_true rfl, Nat.le_of_ble_eq_true rfl⟩) hP hD hS hA [0, 1, 5, 4, 2, 3] [6, 7, 8] rfl rfl (by decide) (by decide) (fun r W' H locs hw hP hD hS => ?_)
      obtain ⟨rfl, rfl⟩ := hw
      have hP : va_P g.1 vwCl [(q188, .inr (11, fs203)), (q193, .inl (gI g, 32, .inl f208)), (q200, .inl (gI g, 2, .inl f215))] H := hP
      have hD : va_D A [(q188, .inr (11, fs203)), (q193, .inl (gI g, 32, .inl f208)), (q200, .inl (gI g, 2, .inl f215))] := hD
      refine lv_aload_n hx hb dL_law_842 rfl (lv_at hl 1 rfl) ?_
      refine kI (wc := [(q188, .inr (11, fs203)), (q200, .inl (gI g, 2, .inl f215)), (q193, .inl (gI g, 32, .inl f208))]) (wr := []) (rV (As := []) (rest := [.int 0]) (meth2 := "") hcx (c_X11_pairs (hf218) (hf230) (hf221) (hf236) (hf250) H.size) (gdV q56_10 q56_11 q56_12 q1_5 q56_13) dvX11_pairs ⟨Nat.le_of_ble_eq_true rfl, Nat.le_of_ble_eq_true rfl⟩ (hP.sub [0, 2, 1] rfl) (hD.sub [0, 2, 1] (by decide) rfl) (va_recv hK hP (ci := 11) (q0 := 0) rfl rfl) rfl hl.1 rfl (Nat.le_of_ble_eq_true rfl) dL_law_843 ⟨Nat.le_of_ble_eq_true rfl, Nat.le_of_ble_eq_true rfl⟩) hP hD hS hA [0, 2, 1] [] rfl rfl (by decide) (by decide) (fun r W' H locs hw hP hD hS => ?_)
      obtain ⟨rfl, rfl⟩ := hw
      have hP : va_P g.1 vwCl [] H := hP
      have hD : va_D A [] := hD
      refine lv_icmp_eq (tgt := 1278) hx hb dL_law_846 (by decide) (fun _ => ?_) (fun c342 => absurd (by decide) c342)
      refine lv_iinc (v := 6) (lv' := [(3, .int 6), (2, .ref q188), (1, .ref q1), (0, .ref b)]) hx hb dL_law_1278 hl (k := 0) rfl (by decide) (by decide) rfl (fun ls hl => ?_)
      refine lv_goto (tgt := 18) hx hb dL_law_1281 (by decide) ?_
      refine lv_iload_n hx hb dL_law_18 rfl (lv_at hl 0 rfl) ?_
      refine lv_aload_n hx hb dL_law_19 rfl (lv_at hl 3 rfl) ?_
      refine va_slen hx hb hX hbl hbA hS dL_law_20 ?_
      refine lv_tope (y := 6) (by decide) ?_
      refine lv_bipush (v := 6) hx hb dL_law_21 (by decide) ?_
      refine lv_isub hx hb dL_law_23 ?_
      refine lv_tope (y := 0) (by decide) ?_
      refine lv_icmp_gt (tgt := 1284) hx hb dL_law_24 (by decide) (fun _ => ?_) (fun c343 => absurd (by decide) c343)
      refine lv_iconst (v := 1) hx hb dL_law_1284 (by decide) ?_
      refine va_forget (fun q hq => hAl _ (hS.2.2 q hq)) ?_
      refine W.widen (k := 600000) (n := 7302250) (Nat.le_of_ble_eq_true rfl) (Nat.le_of_ble_eq_true rfl) ?_
      exact lw_ret hx hb hr hlocks dL_law_1285
    by_cases c344 : x256 = 25
    · refine lv_tableIn (off := 818) (tgt := 851) hx hb dL_law_33 (by rw [c344]; decide) (by rw [c344]; decide) (by rw [c344]; decide) (by decide) ?_
      have hP : va_P g.1 vwCl [(q1, .inr (10, [.ref q2, .int 0, .ref q3, .ref q52, .ref q73, .ref q13, .ref q67, .ref q76, .ref q11, .ref q86, .ref q84, .ref q12, .ref q85, .int 0])), (q73, .inr (9, [.int 0, .int 0, .int 0, .int 0, .int 0, .ref q157, .ref q40, .ref q41, .ref q42, .ref q43, .ref q158, .ref q44, .ref q75, .ref q45, .ref q74, .ref q46, .ref q49])), (q188, .inr (11, fs203)), (q200, .inl (gI g, 2, .inl f215))] H := hP.sub [0, 72, 86, 98] rfl
      have hD : va_D A [(q1, .inr (10, [.ref q2, .int 0, .ref q3, .ref q52, .ref q73, .ref q13, .ref q67, .ref q76, .ref q11, .ref q86, .ref q84, .ref q12, .ref q85, .int 0])), (q73, .inr (9, [.int 0, .int 0, .int 0, .int 0, .int 0, .ref q157, .ref q40, .ref q41, .ref q42, .ref q43, .ref q158, .ref q44, .ref q75, .ref q45, .ref q74, .ref q46, .ref q49])), (q188, .inr (11, fs203)), (q200, .inl (gI g, 2, .inl f215))] := hD.sub [0, 72, 86, 98] (by decide) rfl
      refine lv_aload_n hx hb dL_law_851 rfl (lv_at hl 2 rfl) ?_
      refine lv_aload_n hx hb dL_law_852 rfl (lv_at hl 3 rfl) ?_
      refine lv_iload_n hx hb dL_law_853 rfl (lv_at hl 0 rfl) ?_
      refine lv_iconst (v := 1) hx hb dL_law_854 (by decide) ?_
      refine lv_iadd hx hb dL_law_855 ?_
      refine lv_tope (y := 1) (by decide) ?_
      refine sc_ld hx hb hX hbl hbA hS 1 rfl (by decide) (by decide) dL_law_856 ?_
      refine kI (wc := [(q1, .inr (10, [.ref q2, .int 0, .ref q3, .ref q52, .ref q73, .ref q13, .ref q67, .ref q76, .ref q11, .ref q86, .ref q84, .ref q12, .ref q85, .int 0])), (q73, .inr (9, [.int 0, .int 0, .int 0, .int 0, .int 0, .ref q157, .ref q40, .ref q41, .ref q42, .ref q43, .ref q158, .ref q44, .ref q75, .ref q45, .ref q74, .ref q46, .ref q49]))]) (wr := [(q188, .inr (11, fs203)), (q200, .inl (gI g, 2, .inl f215))]) (rV (As := [.int (xs 1)]) (rest := []) (meth2 := "") hcx (c_X10_need H.size) (gdV q56_18 q56_19 q56_20 q1_2 q56_21) dvX10_need ⟨Nat.le_of_ble_eq_true rfl, Nat.le_of_ble_eq_true rfl⟩ (hP.sub [0, 1] rfl) (hD.sub [0, 1] (by decide) rfl) (va_recv hK hP (ci := 10) (q0 := 0) rfl rfl) rfl hl.1 rfl (Nat.le_of_ble_eq_true rfl) dL_law_857 ⟨Nat.le_of_ble_eq_true rfl, Nat.le_of_ble_eq_true rfl⟩) hP hD hS hA [0, 1] [2, 3] rfl rfl (by decide) (by decide) (fun r W' H locs hw hP hD hS => ?_)
      obtain ⟨rfl, rfl⟩ := hw
      have hP : va_P g.1 vwCl [(q188, .inr (11, fs203)), (q200, .inl (gI g, 2, .inl f215))] H := hP
      have hD : va_D A [(q188, .inr (11, fs203)), (q200, .inl (gI g, 2, .inl f215))] := hD
      refine lv_aload_n hx hb dL_law_860 rfl (lv_at hl 1 rfl) ?_
      refine lv_aload_n hx hb dL_law_861 rfl (lv_at hl 3 rfl) ?_
      refine lv_iload_n hx hb dL_law_862 rfl (lv_at hl 0 rfl) ?_
      refine lv_iconst (v := 1) hx hb dL_law_863 (by decide) ?_
      refine lv_iadd hx hb dL_law_864 ?_
      refine lv_tope (y := 1) (by decide) ?_
      refine sc_ld hx hb hX hbl hbA hS 1 rfl (by decide) (by decide) dL_law_865 ?_
      refine kI (wc := [(q188, .inr (11, fs203)), (q200, .inl (gI g, 2, .inl f215))]) (wr := []) (rV (As := [.int (xs 1)]) (rest := [.int (-1)]) (meth2 := "") hcx (c_X11_need (hf218) (hf221) (hf236) (hf250) H.size) (gdV q57_3 q57_4 q57_5 q1_5 q57_6) dvX11_need ⟨Nat.le_of_ble_eq_true rfl, Nat.le_of_ble_eq_true rfl⟩ (hP.sub [0, 1] rfl) (hD.sub [0, 1] (by decide) rfl) (va_recv hK hP (ci := 11) (q0 := 0) rfl rfl) rfl hl.1 rfl (Nat.le_of_ble_eq_true rfl) dL_law_866 ⟨Nat.le_of_ble_eq_true rfl, Nat.le_of_ble_eq_true rfl⟩) hP hD hS hA [0, 1] [] rfl rfl (by decide) (by decide) (fun r W' H locs hw hP hD hS => ?_)
      obtain ⟨rfl, rfl⟩ := hw
      have hP : va_P g.1 vwCl [] H := hP
      have hD : va_D A [] := hD
      refine lv_icmp_eq (tgt := 1278) hx hb dL_law_869 (by decide) (fun _ => ?_) (fun c345 => absurd (by decide) c345)
      refine lv_iinc (v := 6) (lv' := [(3, .int 6), (2, .ref q188), (1, .ref q1), (0, .ref b)]) hx hb dL_law_1278 hl (k := 0) rfl (by decide) (by decide) rfl (fun ls hl => ?_)
      refine lv_goto (tgt := 18) hx hb dL_law_1281 (by decide) ?_
      refine lv_iload_n hx hb dL_law_18 rfl (lv_at hl 0 rfl) ?_
      refine lv_aload_n hx hb dL_law_19 rfl (lv_at hl 3 rfl) ?_
      refine va_slen hx hb hX hbl hbA hS dL_law_20 ?_
      refine lv_tope (y := 6) (by decide) ?_
      refine lv_bipush (v := 6) hx hb dL_law_21 (by decide) ?_
      refine lv_isub hx hb dL_law_23 ?_
      refine lv_tope (y := 0) (by decide) ?_
      refine lv_icmp_gt (tgt := 1284) hx hb dL_law_24 (by decide) (fun _ => ?_) (fun c346 => absurd (by decide) c346)
      refine lv_iconst (v := 1) hx hb dL_law_1284 (by decide) ?_
      refine va_forget (fun q hq => hAl _ (hS.2.2 q hq)) ?_
      refine W.widen (k := 600000) (n := 7302250) (Nat.le_of_ble_eq_true rfl) (Nat.le_of_ble_eq_true rfl) ?_
      exact lw_ret hx hb hr hlocks dL_law_1285
    by_cases c347 : x256 = 26
    · refine lv_tableIn (off := 841) (tgt := 874) hx hb dL_law_33 (by rw [c347]; decide) (by rw [c347]; decide) (by rw [c347]; decide) (by decide) ?_
      have hP : va_P g.1 vwCl [(q1, .inr (10, [.ref q2, .int 0, .ref q3, .ref q52, .ref q73, .ref q13, .ref q67, .ref q76, .ref q11, .ref q86, .ref q84, .ref q12, .ref q85, .int 0])), (q73, .inr (9, [.int 0, .int 0, .int 0, .int 0, .int 0, .ref q157, .ref q40, .ref q41, .ref q42, .ref q43, .ref q158, .ref q44, .ref q75, .ref q45, .ref q74, .ref q46, .ref q49])), (q188, .inr (11, fs203)), (q200, .inl (gI g, 2, .inl f215))] H := hP.sub [0, 72, 86, 98] rfl
      have hD : va_D A [(q1, .inr (10, [.ref q2, .int 0, .ref q3, .ref q52, .ref q73, .ref q13, .ref q67, .ref q76, .ref q11, .ref q86, .ref q84, .ref q12, .ref q85, .int 0])), (q73, .inr (9, [.int 0, .int 0, .int 0, .int 0, .int 0, .ref q157, .ref q40, .ref q41, .ref q42, .ref q43, .ref q158, .ref q44, .ref q75, .ref q45, .ref q74, .ref q46, .ref q49])), (q188, .inr (11, fs203)), (q200, .inl (gI g, 2, .inl f215))] := hD.sub [0, 72, 86, 98] (by decide) rfl
      refine lv_aload_n hx hb dL_law_874 rfl (lv_at hl 2 rfl) ?_
      refine lv_aload_n hx hb dL_law_875 rfl (lv_at hl 3 rfl) ?_
      refine lv_iload_n hx hb dL_law_876 rfl (lv_at hl 0 rfl) ?_
      refine lv_iconst (v := 1) hx hb dL_law_877 (by decide) ?_
      refine lv_iadd hx hb dL_law_878 ?_
      refine lv_tope (y := 1) (by decide) ?_
      refine sc_ld hx hb hX hbl hbA hS 1 rfl (by decide) (by decide) dL_law_879 ?_
      refine kI (wc := [(q1, .inr (10, [.ref q2, .int 0, .ref q3, .ref q52, .ref q73, .ref q13, .ref q67, .ref q76, .ref q11, .ref q86, .ref q84, .ref q12, .ref q85, .int 0])), (q73, .inr (9, [.int 0, .int 0, .int 0, .int 0, .int 0, .ref q157, .ref q40, .ref q41, .ref q42, .ref q43, .ref q158, .ref q44, .ref q75, .ref q45, .ref q74, .ref q46, .ref q49]))]) (wr := [(q188, .inr (11, fs203)), (q200, .inl (gI g, 2, .inl f215))]) (rV (As := [.int (xs 1)]) (rest := []) (meth2 := "") hcx (c_X10_bears H.size) (gdV q57_7 q57_8 q57_9 q1_2 q57_10) dvX10_bears ⟨Nat.le_of_ble_eq_true rfl, Nat.le_of_ble_eq_true rfl⟩ (hP.sub [0, 1] rfl) (hD.sub [0, 1] (by decide) rfl) (va_recv hK hP (ci := 10) (q0 := 0) rfl rfl) rfl hl.1 rfl (Nat.le_of_ble_eq_true rfl) dL_law_880 ⟨Nat.le_of_ble_eq_true rfl, Nat.le_of_ble_eq_true rfl⟩) hP hD hS hA [0, 1] [2, 3] rfl rfl (by decide) (by decide) (fun r W' H locs hw hP hD hS => ?_)
      obtain ⟨rfl, rfl⟩ := hw
      have hP : va_P g.1 vwCl [(q188, .inr (11, fs203)), (q200, .inl (gI g, 2, .inl f215))] H := hP
      have hD : va_D A [(q188, .inr (11, fs203)), (q200, .inl (gI g, 2, .inl f215))] := hD
      refine lv_aload_n hx hb dL_law_883 rfl (lv_at hl 1 rfl) ?_
      refine lv_aload_n hx hb dL_law_884 rfl (lv_at hl 3 rfl) ?_
      refine lv_iload_n hx hb dL_law_885 rfl (lv_at hl 0 rfl) ?_
      refine lv_iconst (v := 1) hx hb dL_law_886 (by decide) ?_
      refine lv_iadd hx hb dL_law_887 ?_
      refine lv_tope (y := 1) (by decide) ?_
      refine sc_ld hx hb hX hbl hbA hS 1 rfl (by decide) (by decide) dL_law_888 ?_
      refine kI (wc := [(q188, .inr (11, fs203)), (q200, .inl (gI g, 2, .inl f215))]) (wr := []) (rV (As := [.int (xs 1)]) (rest := [.int (-1)]) (meth2 := "") hcx (c_X11_bears (hf218) (hf221) (hf236) (hf250) H.size) (gdV q57_19 q57_20 q57_21 q1_5 q57_22) dvX11_bears ⟨Nat.le_of_ble_eq_true rfl, Nat.le_of_ble_eq_true rfl⟩ (hP.sub [0, 1] rfl) (hD.sub [0, 1] (by decide) rfl) (va_recv hK hP (ci := 11) (q0 := 0) rfl rfl) rfl hl.1 rfl (Nat.le_of_ble_eq_true rfl) dL_law_889 ⟨Nat.le_of_ble_eq_true rfl, Nat.le_of_ble_eq_true rfl⟩) hP hD hS hA [0, 1] [] rfl rfl (by decide) (by decide) (fun r W' H locs hw hP hD hS => ?_)
      obtain ⟨rfl, rfl⟩ := hw
      have hP : va_P g.1 vwCl [] H := hP
      have hD : va_D A [] := hD
      refine lv_icmp_eq (tgt := 1278) hx hb dL_law_892 (by decide) (fun _ => ?_) (fun c348 => absurd (by decide) c348)
      refine lv_iinc (v := 6) (lv' := [(3, .int 6), (2, .ref q188), (1, .ref q1), (0, .ref b)]) hx hb dL_law_1278 hl (k := 0) rfl (by decide) (by decide) rfl (fun ls hl => ?_)
      refine lv_goto (tgt := 18) hx hb dL_law_1281 (by decide) ?_
      refine lv_iload_n hx hb dL_law_18 rfl (lv_at hl 0 rfl) ?_
      refine lv_aload_n hx hb dL_law_19 rfl (lv_at hl 3 rfl) ?_
      refine va_slen hx hb hX hbl hbA hS dL_law_20 ?_
      refine lv_tope (y := 6) (by decide) ?_
      refine lv_bipush (v := 6) hx hb dL_law_21 (by decide) ?_
      refine lv_isub hx hb dL_law_23 ?_
      refine lv_tope (y := 0) (by decide) ?_
      refine lv_icmp_gt (tgt := 1284) hx hb dL_law_24 (by decide) (fun _ => ?_) (fun c349 => absurd (by decide) c349)
      refine lv_iconst (v := 1) hx hb dL_law_1284 (by decide) ?_
      refine va_forget (fun q hq => hAl _ (hS.2.2 q hq)) ?_
      refine W.widen (k := 600000) (n := 7302250) (Nat.le_of_ble_eq_true rfl) (Nat.le_of_ble_eq_true rfl) ?_
      exact lw_ret hx hb hr hlocks dL_law_1285
    by_cases c350 : x256 = 27
    · refine lv_tableIn (off := 864) (tgt := 897) hx hb dL_law_33 (by rw [c350]; decide) (by rw [c350]; decide) (by rw [c350]; decide) (by decide) ?_
      have hP : va_P g.1 vwCl [(q1, .inr (10, [.ref q2, .int 0, .ref q3, .ref q52, .ref q73, .ref q13, .ref q67, .ref q76, .ref q11, .ref q86, .ref q84, .ref q12, .ref q85, .int 0])), (q12, .inr (4, [.ref q13, .ref q73, .ref q67, .ref q84, .ref q14, .ref q96, .ref q97, .ref q98, .ref q99, .ref q20, .ref q21, .int 0])), (q73, .inr (9, [.int 0, .int 0, .int 0, .int 0, .int 0, .ref q157, .ref q40, .ref q41, .ref q42, .ref q43, .ref q158, .ref q44, .ref q75, .ref q45, .ref q74, .ref q46, .ref q49])), (q188, .inr (11, fs203)), (q200, .inl (gI g, 2, .inl f215))] H := hP.sub [0, 11, 72, 86, 98] rfl
      have hD : va_D A [(q1, .inr (10, [.ref q2, .int 0, .ref q3, .ref q52, .ref q73, .ref q13, .ref q67, .ref q76, .ref q11, .ref q86, .ref q84, .ref q12, .ref q85, .int 0])), (q12, .inr (4, [.ref q13, .ref q73, .ref q67, .ref q84, .ref q14, .ref q96, .ref q97, .ref q98, .ref q99, .ref q20, .ref q21, .int 0])), (q73, .inr (9, [.int 0, .int 0, .int 0, .int 0, .int 0, .ref q157, .ref q40, .ref q41, .ref q42, .ref q43, .ref q158, .ref q44, .ref q75, .ref q45, .ref q74, .ref q46, .ref q49])), (q188, .inr (11, fs203)), (q200, .inl (gI g, 2, .inl f215))] := hD.sub [0, 11, 72, 86, 98] (by decide) rfl
      refine lv_aload_n hx hb dL_law_897 rfl (lv_at hl 2 rfl) ?_
      refine kI (wc := [(q1, .inr (10, [.ref q2, .int 0, .ref q3, .ref q52, .ref q73, .ref q13, .ref q67, .ref q76, .ref q11, .ref q86, .ref q84, .ref q12, .ref q85, .int 0])), (q12, .inr (4, [.ref q13, .ref q73, .ref q67, .ref q84, .ref q14, .ref q96, .ref q97, .ref q98, .ref q99, .ref q20, .ref q21, .int 0])), (q73, .inr (9, [.int 0, .int 0, .int 0, .int 0, .int 0, .ref q157, .ref q40, .ref q41, .ref q42, .ref q43, .ref q158, .ref q44, .ref q75, .ref q45, .ref q74, .ref q46, .ref q49]))]) (wr := [(q188, .inr (11, fs203)), (q200, .inl (gI g, 2, .inl f215))]) (rV (As := []) (rest := []) (meth2 := "") hcx (c_X10_shield H.size) (gdV q57_23 q58_0 q58_1 q1_2 q58_2) dvX10_shield ⟨Nat.le_of_ble_eq_true rfl, Nat.le_of_ble_eq_true rfl⟩ (hP.sub [0, 1, 2] rfl) (hD.sub [0, 1, 2] (by decide) rfl) (va_recv hK hP (ci := 10) (q0 := 0) rfl rfl) rfl hl.1 rfl (Nat.le_of_ble_eq_true rfl) dL_law_898 ⟨Nat.le_of_ble_eq_true rfl, Nat.le_of_ble_eq_true rfl⟩) hP hD hS hA [0, 1, 2] [3, 4] rfl rfl (by decide) (by decide) (fun r W' H locs hw hP hD hS => ?_)
      obtain ⟨rfl, rfl⟩ := hw
      have hP : va_P g.1 vwCl [(q188, .inr (11, fs203)), (q200, .inl (gI g, 2, .inl f215))] H := hP
      have hD : va_D A [(q188, .inr (11, fs203)), (q200, .inl (gI g, 2, .inl f215))] := hD
      refine lv_aload_n hx hb dL_law_901 rfl (lv_at hl 1 rfl) ?_
      refine kI (wc := [(q188, .inr (11, fs203)), (q200, .inl (gI g, 2, .inl f215))]) (wr := []) (rV (As := []) (rest := [.int (-1)]) (meth2 := "") hcx (c_X11_shield (hf218) (hf221) (hf236) (hf250) H.size) (gdV q58_8 q58_9 q58_10 q1_5 q58_11) dvX11_shield ⟨Nat.le_of_ble_eq_true rfl, Nat.le_of_ble_eq_true rfl⟩ (hP.sub [0, 1] rfl) (hD.sub [0, 1] (by decide) rfl) (va_recv hK hP (ci := 11) (q0 := 0) rfl rfl) rfl hl.1 rfl (Nat.le_of_ble_eq_true rfl) dL_law_902 ⟨Nat.le_of_ble_eq_true rfl, Nat.le_of_ble_eq_true rfl⟩) hP hD hS hA [0, 1] [] rfl rfl (by decide) (by decide) (fun r W' H locs hw hP hD hS => ?_)
      obtain ⟨rfl, rfl⟩ := hw
      have hP : va_P g.1 vwCl [] H := hP
      have hD : va_D A [] := hD
      refine lv_icmp_eq (tgt := 1278) hx hb dL_law_905 (by decide) (fun _ => ?_) (fun c351 => absurd (by decide) c351)
      refine lv_iinc (v := 6) (lv' := [(3, .int 6), (2, .ref q188), (1, .ref q1), (0, .ref b)]) hx hb dL_law_1278 hl (k := 0) rfl (by decide) (by decide) rfl (fun ls hl => ?_)
      refine lv_goto (tgt := 18) hx hb dL_law_1281 (by decide) ?_
      refine lv_iload_n hx hb dL_law_18 rfl (lv_at hl 0 rfl) ?_
      refine lv_aload_n hx hb dL_law_19 rfl (lv_at hl 3 rfl) ?_
      refine va_slen hx hb hX hbl hbA hS dL_law_20 ?_
      refine lv_tope (y := 6) (by decide) ?_
      refine lv_bipush (v := 6) hx hb dL_law_21 (by decide) ?_
      refine lv_isub hx hb dL_law_23 ?_
      refine lv_tope (y := 0) (by decide) ?_
      refine lv_icmp_gt (tgt := 1284) hx hb dL_law_24 (by decide) (fun _ => ?_) (fun c352 => absurd (by decide) c352)
      refine lv_iconst (v := 1) hx hb dL_law_1284 (by decide) ?_
      refine va_forget (fun q hq => hAl _ (hS.2.2 q hq)) ?_
      refine W.widen (k := 600000) (n := 7302250) (Nat.le_of_ble_eq_true rfl) (Nat.le_of_ble_eq_true rfl) ?_
      exact lw_ret hx hb hr hlocks dL_law_1285
    by_cases c353 : x256 = 28
    · refine lv_tableIn (off := 877) (tgt := 910) hx hb dL_law_33 (by rw [c353]; decide) (by rw [c353]; decide) (by rw [c353]; decide) (by decide) ?_
      have hP : va_P g.1 vwCl [(q1, .inr (10, [.ref q2, .int 0, .ref q3, .ref q52, .ref q73, .ref q13, .ref q67, .ref q76, .ref q11, .ref q86, .ref q84, .ref q12, .ref q85, .int 0])), (q12, .inr (4, [.ref q13, .ref q73, .ref q67, .ref q84, .ref q14, .ref q96, .ref q97, .ref q98, .ref q99, .ref q20, .ref q21, .int 0])), (q13, .inr (0, [.ref q73, .ref q100, .int 0, .int 0])), (q14, .inr (7, [.ref q15, .ref q16, .ref q17, .ref q18, .ref q19, .int 0, .int 0, .int 0, .int 0, .int 0])), (q15, .inl (gI g, 5, .inl f101)), (q16, .inl (gI g, 5, .inl f102)), (q17, .inl (gI g, 5, .inl f103)), (q18, .inl (gI g, 5, .inl f104)), (q19, .inl (gI g, 5, .inl f105)), (q67, .inr (7, [.ref q68, .ref q69, .ref q70, .ref q71, .ref q72, .int 0, .int 0, .int 0, .int 0, .int x151])), (q68, .inl (gI g, 5, .inl f152)), (q69, .inl (gI g, 5, .inl f153)), (q70, .inl (gI g, 5, .inl f154)), (q71, .inl (gI g, 5, .inl f155)), (q72, .inl (gI g, 5, .inl f156)), (q73, .inr (9, [.int 0, .int 0, .int 0, .int 0, .int 0, .ref q157, .ref q40, .ref q41, .ref q42, .ref q43, .ref q158, .ref q44, .ref q75, .ref q45, .ref q74, .ref q46, .ref q49])), (q188, .inr (11, fs203)), (q191, .inl (gI g, 24, .inl f206)), (q192, .inl (gI g, 8, .inl f207)), (q195, .inl (gI g, 2, .inl f210)), (q199, .inl (gI g, 24, .inl f214)), (q200, .inl (gI g, 2, .inl f215))] H := hP.sub [0, 11, 12, 13, 14, 15, 16, 17, 18, 66, 67, 68, 69, 70, 71, 72, 86, 89, 90, 93, 97, 98] rfl
      have hD : va_D A [(q1, .inr (10, [.ref q2, .int 0, .ref q3, .ref q52, .ref q73, .ref q13, .ref q67, .ref q76, .ref q11, .ref q86, .ref q84, .ref q12, .ref q85, .int 0])), (q12, .inr (4, [.ref q13, .ref q73, .ref q67, .ref q84, .ref q14, .ref q96, .ref q97, .ref q98, .ref q99, .ref q20, .ref q21, .int 0])), (q13, .inr (0, [.ref q73, .ref q100, .int 0, .int 0])), (q14, .inr (7, [.ref q15, .ref q16, .ref q17, .ref q18, .ref q19, .int 0, .int 0, .int 0, .int 0, .int 0])), (q15, .inl (gI g, 5, .inl f101)), (q16, .inl (gI g, 5, .inl f102)), (q17, .inl (gI g, 5, .inl f103)), (q18, .inl (gI g, 5, .inl f104)), (q19, .inl (gI g, 5, .inl f105)), (q67, .inr (7, [.ref q68, .ref q69, .ref q70, .ref q71, .ref q72, .int 0, .int 0, .int 0, .int 0, .int x151])), (q68, .inl (gI g, 5, .inl f152)), (q69, .inl (gI g, 5, .inl f153)), (q70, .inl (gI g, 5, .inl f154)), (q71, .inl (gI g, 5, .inl f155)), (q72, .inl (gI g, 5, .inl f156)), (q73, .inr (9, [.int 0, .int 0, .int 0, .int 0, .int 0, .ref q157, .ref q40, .ref q41, .ref q42, .ref q43, .ref q158, .ref q44, .ref q75, .ref q45, .ref q74, .ref q46, .ref q49])), (q188, .inr (11, fs203)), (q191, .inl (gI g, 24, .inl f206)), (q192, .inl (gI g, 8, .inl f207)), (q195, .inl (gI g, 2, .inl f210)), (q199, .inl (gI g, 24, .inl f214)), (q200, .inl (gI g, 2, .inl f215))] := hD.sub [0, 11, 12, 13, 14, 15, 16, 17, 18, 66, 67, 68, 69, 70, 71, 72, 86, 89, 90, 93, 97, 98] (by decide) rfl
      refine lv_aload_n hx hb dL_law_910 rfl (lv_at hl 2 rfl) ?_
      refine lv_aload_n hx hb dL_law_911 rfl (lv_at hl 3 rfl) ?_
      refine lv_iload_n hx hb dL_law_912 rfl (lv_at hl 0 rfl) ?_
      refine lv_iconst (v := 1) hx hb dL_law_913 (by decide) ?_
      refine lv_iadd hx hb dL_law_914 ?_
      refine lv_tope (y := 1) (by decide) ?_
      refine sc_ld hx hb hX hbl hbA hS 1 rfl (by decide) (by decide) dL_law_915 ?_
      refine kI (wc := [(q1, .inr (10, [.ref q2, .int 0, .ref q3, .ref q52, .ref q73, .ref q13, .ref q67, .ref q76, .ref q11, .ref q86, .ref q84, .ref q12, .ref q85, .int 0])), (q12, .inr (4, [.ref q13, .ref q73, .ref q67, .ref q84, .ref q14, .ref q96, .ref q97, .ref q98, .ref q99, .ref q20, .ref q21, .int 0])), (q14, .inr (7, [.ref q15, .ref q16, .ref q17, .ref q18, .ref q19, .int 0, .int 0, .int 0, .int 0, .int 0])), (q15, .inl (gI g, 5, .inl f101)), (q16, .inl (gI g, 5, .inl f102)), (q17, .inl (gI g, 5, .inl f103)), (q18, .inl (gI g, 5, .inl f104)), (q19, .inl (gI g, 5, .inl f105)), (q67, .inr (7, [.ref q68, .ref q69, .ref q70, .ref q71, .ref q72, .int 0, .int 0, .int 0, .int 0, .int x151])), (q68, .inl (gI g, 5, .inl f152)), (q69, .inl (gI g, 5, .inl f153)), (q70, .inl (gI g, 5, .inl f154)), (q71, .inl (gI g, 5, .inl f155)), (q72, .inl (gI g, 5, .inl f156)), (q13, .inr (0, [.ref q73, .ref q100, .int 0, .int 0])), (q73, .inr (9, [.int 0, .int 0, .int 0, .int 0, .int 0, .ref q157, .ref q40, .ref q41, .ref q42, .ref q43, .ref q158, .ref q44, .ref q75, .ref q45, .ref q74, .ref q46, .ref q49]))]) (wr := [(q188, .inr (11, fs203)), (q191, .inl (gI g, 24, .inl f206)), (q192, .inl (gI g, 8, .inl f207)), (q195, .inl (gI g, 2, .inl f210)), (q199, .inl (gI g, 24, .inl f214)), (q200, .inl (gI g, 2, .inl f215))]) (rV (As := [.int (xs 1)]) (rest := []) (meth2 := "") hcx (c_X10_law H.size) (gdV q58_12 q58_13 q58_14 q1_2 q58_15) dvX10_law ⟨Nat.le_of_ble_eq_true rfl, Nat.le_of_ble_eq_true rfl⟩ (hP.sub [0, 1, 3, 4, 5, 6, 7, 8, 9, 10, 11, 12, 13, 14, 2, 15] rfl) (hD.sub [0, 1, 3, 4, 5, 6, 7, 8, 9, 10, 11, 12, 13, 14, 2, 15] (by decide) rfl) (va_recv hK hP (ci := 10) (q0 := 0) rfl rfl) rfl hl.1 rfl (Nat.le_of_ble_eq_true rfl) dL_law_916 ⟨Nat.le_of_ble_eq_true rfl, Nat.le_of_ble_eq_true rfl⟩) hP hD hS hA [0, 1, 3, 4, 5, 6, 7, 8, 9, 10, 11, 12, 13, 14, 2, 15] [16, 17, 18, 19, 20, 21] rfl rfl (by decide) (by decide) (fun r354 W' H locs hw hP hD hS => ?_)
      obtain ⟨hr355, rfl⟩ := hw
      have hP : va_P g.1 vwCl [(q188, .inr (11, fs203)), (q191, .inl (gI g, 24, .inl f206)), (q192, .inl (gI g, 8, .inl f207)), (q195, .inl (gI g, 2, .inl f210)), (q199, .inl (gI g, 24, .inl f214)), (q200, .inl (gI g, 2, .inl f215))] H := hP
      have hD : va_D A [(q188, .inr (11, fs203)), (q191, .inl (gI g, 24, .inl f206)), (q192, .inl (gI g, 8, .inl f207)), (q195, .inl (gI g, 2, .inl f210)), (q199, .inl (gI g, 24, .inl f214)), (q200, .inl (gI g, 2, .inl f215))] := hD
      refine lv_aload_n hx hb dL_law_919 rfl (lv_at hl 1 rfl) ?_
      refine lv_aload_n hx hb dL_law_920 rfl (lv_at hl 3 rfl) ?_
      refine lv_iload_n hx hb dL_law_921 rfl (lv_at hl 0 rfl) ?_
      refine lv_iconst (v := 1) hx hb dL_law_922 (by decide) ?_
      refine lv_iadd hx hb dL_law_923 ?_
      refine lv_tope (y := 1) (by decide) ?_
      refine sc_ld hx hb hX hbl hbA hS 1 rfl (by decide) (by decide) dL_law_924 ?_
      refine kI (wc := [(q188, .inr (11, fs203)), (q199, .inl (gI g, 24, .inl f214)), (q191, .inl (gI g, 24, .inl f206)), (q192, .inl (gI g, 8, .inl f207)), (q195, .inl (gI g, 2, .inl f210)), (q200, .inl (gI g, 2, .inl f215))]) (wr := []) (rV (As := [.int (xs 1)]) (rest := [.int r354]) (meth2 := "") hcx (c_X11_law (hf218) (hf226) (hf228) (hf229) (hf220) (hf221) (hf236) (hf246) (hf247) (hf242) (hf250) H.size) (gdV q58_20 q58_21 q58_22 q1_5 q58_23) dvX11_law ⟨Nat.le_of_ble_eq_true rfl, Nat.le_of_ble_eq_true rfl⟩ (hP.sub [0, 4, 1, 2, 3, 5] rfl) (hD.sub [0, 4, 1, 2, 3, 5] (by decide) rfl) (va_recv hK hP (ci := 11) (q0 := 0) rfl rfl) rfl hl.1 rfl (Nat.le_of_ble_eq_true rfl) dL_law_925 ⟨Nat.le_of_ble_eq_true rfl, Nat.le_of_ble_eq_true rfl⟩) hP hD hS hA [0, 4, 1, 2, 3, 5] [] rfl rfl (by decide) (by decide) (fun r356 W' H locs hw hP hD hS => ?_)
      obtain ⟨hr357, rfl⟩ := hw
      have hP : va_P g.1 vwCl [] H := hP
      have hD : va_D A [] := hD
      refine lv_icmp_eq (tgt := 1278) hx hb dL_law_928 (by decide) (fun _ => ?_) (fun c358 => absurd (hr355.trans hr357.symm) c358)
      refine lv_iinc (v := 6) (lv' := [(3, .int 6), (2, .ref q188), (1, .ref q1), (0, .ref b)]) hx hb dL_law_1278 hl (k := 0) rfl (by decide) (by decide) rfl (fun ls hl => ?_)
      refine lv_goto (tgt := 18) hx hb dL_law_1281 (by decide) ?_
      refine lv_iload_n hx hb dL_law_18 rfl (lv_at hl 0 rfl) ?_
      refine lv_aload_n hx hb dL_law_19 rfl (lv_at hl 3 rfl) ?_
      refine va_slen hx hb hX hbl hbA hS dL_law_20 ?_
      refine lv_tope (y := 6) (by decide) ?_
      refine lv_bipush (v := 6) hx hb dL_law_21 (by decide) ?_
      refine lv_isub hx hb dL_law_23 ?_
      refine lv_tope (y := 0) (by decide) ?_
      refine lv_icmp_gt (tgt := 1284) hx hb dL_law_24 (by decide) (fun _ => ?_) (fun c359 => absurd (by decide) c359)
      refine lv_iconst (v := 1) hx hb dL_law_1284 (by decide) ?_
      refine va_forget (fun q hq => hAl _ (hS.2.2 q hq)) ?_
      refine W.widen (k := 600000) (n := 7302250) (Nat.le_of_ble_eq_true rfl) (Nat.le_of_ble_eq_true rfl) ?_
      exact lw_ret hx hb hr hlocks dL_law_1285
    by_cases c360 : x256 = 29
    · refine lv_tableIn (off := 900) (tgt := 933) hx hb dL_law_33 (by rw [c360]; decide) (by rw [c360]; decide) (by rw [c360]; decide) (by decide) ?_
      have hP : va_P g.1 vwCl [(q1, .inr (10, [.ref q2, .int 0, .ref q3, .ref q52, .ref q73, .ref q13, .ref q67, .ref q76, .ref q11, .ref q86, .ref q84, .ref q12, .ref q85, .int 0])), (q12, .inr (4, [.ref q13, .ref q73, .ref q67, .ref q84, .ref q14, .ref q96, .ref q97, .ref q98, .ref q99, .ref q20, .ref q21, .int 0])), (q14, .inr (7, [.ref q15, .ref q16, .ref q17, .ref q18, .ref q19, .int 0, .int 0, .int 0, .int 0, .int 0])), (q15, .inl (gI g, 5, .inl f101)), (q16, .inl (gI g, 5, .inl f102)), (q17, .inl (gI g, 5, .inl f103)), (q18, .inl (gI g, 5, .inl f104)), (q19, .inl (gI g, 5, .inl f105)), (q67, .inr (7, [.ref q68, .ref q69, .ref q70, .ref q71, .ref q72, .int 0, .int 0, .int 0, .int 0, .int x151])), (q68, .inl (gI g, 5, .inl f152)), (q69, .inl (gI g, 5, .inl f153)), (q70, .inl (gI g, 5, .inl f154)), (q71, .inl (gI g, 5, .inl f155)), (q72, .inl (gI g, 5, .inl f156)), (q73, .inr (9, [.int 0, .int 0, .int 0, .int 0, .int 0, .ref q157, .ref q40, .ref q41, .ref q42, .ref q43, .ref q158, .ref q44, .ref q75, .ref q45, .ref q74, .ref q46, .ref q49])), (q188, .inr (11, fs203)), (q191, .inl (gI g, 24, .inl f206)), (q192, .inl (gI g, 8, .inl f207)), (q195, .inl (gI g, 2, .inl f210)), (q199, .inl (gI g, 24, .inl f214))] H := hP.sub [0, 11, 13, 14, 15, 16, 17, 18, 66, 67, 68, 69, 70, 71, 72, 86, 89, 90, 93, 97] rfl
      have hD : va_D A [(q1, .inr (10, [.ref q2, .int 0, .ref q3, .ref q52, .ref q73, .ref q13, .ref q67, .ref q76, .ref q11, .ref q86, .ref q84, .ref q12, .ref q85, .int 0])), (q12, .inr (4, [.ref q13, .ref q73, .ref q67, .ref q84, .ref q14, .ref q96, .ref q97, .ref q98, .ref q99, .ref q20, .ref q21, .int 0])), (q14, .inr (7, [.ref q15, .ref q16, .ref q17, .ref q18, .ref q19, .int 0, .int 0, .int 0, .int 0, .int 0])), (q15, .inl (gI g, 5, .inl f101)), (q16, .inl (gI g, 5, .inl f102)), (q17, .inl (gI g, 5, .inl f103)), (q18, .inl (gI g, 5, .inl f104)), (q19, .inl (gI g, 5, .inl f105)), (q67, .inr (7, [.ref q68, .ref q69, .ref q70, .ref q71, .ref q72, .int 0, .int 0, .int 0, .int 0, .int x151])), (q68, .inl (gI g, 5, .inl f152)), (q69, .inl (gI g, 5, .inl f153)), (q70, .inl (gI g, 5, .inl f154)), (q71, .inl (gI g, 5, .inl f155)), (q72, .inl (gI g, 5, .inl f156)), (q73, .inr (9, [.int 0, .int 0, .int 0, .int 0, .int 0, .ref q157, .ref q40, .ref q41, .ref q42, .ref q43, .ref q158, .ref q44, .ref q75, .ref q45, .ref q74, .ref q46, .ref q49])), (q188, .inr (11, fs203)), (q191, .inl (gI g, 24, .inl f206)), (q192, .inl (gI g, 8, .inl f207)), (q195, .inl (gI g, 2, .inl f210)), (q199, .inl (gI g, 24, .inl f214))] := hD.sub [0, 11, 13, 14, 15, 16, 17, 18, 66, 67, 68, 69, 70, 71, 72, 86, 89, 90, 93, 97] (by decide) rfl
      refine lv_aload_n hx hb dL_law_933 rfl (lv_at hl 2 rfl) ?_
      refine kI (wc := [(q1, .inr (10, [.ref q2, .int 0, .ref q3, .ref q52, .ref q73, .ref q13, .ref q67, .ref q76, .ref q11, .ref q86, .ref q84, .ref q12, .ref q85, .int 0])), (q12, .inr (4, [.ref q13, .ref q73, .ref q67, .ref q84, .ref q14, .ref q96, .ref q97, .ref q98, .ref q99, .ref q20, .ref q21, .int 0])), (q14, .inr (7, [.ref q15, .ref q16, .ref q17, .ref q18, .ref q19, .int 0, .int 0, .int 0, .int 0, .int 0])), (q15, .inl (gI g, 5, .inl f101)), (q16, .inl (gI g, 5, .inl f102)), (q17, .inl (gI g, 5, .inl f103)), (q18, .inl (gI g, 5, .inl f104)), (q19, .inl (gI g, 5, .inl f105)), (q67, .inr (7, [.ref q68, .ref q69, .ref q70, .ref q71, .ref q72, .int 0, .int 0, .int 0, .int 0, .int x151])), (q68, .inl (gI g, 5, .inl f152)), (q69, .inl (gI g, 5, .inl f153)), (q70, .inl (gI g, 5, .inl f154)), (q71, .inl (gI g, 5, .inl f155)), (q72, .inl (gI g, 5, .inl f156)), (q73, .inr (9, [.int 0, .int 0, .int 0, .int 0, .int 0, .ref q157, .ref q40, .ref q41, .ref q42, .ref q43, .ref q158, .ref q44, .ref q75, .ref q45, .ref q74, .ref q46, .ref q49]))]) (wr := [(q188, .inr (11, fs203)), (q191, .inl (gI g, 24, .inl f206)), (q192, .inl (gI g, 8, .inl f207)), (q195, .inl (gI g, 2, .inl f210)), (q199, .inl (gI g, 24, .inl f214))]) (rV (As := []) (rest := []) (meth2 := "") hcx (c_X10_worst H.size) (gdV q59_0 q59_1 q59_2 q1_2 q59_3) dvX10_worst ⟨Nat.le_of_ble_eq_true rfl, Nat.le_of_ble_eq_true rfl⟩ (hP.sub [0, 1, 2, 3, 4, 5, 6, 7, 8, 9, 10, 11, 12, 13, 14] rfl) (hD.sub [0, 1, 2, 3, 4, 5, 6, 7, 8, 9, 10, 11, 12, 13, 14] (by decide) rfl) (va_recv hK hP (ci := 10) (q0 := 0) rfl rfl) rfl hl.1 rfl (Nat.le_of_ble_eq_true rfl) dL_law_934 ⟨Nat.le_of_ble_eq_true rfl, Nat.le_of_ble_eq_true rfl⟩) hP hD hS hA [0, 1, 2, 3, 4, 5, 6, 7, 8, 9, 10, 11, 12, 13, 14] [15, 16, 17, 18, 19] rfl rfl (by decide) (by decide) (fun r W' H locs hw hP hD hS => ?_)
      obtain ⟨rfl, rfl⟩ := hw
      have hP : va_P g.1 vwCl [(q188, .inr (11, fs203)), (q191, .inl (gI g, 24, .inl f206)), (q192, .inl (gI g, 8, .inl f207)), (q195, .inl (gI g, 2, .inl f210)), (q199, .inl (gI g, 24, .inl f214))] H := hP
      have hD : va_D A [(q188, .inr (11, fs203)), (q191, .inl (gI g, 24, .inl f206)), (q192, .inl (gI g, 8, .inl f207)), (q195, .inl (gI g, 2, .inl f210)), (q199, .inl (gI g, 24, .inl f214))] := hD
      refine lv_aload_n hx hb dL_law_937 rfl (lv_at hl 1 rfl) ?_
      refine kI (wc := [(q188, .inr (11, fs203)), (q199, .inl (gI g, 24, .inl f214)), (q191, .inl (gI g, 24, .inl f206)), (q192, .inl (gI g, 8, .inl f207)), (q195, .inl (gI g, 2, .inl f210))]) (wr := []) (rV (As := []) (rest := [.int (-1)]) (meth2 := "") hcx (c_X11_worst (hf218) (hf226) (hf228) (hf229) (hf220) (hf236) (hf246) (hf247) (hf242) H.size) (gdV q59_9 q59_10 q59_11 q1_5 q59_12) dvX11_worst ⟨Nat.le_of_ble_eq_true rfl, Nat.le_of_ble_eq_true rfl⟩ (hP.sub [0, 4, 1, 2, 3] rfl) (hD.sub [0, 4, 1, 2, 3] (by decide) rfl) (va_recv hK hP (ci := 11) (q0 := 0) rfl rfl) rfl hl.1 rfl (Nat.le_of_ble_eq_true rfl) dL_law_938 ⟨Nat.le_of_ble_eq_true rfl, Nat.le_of_ble_eq_true rfl⟩) hP hD hS hA [0, 4, 1, 2, 3] [] rfl rfl (by decide) (by decide) (fun r W' H locs hw hP hD hS => ?_)
      obtain ⟨rfl, rfl⟩ := hw
      have hP : va_P g.1 vwCl [] H := hP
      have hD : va_D A [] := hD
      refine lv_icmp_eq (tgt := 1278) hx hb dL_law_941 (by decide) (fun _ => ?_) (fun c361 => absurd (by decide) c361)
      refine lv_iinc (v := 6) (lv' := [(3, .int 6), (2, .ref q188), (1, .ref q1), (0, .ref b)]) hx hb dL_law_1278 hl (k := 0) rfl (by decide) (by decide) rfl (fun ls hl => ?_)
      refine lv_goto (tgt := 18) hx hb dL_law_1281 (by decide) ?_
      refine lv_iload_n hx hb dL_law_18 rfl (lv_at hl 0 rfl) ?_
      refine lv_aload_n hx hb dL_law_19 rfl (lv_at hl 3 rfl) ?_
      refine va_slen hx hb hX hbl hbA hS dL_law_20 ?_
      refine lv_tope (y := 6) (by decide) ?_
      refine lv_bipush (v := 6) hx hb dL_law_21 (by decide) ?_
      refine lv_isub hx hb dL_law_23 ?_
      refine lv_tope (y := 0) (by decide) ?_
      refine lv_icmp_gt (tgt := 1284) hx hb dL_law_24 (by decide) (fun _ => ?_) (fun c362 => absurd (by decide) c362)
      refine lv_iconst (v := 1) hx hb dL_law_1284 (by decide) ?_
      refine va_forget (fun q hq => hAl _ (hS.2.2 q hq)) ?_
      refine W.widen (k := 600000) (n := 7302250) (Nat.le_of_ble_eq_true rfl) (Nat.le_of_ble_eq_true rfl) ?_
      exact lw_ret hx hb hr hlocks dL_law_1285
    by_cases c363 : x256 = 30
    · refine lv_tableIn (off := 913) (tgt := 946) hx hb dL_law_33 (by rw [c363]; decide) (by rw [c363]; decide) (by rw [c363]; decide) (by decide) ?_
      have hP : va_P g.1 vwCl [(q1, .inr (10, [.ref q2, .int 0, .ref q3, .ref q52, .ref q73, .ref q13, .ref q67, .ref q76, .ref q11, .ref q86, .ref q84, .ref q12, .ref q85, .int 0])), (q12, .inr (4, [.ref q13, .ref q73, .ref q67, .ref q84, .ref q14, .ref q96, .ref q97, .ref q98, .ref q99, .ref q20, .ref q21, .int 0])), (q73, .inr (9, [.int 0, .int 0, .int 0, .int 0, .int 0, .ref q157, .ref q40, .ref q41, .ref q42, .ref q43, .ref q158, .ref q44, .ref q75, .ref q45, .ref q74, .ref q46, .ref q49])), (q188, .inr (11, fs203)), (q200, .inl (gI g, 2, .inl f215))] H := hP.sub [0, 11, 72, 86, 98] rfl
      have hD : va_D A [(q1, .inr (10, [.ref q2, .int 0, .ref q3, .ref q52, .ref q73, .ref q13, .ref q67, .ref q76, .ref q11, .ref q86, .ref q84, .ref q12, .ref q85, .int 0])), (q12, .inr (4, [.ref q13, .ref q73, .ref q67, .ref q84, .ref q14, .ref q96, .ref q97, .ref q98, .ref q99, .ref q20, .ref q21, .int 0])), (q73, .inr (9, [.int 0, .int 0, .int 0, .int 0, .int 0, .ref q157, .ref q40, .ref q41, .ref q42, .ref q43, .ref q158, .ref q44, .ref q75, .ref q45, .ref q74, .ref q46, .ref q49])), (q188, .inr (11, fs203)), (q200, .inl (gI g, 2, .inl f215))] := hD.sub [0, 11, 72, 86, 98] (by decide) rfl
      refine lv_aload_n hx hb dL_law_946 rfl (lv_at hl 2 rfl) ?_
      refine kI (wc := [(q1, .inr (10, [.ref q2, .int 0, .ref q3, .ref q52, .ref q73, .ref q13, .ref q67, .ref q76, .ref q11, .ref q86, .ref q84, .ref q12, .ref q85, .int 0])), (q12, .inr (4, [.ref q13, .ref q73, .ref q67, .ref q84, .ref q14, .ref q96, .ref q97, .ref q98, .ref q99, .ref q20, .ref q21, .int 0])), (q73, .inr (9, [.int 0, .int 0, .int 0, .int 0, .int 0, .ref q157, .ref q40, .ref q41, .ref q42, .ref q43, .ref q158, .ref q44, .ref q75, .ref q45, .ref q74, .ref q46, .ref q49]))]) (wr := [(q188, .inr (11, fs203)), (q200, .inl (gI g, 2, .inl f215))]) (rV (As := []) (rest := []) (meth2 := "") hcx (c_X10_narrow H.size) (gdV q59_13 q59_14 q59_15 q1_2 q59_16) dvX10_narrow ⟨Nat.le_of_ble_eq_true rfl, Nat.le_of_ble_eq_true rfl⟩ (hP.sub [0, 1, 2] rfl) (hD.sub [0, 1, 2] (by decide) rfl) (va_recv hK hP (ci := 10) (q0 := 0) rfl rfl) rfl hl.1 rfl (Nat.le_of_ble_eq_true rfl) dL_law_947 ⟨Nat.le_of_ble_eq_true rfl, Nat.le_of_ble_eq_true rfl⟩) hP hD hS hA [0, 1, 2] [3, 4] rfl rfl (by decide) (by decide) (fun r W' H locs hw hP hD hS => ?_)
      obtain ⟨rfl, rfl⟩ := hw
      have hP : va_P g.1 vwCl [(q188, .inr (11, fs203)), (q200, .inl (gI g, 2, .inl f215))] H := hP
      have hD : va_D A [(q188, .inr (11, fs203)), (q200, .inl (gI g, 2, .inl f215))] := hD
      refine lv_aload_n hx hb dL_law_950 rfl (lv_at hl 1 rfl) ?_
      refine kI (wc := [(q188, .inr (11, fs203)), (q200, .inl (gI g, 2, .inl f215))]) (wr := []) (rV (As := []) (rest := [.int 0]) (meth2 := "") hcx (c_X11_narrow (hf218) (hf221) (hf236) (hf250) H.size) (gdV q59_22 q59_23 q60_0 q1_5 q60_1) dvX11_narrow ⟨Nat.le_of_ble_eq_true rfl, Nat.le_of_ble_eq_true rfl⟩ (hP.sub [0, 1] rfl) (hD.sub [0, 1] (by decide) rfl) (va_recv hK hP (ci := 11) (q0 := 0) rfl rfl) rfl hl.1 rfl (Nat.le_of_ble_eq_true rfl) dL_law_951 ⟨Nat.le_of_ble_eq_true rfl, Nat.le_of_ble_eq_true rfl⟩) hP hD hS hA [0, 1] [] rfl rfl (by decide) (by decide) (fun r W' H locs hw hP hD hS => ?_)
      obtain ⟨rfl, rfl⟩ := hw
      have hP : va_P g.1 vwCl [] H := hP
      have hD : va_D A [] := hD
      refine lv_icmp_eq (tgt := 1278) hx hb dL_law_954 (by decide) (fun _ => ?_) (fun c364 => absurd (by decide) c364)
      refine lv_iinc (v := 6) (lv' := [(3, .int 6), (2, .ref q188), (1, .ref q1), (0, .ref b)]) hx hb dL_law_1278 hl (k := 0) rfl (by decide) (by decide) rfl (fun ls hl => ?_)
      refine lv_goto (tgt := 18) hx hb dL_law_1281 (by decide) ?_
      refine lv_iload_n hx hb dL_law_18 rfl (lv_at hl 0 rfl) ?_
      refine lv_aload_n hx hb dL_law_19 rfl (lv_at hl 3 rfl) ?_
      refine va_slen hx hb hX hbl hbA hS dL_law_20 ?_
      refine lv_tope (y := 6) (by decide) ?_
      refine lv_bipush (v := 6) hx hb dL_law_21 (by decide) ?_
      refine lv_isub hx hb dL_law_23 ?_
      refine lv_tope (y := 0) (by decide) ?_
      refine lv_icmp_gt (tgt := 1284) hx hb dL_law_24 (by decide) (fun _ => ?_) (fun c365 => absurd (by decide) c365)
      refine lv_iconst (v := 1) hx hb dL_law_1284 (by decide) ?_
      refine va_forget (fun q hq => hAl _ (hS.2.2 q hq)) ?_
      refine W.widen (k := 600000) (n := 7302250) (Nat.le_of_ble_eq_true rfl) (Nat.le_of_ble_eq_true rfl) ?_
      exact lw_ret hx hb hr hlocks dL_law_1285
    by_cases c366 : x256 = 31
    · refine lv_tableIn (off := 926) (tgt := 959) hx hb dL_law_33 (by rw [c366]; decide) (by rw [c366]; decide) (by rw [c366]; decide) (by decide) ?_
      have hP : va_P g.1 vwCl [(q1, .inr (10, [.ref q2, .int 0, .ref q3, .ref q52, .ref q73, .ref q13, .ref q67, .ref q76, .ref q11, .ref q86, .ref q84, .ref q12, .ref q85, .int 0])), (q73, .inr (9, [.int 0, .int 0, .int 0, .int 0, .int 0, .ref q157, .ref q40, .ref q41, .ref q42, .ref q43, .ref q158, .ref q44, .ref q75, .ref q45, .ref q74, .ref q46, .ref q49])), (q188, .inr (11, fs203)), (q200, .inl (gI g, 2, .inl f215))] H := hP.sub [0, 72, 86, 98] rfl
      have hD : va_D A [(q1, .inr (10, [.ref q2, .int 0, .ref q3, .ref q52, .ref q73, .ref q13, .ref q67, .ref q76, .ref q11, .ref q86, .ref q84, .ref q12, .ref q85, .int 0])), (q73, .inr (9, [.int 0, .int 0, .int 0, .int 0, .int 0, .ref q157, .ref q40, .ref q41, .ref q42, .ref q43, .ref q158, .ref q44, .ref q75, .ref q45, .ref q74, .ref q46, .ref q49])), (q188, .inr (11, fs203)), (q200, .inl (gI g, 2, .inl f215))] := hD.sub [0, 72, 86, 98] (by decide) rfl
      refine lv_aload_n hx hb dL_law_959 rfl (lv_at hl 2 rfl) ?_
      refine lv_aload_n hx hb dL_law_960 rfl (lv_at hl 3 rfl) ?_
      refine lv_iload_n hx hb dL_law_961 rfl (lv_at hl 0 rfl) ?_
      refine lv_iconst (v := 1) hx hb dL_law_962 (by decide) ?_
      refine lv_iadd hx hb dL_law_963 ?_
      refine lv_tope (y := 1) (by decide) ?_
      refine sc_ld hx hb hX hbl hbA hS 1 rfl (by decide) (by decide) dL_law_964 ?_
      refine lv_aload_n hx hb dL_law_965 rfl (lv_at hl 3 rfl) ?_
      refine lv_iload_n hx hb dL_law_966 rfl (lv_at hl 0 rfl) ?_
      refine lv_iconst (v := 2) hx hb dL_law_967 (by decide) ?_
      refine lv_iadd hx hb dL_law_968 ?_
      refine lv_tope (y := 2) (by decide) ?_
      refine sc_ld hx hb hX hbl hbA hS 2 rfl (by decide) (by decide) dL_law_969 ?_
      refine kI (wc := [(q1, .inr (10, [.ref q2, .int 0, .ref q3, .ref q52, .ref q73, .ref q13, .ref q67, .ref q76, .ref q11, .ref q86, .ref q84, .ref q12, .ref q85, .int 0])), (q73, .inr (9, [.int 0, .int 0, .int 0, .int 0, .int 0, .ref q157, .ref q40, .ref q41, .ref q42, .ref q43, .ref q158, .ref q44, .ref q75, .ref q45, .ref q74, .ref q46, .ref q49]))]) (wr := [(q188, .inr (11, fs203)), (q200, .inl (gI g, 2, .inl f215))]) (rV (As := [.int (xs 1), .int (xs 2)]) (rest := []) (meth2 := "") hcx (c_X10_odds H.size) (gdV q60_2 q60_3 q60_4 q1_2 q60_5) dvX10_odds ⟨Nat.le_of_ble_eq_true rfl, Nat.le_of_ble_eq_true rfl⟩ (hP.sub [0, 1] rfl) (hD.sub [0, 1] (by decide) rfl) (va_recv hK hP (ci := 10) (q0 := 0) rfl rfl) rfl hl.1 rfl (Nat.le_of_ble_eq_true rfl) dL_law_970 ⟨Nat.le_of_ble_eq_true rfl, Nat.le_of_ble_eq_true rfl⟩) hP hD hS hA [0, 1] [2, 3] rfl rfl (by decide) (by decide) (fun r W' H locs hw hP hD hS => ?_)
      obtain ⟨rfl, rfl⟩ := hw
      have hP : va_P g.1 vwCl [(q188, .inr (11, fs203)), (q200, .inl (gI g, 2, .inl f215))] H := hP
      have hD : va_D A [(q188, .inr (11, fs203)), (q200, .inl (gI g, 2, .inl f215))] := hD
      refine lv_aload_n hx hb dL_law_973 rfl (lv_at hl 1 rfl) ?_
      refine lv_aload_n hx hb dL_law_974 rfl (lv_at hl 3 rfl) ?_
      refine lv_iload_n hx hb dL_law_975 rfl (lv_at hl 0 rfl) ?_
      refine lv_iconst (v := 1) hx hb dL_law_976 (by decide) ?_
      refine lv_iadd hx hb dL_law_977 ?_
      refine lv_tope (y := 1) (by decide) ?_
      refine sc_ld hx hb hX hbl hbA hS 1 rfl (by decide) (by decide) dL_law_978 ?_
      refine lv_aload_n hx hb dL_law_979 rfl (lv_at hl 3 rfl) ?_
      refine lv_iload_n hx hb dL_law_980 rfl (lv_at hl 0 rfl) ?_
      refine lv_iconst (v := 2) hx hb dL_law_981 (by decide) ?_
      refine lv_iadd hx hb dL_law_982 ?_
      refine lv_tope (y := 2) (by decide) ?_
      refine sc_ld hx hb hX hbl hbA hS 2 rfl (by decide) (by decide) dL_law_983 ?_
      refine kI (wc := [(q188, .inr (11, fs203)), (q200, .inl (gI g, 2, .inl f215))]) (wr := []) (rV (As := [.int (xs 1), .int (xs 2)]) (rest := [.int (-1)]) (meth2 := "") hcx (c_X11_odds (hf218) (hf221) (hf236) (hf250) H.size) (gdV q60_19 q60_20 q60_21 q1_5 q60_22) dvX11_odds ⟨Nat.le_of_ble_eq_true rfl, Nat.le_of_ble_eq_true rfl⟩ (hP.sub [0, 1] rfl) (hD.sub [0, 1] (by decide) rfl) (va_recv hK hP (ci := 11) (q0 := 0) rfl rfl) rfl hl.1 rfl (Nat.le_of_ble_eq_true rfl) dL_law_984 ⟨Nat.le_of_ble_eq_true rfl, Nat.le_of_ble_eq_true rfl⟩) hP hD hS hA [0, 1] [] rfl rfl (by decide) (by decide) (fun r W' H locs hw hP hD hS => ?_)
      obtain ⟨rfl, rfl⟩ := hw
      have hP : va_P g.1 vwCl [] H := hP
      have hD : va_D A [] := hD
      refine lv_icmp_eq (tgt := 1278) hx hb dL_law_987 (by decide) (fun _ => ?_) (fun c367 => absurd (by decide) c367)
      refine lv_iinc (v := 6) (lv' := [(3, .int 6), (2, .ref q188), (1, .ref q1), (0, .ref b)]) hx hb dL_law_1278 hl (k := 0) rfl (by decide) (by decide) rfl (fun ls hl => ?_)
      refine lv_goto (tgt := 18) hx hb dL_law_1281 (by decide) ?_
      refine lv_iload_n hx hb dL_law_18 rfl (lv_at hl 0 rfl) ?_
      refine lv_aload_n hx hb dL_law_19 rfl (lv_at hl 3 rfl) ?_
      refine va_slen hx hb hX hbl hbA hS dL_law_20 ?_
      refine lv_tope (y := 6) (by decide) ?_
      refine lv_bipush (v := 6) hx hb dL_law_21 (by decide) ?_
      refine lv_isub hx hb dL_law_23 ?_
      refine lv_tope (y := 0) (by decide) ?_
      refine lv_icmp_gt (tgt := 1284) hx hb dL_law_24 (by decide) (fun _ => ?_) (fun c368 => absurd (by decide) c368)
      refine lv_iconst (v := 1) hx hb dL_law_1284 (by decide) ?_
      refine va_forget (fun q hq => hAl _ (hS.2.2 q hq)) ?_
      refine W.widen (k := 600000) (n := 7302250) (Nat.le_of_ble_eq_true rfl) (Nat.le_of_ble_eq_true rfl) ?_
      exact lw_ret hx hb hr hlocks dL_law_1285
    by_cases c369 : x256 = 32
    · refine lv_tableIn (off := 959) (tgt := 992) hx hb dL_law_33 (by rw [c369]; decide) (by rw [c369]; decide) (by rw [c369]; decide) (by decide) ?_
      have hP : va_P g.1 vwCl [(q1, .inr (10, [.ref q2, .int 0, .ref q3, .ref q52, .ref q73, .ref q13, .ref q67, .ref q76, .ref q11, .ref q86, .ref q84, .ref q12, .ref q85, .int 0])), (q84, .inr (3, [.ref q168, .int 0])), (q188, .inr (11, fs203))] H := hP.sub [0, 83, 86] rfl
      have hD : va_D A [(q1, .inr (10, [.ref q2, .int 0, .ref q3, .ref q52, .ref q73, .ref q13, .ref q67, .ref q76, .ref q11, .ref q86, .ref q84, .ref q12, .ref q85, .int 0])), (q84, .inr (3, [.ref q168, .int 0])), (q188, .inr (11, fs203))] := hD.sub [0, 83, 86] (by decide) rfl
      refine lv_aload_n hx hb dL_law_992 rfl (lv_at hl 2 rfl) ?_
      refine lv_aload_n hx hb dL_law_993 rfl (lv_at hl 3 rfl) ?_
      refine lv_iload_n hx hb dL_law_994 rfl (lv_at hl 0 rfl) ?_
      refine lv_iconst (v := 1) hx hb dL_law_995 (by decide) ?_
      refine lv_iadd hx hb dL_law_996 ?_
      refine lv_tope (y := 1) (by decide) ?_
      refine sc_ld hx hb hX hbl hbA hS 1 rfl (by decide) (by decide) dL_law_997 ?_
      refine kI (wc := [(q1, .inr (10, [.ref q2, .int 0, .ref q3, .ref q52, .ref q73, .ref q13, .ref q67, .ref q76, .ref q11, .ref q86, .ref q84, .ref q12, .ref q85, .int 0])), (q84, .inr (3, [.ref q168, .int 0]))]) (wr := [(q188, .inr (11, fs203))]) (rV (As := [.int (xs 1)]) (rest := []) (meth2 := "") hcx (c_X10_lies H.size) (gdV q61_6 q61_7 q61_8 q1_2 q61_9) dvX10_lies ⟨Nat.le_of_ble_eq_true rfl, Nat.le_of_ble_eq_true rfl⟩ (hP.sub [0, 1] rfl) (hD.sub [0, 1] (by decide) rfl) (va_recv hK hP (ci := 10) (q0 := 0) rfl rfl) rfl hl.1 rfl (Nat.le_of_ble_eq_true rfl) dL_law_998 ⟨Nat.le_of_ble_eq_true rfl, Nat.le_of_ble_eq_true rfl⟩) hP hD hS hA [0, 1] [2] rfl rfl (by decide) (by decide) (fun r W' H locs hw hP hD hS => ?_)
      obtain ⟨rfl, rfl⟩ := hw
      have hP : va_P g.1 vwCl [(q188, .inr (11, fs203))] H := hP
      have hD : va_D A [(q188, .inr (11, fs203))] := hD
      refine lv_aload_n hx hb dL_law_1001 rfl (lv_at hl 1 rfl) ?_
      refine lv_aload_n hx hb dL_law_1002 rfl (lv_at hl 3 rfl) ?_
      refine lv_iload_n hx hb dL_law_1003 rfl (lv_at hl 0 rfl) ?_
      refine lv_iconst (v := 1) hx hb dL_law_1004 (by decide) ?_
      refine lv_iadd hx hb dL_law_1005 ?_
      refine lv_tope (y := 1) (by decide) ?_
      refine sc_ld hx hb hX hbl hbA hS 1 rfl (by decide) (by decide) dL_law_1006 ?_
      refine kI (wc := [(q188, .inr (11, fs203))]) (wr := []) (rV (As := [.int (xs 1)]) (rest := [.int (-2)]) (meth2 := "") hcx (c_X11_lies (hf218) (hf239) H.size) (gdV q61_14 q61_15 q61_16 q1_5 q61_17) dvX11_lies ⟨Nat.le_of_ble_eq_true rfl, Nat.le_of_ble_eq_true rfl⟩ (hP.sub [0] rfl) (hD.sub [0] (by decide) rfl) (va_recv hK hP (ci := 11) (q0 := 0) rfl rfl) rfl hl.1 rfl (Nat.le_of_ble_eq_true rfl) dL_law_1007 ⟨Nat.le_of_ble_eq_true rfl, Nat.le_of_ble_eq_true rfl⟩) hP hD hS hA [0] [] rfl rfl (by decide) (by decide) (fun r W' H locs hw hP hD hS => ?_)
      obtain ⟨rfl, rfl⟩ := hw
      have hP : va_P g.1 vwCl [] H := hP
      have hD : va_D A [] := hD
      refine lv_icmp_eq (tgt := 1278) hx hb dL_law_1010 (by decide) (fun _ => ?_) (fun c370 => absurd (by decide) c370)
      refine lv_iinc (v := 6) (lv' := [(3, .int 6), (2, .ref q188), (1, .ref q1), (0, .ref b)]) hx hb dL_law_1278 hl (k := 0) rfl (by decide) (by decide) rfl (fun ls hl => ?_)
      refine lv_goto (tgt := 18) hx hb dL_law_1281 (by decide) ?_
      refine lv_iload_n hx hb dL_law_18 rfl (lv_at hl 0 rfl) ?_
      refine lv_aload_n hx hb dL_law_19 rfl (lv_at hl 3 rfl) ?_
      refine va_slen hx hb hX hbl hbA hS dL_law_20 ?_
      refine lv_tope (y := 6) (by decide) ?_
      refine lv_bipush (v := 6) hx hb dL_law_21 (by decide) ?_
      refine lv_isub hx hb dL_law_23 ?_
      refine lv_tope (y := 0) (by decide) ?_
      refine lv_icmp_gt (tgt := 1284) hx hb dL_law_24 (by decide) (fun _ => ?_) (fun c371 => absurd (by decide) c371)
      refine lv_iconst (v := 1) hx hb dL_law_1284 (by decide) ?_
      refine va_forget (fun q hq => hAl _ (hS.2.2 q hq)) ?_
      refine W.widen (k := 600000) (n := 7302250) (Nat.le_of_ble_eq_true rfl) (Nat.le_of_ble_eq_true rfl) ?_
      exact lw_ret hx hb hr hlocks dL_law_1285
    by_cases c372 : x256 = 33
    · refine lv_tableIn (off := 982) (tgt := 1015) hx hb dL_law_33 (by rw [c372]; decide) (by rw [c372]; decide) (by rw [c372]; decide) (by decide) ?_
      have hP : va_P g.1 vwCl [(q1, .inr (10, [.ref q2, .int 0, .ref q3, .ref q52, .ref q73, .ref q13, .ref q67, .ref q76, .ref q11, .ref q86, .ref q84, .ref q12, .ref q85, .int 0])), (q73, .inr (9, [.int 0, .int 0, .int 0, .int 0, .int 0, .ref q157, .ref q40, .ref q41, .ref q42, .ref q43, .ref q158, .ref q44, .ref q75, .ref q45, .ref q74, .ref q46, .ref q49])), (q188, .inr (11, fs203)), (q195, .inl (gI g, 2, .inl f210)), (q200, .inl (gI g, 2, .inl f215))] H := hP.sub [0, 72, 86, 93, 98] rfl
      have hD : va_D A [(q1, .inr (10, [.ref q2, .int 0, .ref q3, .ref q52, .ref q73, .ref q13, .ref q67, .ref q76, .ref q11, .ref q86, .ref q84, .ref q12, .ref q85, .int 0])), (q73, .inr (9, [.int 0, .int 0, .int 0, .int 0, .int 0, .ref q157, .ref q40, .ref q41, .ref q42, .ref q43, .ref q158, .ref q44, .ref q75, .ref q45, .ref q74, .ref q46, .ref q49])), (q188, .inr (11, fs203)), (q195, .inl (gI g, 2, .inl f210)), (q200, .inl (gI g, 2, .inl f215))] := hD.sub [0, 72, 86, 93, 98] (by decide) rfl
      refine lv_aload_n hx hb dL_law_1015 rfl (lv_at hl 2 rfl) ?_
      refine lv_aload_n hx hb dL_law_1016 rfl (lv_at hl 3 rfl) ?_
      refine lv_iload_n hx hb dL_law_1017 rfl (lv_at hl 0 rfl) ?_
      refine lv_iconst (v := 1) hx hb dL_law_1018 (by decide) ?_
      refine lv_iadd hx hb dL_law_1019 ?_
      refine lv_tope (y := 1) (by decide) ?_
      refine sc_ld hx hb hX hbl hbA hS 1 rfl (by decide) (by decide) dL_law_1020 ?_
      refine lv_aload_n hx hb dL_law_1021 rfl (lv_at hl 3 rfl) ?_
      refine lv_iload_n hx hb dL_law_1022 rfl (lv_at hl 0 rfl) ?_
      refine lv_iconst (v := 2) hx hb dL_law_1023 (by decide) ?_
      refine lv_iadd hx hb dL_law_1024 ?_
      refine lv_tope (y := 2) (by decide) ?_
      refine sc_ld hx hb hX hbl hbA hS 2 rfl (by decide) (by decide) dL_law_1025 ?_
      refine lv_aload_n hx hb dL_law_1026 rfl (lv_at hl 3 rfl) ?_
      refine lv_iload_n hx hb dL_law_1027 rfl (lv_at hl 0 rfl) ?_
      refine lv_iconst (v := 3) hx hb dL_law_1028 (by decide) ?_
      refine lv_iadd hx hb dL_law_1029 ?_
      refine lv_tope (y := 3) (by decide) ?_
      refine sc_ld hx hb hX hbl hbA hS 3 rfl (by decide) (by decide) dL_law_1030 ?_
      refine lv_if_eq (tgt := 1038) hx hb dL_law_1031 (by decide) (fun c373 => ?_) (fun c373 => ?_)
      · refine lv_iconst (v := 0) hx hb dL_law_1038 (by decide) ?_
        refine kI (wc := [(q1, .inr (10, [.ref q2, .int 0, .ref q3, .ref q52, .ref q73, .ref q13, .ref q67, .ref q76, .ref q11, .ref q86, .ref q84, .ref q12, .ref q85, .int 0])), (q73, .inr (9, [.int 0, .int 0, .int 0, .int 0, .int 0, .ref q157, .ref q40, .ref q41, .ref q42, .ref q43, .ref q158, .ref q44, .ref q75, .ref q45, .ref q74, .ref q46, .ref q49]))]) (wr := [(q188, .inr (11, fs203)), (q195, .inl (gI g, 2, .inl f210)), (q200, .inl (gI g, 2, .inl f215))]) (rV (As := [.int (xs 1), .int (xs 2), .int 0]) (rest := []) (meth2 := "") hcx (c_X10_seen H.size) (gdV q61_18 q61_19 q61_20 q1_2 q61_21) dvX10_seen ⟨Nat.le_of_ble_eq_true rfl, Nat.le_of_ble_eq_true rfl⟩ (hP.sub [0, 1] rfl) (hD.sub [0, 1] (by decide) rfl) (va_recv hK hP (ci := 10) (q0 := 0) rfl rfl) rfl hl.1 rfl (Nat.le_of_ble_eq_true rfl) dL_law_1039 ⟨Nat.le_of_ble_eq_true rfl, Nat.le_of_ble_eq_true rfl⟩) hP hD hS hA [0, 1] [2, 3, 4] rfl rfl (by decide) (by decide) (fun r W' H locs hw hP hD hS => ?_)
        obtain ⟨rfl, rfl⟩ := hw
        have hP : va_P g.1 vwCl [(q188, .inr (11, fs203)), (q195, .inl (gI g, 2, .inl f210)), (q200, .inl (gI g, 2, .inl f215))] H := hP
        have hD : va_D A [(q188, .inr (11, fs203)), (q195, .inl (gI g, 2, .inl f210)), (q200, .inl (gI g, 2, .inl f215))] := hD
        refine lv_aload_n hx hb dL_law_1042 rfl (lv_at hl 1 rfl) ?_
        refine lv_aload_n hx hb dL_law_1043 rfl (lv_at hl 3 rfl) ?_
        refine lv_iload_n hx hb dL_law_1044 rfl (lv_at hl 0 rfl) ?_
        refine lv_iconst (v := 1) hx hb dL_law_1045 (by decide) ?_
        refine lv_iadd hx hb dL_law_1046 ?_
        refine lv_tope (y := 1) (by decide) ?_
        refine sc_ld hx hb hX hbl hbA hS 1 rfl (by decide) (by decide) dL_law_1047 ?_
        refine lv_aload_n hx hb dL_law_1048 rfl (lv_at hl 3 rfl) ?_
        refine lv_iload_n hx hb dL_law_1049 rfl (lv_at hl 0 rfl) ?_
        refine lv_iconst (v := 2) hx hb dL_law_1050 (by decide) ?_
        refine lv_iadd hx hb dL_law_1051 ?_
        refine lv_tope (y := 2) (by decide) ?_
        refine sc_ld hx hb hX hbl hbA hS 2 rfl (by decide) (by decide) dL_law_1052 ?_
        refine lv_aload_n hx hb dL_law_1053 rfl (lv_at hl 3 rfl) ?_
        refine lv_iload_n hx hb dL_law_1054 rfl (lv_at hl 0 rfl) ?_
        refine lv_iconst (v := 3) hx hb dL_law_1055 (by decide) ?_
        refine lv_iadd hx hb dL_law_1056 ?_
        refine lv_tope (y := 3) (by decide) ?_
        refine sc_ld hx hb hX hbl hbA hS 3 rfl (by decide) (by decide) dL_law_1057 ?_
        refine lv_if_eq (tgt := 1065) hx hb dL_law_1058 (by decide) (fun _ => ?_) (fun c374 => absurd c373 c374)
        refine lv_iconst (v := 0) hx hb dL_law_1065 (by decide) ?_
        refine kI (wc := [(q188, .inr (11, fs203)), (q200, .inl (gI g, 2, .inl f215)), (q195, .inl (gI g, 2, .inl f210))]) (wr := []) (rV (As := [.int (xs 1), .int (xs 2), .int 0]) (rest := [.int (-1)]) (meth2 := "") hcx (c_X11_seen (hf218) (hf221) (hf220) (hf236) (hf250) (hf242) H.size) (gdV q62_3 q62_4 q62_5 q1_5 q62_6) dvX11_seen ⟨Nat.le_of_ble_eq_true rfl, Nat.le_of_ble_eq_true rfl⟩ (hP.sub [0, 2, 1] rfl) (hD.sub [0, 2, 1] (by decide) rfl) (va_recv hK hP (ci := 11) (q0 := 0) rfl rfl) rfl hl.1 rfl (Nat.le_of_ble_eq_true rfl) dL_law_1066 ⟨Nat.le_of_ble_eq_true rfl, Nat.le_of_ble_eq_true rfl⟩) hP hD hS hA [0, 2, 1] [] rfl rfl (by decide) (by decide) (fun r W' H locs hw hP hD hS => ?_)
        obtain ⟨rfl, rfl⟩ := hw
        have hP : va_P g.1 vwCl [] H := hP
        have hD : va_D A [] := hD
        refine lv_icmp_eq (tgt := 1278) hx hb dL_law_1069 (by decide) (fun _ => ?_) (fun c375 => absurd (by decide) c375)
        refine lv_iinc (v := 6) (lv' := [(3, .int 6), (2, .ref q188), (1, .ref q1), (0, .ref b)]) hx hb dL_law_1278 hl (k := 0) rfl (by decide) (by decide) rfl (fun ls hl => ?_)
        refine lv_goto (tgt := 18) hx hb dL_law_1281 (by decide) ?_
        refine lv_iload_n hx hb dL_law_18 rfl (lv_at hl 0 rfl) ?_
        refine lv_aload_n hx hb dL_law_19 rfl (lv_at hl 3 rfl) ?_
        refine va_slen hx hb hX hbl hbA hS dL_law_20 ?_
        refine lv_tope (y := 6) (by decide) ?_
        refine lv_bipush (v := 6) hx hb dL_law_21 (by decide) ?_
        refine lv_isub hx hb dL_law_23 ?_
        refine lv_tope (y := 0) (by decide) ?_
        refine lv_icmp_gt (tgt := 1284) hx hb dL_law_24 (by decide) (fun _ => ?_) (fun c376 => absurd (by decide) c376)
        refine lv_iconst (v := 1) hx hb dL_law_1284 (by decide) ?_
        refine va_forget (fun q hq => hAl _ (hS.2.2 q hq)) ?_
        refine W.widen (k := 600000) (n := 7302250) (Nat.le_of_ble_eq_true rfl) (Nat.le_of_ble_eq_true rfl) ?_
        exact lw_ret hx hb hr hlocks dL_law_1285
      · refine lv_iconst (v := 1) hx hb dL_law_1034 (by decide) ?_
        refine lv_goto (tgt := 1039) hx hb dL_law_1035 (by decide) ?_
        refine kI (wc := [(q1, .inr (10, [.ref q2, .int 0, .ref q3, .ref q52, .ref q73, .ref q13, .ref q67, .ref q76, .ref q11, .ref q86, .ref q84, .ref q12, .ref q85, .int 0])), (q73, .inr (9, [.int 0, .int 0, .int 0, .int 0, .int 0, .ref q157, .ref q40, .ref q41, .ref q42, .ref q43, .ref q158, .ref q44, .ref q75, .ref q45, .ref q74, .ref q46, .ref q49]))]) (wr := [(q188, .inr (11, fs203)), (q195, .inl (gI g, 2, .inl f210)), (q200, .inl (gI g, 2, .inl f215))]) (rV (As := [.int (xs 1), .int (xs 2), .int 1]) (rest := []) (meth2 := "") hcx (c_X10_seen H.size) (gdV q61_18 q61_19 q61_20 q1_2 q61_21) dvX10_seen ⟨Nat.le_of_ble_eq_true rfl, Nat.le_of_ble_eq_true rfl⟩ (hP.sub [0, 1] rfl) (hD.sub [0, 1] (by decide) rfl) (va_recv hK hP (ci := 10) (q0 := 0) rfl rfl) rfl hl.1 rfl (Nat.le_of_ble_eq_true rfl) dL_law_1039 ⟨Nat.le_of_ble_eq_true rfl, Nat.le_of_ble_eq_true rfl⟩) hP hD hS hA [0, 1] [2, 3, 4] rfl rfl (by decide) (by decide) (fun r W' H locs hw hP hD hS => ?_)
        obtain ⟨rfl, rfl⟩ := hw
        have hP : va_P g.1 vwCl [(q188, .inr (11, fs203)), (q195, .inl (gI g, 2, .inl f210)), (q200, .inl (gI g, 2, .inl f215))] H := hP
        have hD : va_D A [(q188, .inr (11, fs203)), (q195, .inl (gI g, 2, .inl f210)), (q200, .inl (gI g, 2, .inl f215))] := hD
        refine lv_aload_n hx hb dL_law_1042 rfl (lv_at hl 1 rfl) ?_
        refine lv_aload_n hx hb dL_law_1043 rfl (lv_at hl 3 rfl) ?_
        refine lv_iload_n hx hb dL_law_1044 rfl (lv_at hl 0 rfl) ?_
        refine lv_iconst (v := 1) hx hb dL_law_1045 (by decide) ?_
        refine lv_iadd hx hb dL_law_1046 ?_
        refine lv_tope (y := 1) (by decide) ?_
        refine sc_ld hx hb hX hbl hbA hS 1 rfl (by decide) (by decide) dL_law_1047 ?_
        refine lv_aload_n hx hb dL_law_1048 rfl (lv_at hl 3 rfl) ?_
        refine lv_iload_n hx hb dL_law_1049 rfl (lv_at hl 0 rfl) ?_
        refine lv_iconst (v := 2) hx hb dL_law_1050 (by decide) ?_
        refine lv_iadd hx hb dL_law_1051 ?_
        refine lv_tope (y := 2) (by decide) ?_
        refine sc_ld hx hb hX hbl hbA hS 2 rfl (by decide) (by decide) dL_law_1052 ?_
        refine lv_aload_n hx hb dL_law_1053 rfl (lv_at hl 3 rfl) ?_
        refine lv_iload_n hx hb dL_law_1054 rfl (lv_at hl 0 rfl) ?_
        refine lv_iconst (v := 3) hx hb dL_law_1055 (by decide) ?_
        refine lv_iadd hx hb dL_law_1056 ?_
        refine lv_tope (y := 3) (by decide) ?_
        refine sc_ld hx hb hX hbl hbA hS 3 rfl (by decide) (by decide) dL_law_1057 ?_
        refine lv_if_eq (tgt := 1065) hx hb dL_law_1058 (by decide) (fun c377 => absurd c377 c373) (fun _ => ?_)
        refine lv_iconst (v := 1) hx hb dL_law_1061 (by decide) ?_
        refine lv_goto (tgt := 1066) hx hb dL_law_1062 (by decide) ?_
        refine kI (wc := [(q188, .inr (11, fs203)), (q200, .inl (gI g, 2, .inl f215)), (q195, .inl (gI g, 2, .inl f210))]) (wr := []) (rV (As := [.int (xs 1), .int (xs 2), .int 1]) (rest := [.int (-1)]) (meth2 := "") hcx (c_X11_seen (hf218) (hf221) (hf220) (hf236) (hf250) (hf242) H.size) (gdV q62_3 q62_4 q62_5 q1_5 q62_6) dvX11_seen ⟨Nat.le_of_ble_eq_true rfl, Nat.le_of_ble_eq_true rfl⟩ (hP.sub [0, 2, 1] rfl) (hD.sub [0, 2, 1] (by decide) rfl) (va_recv hK hP (ci := 11) (q0 := 0) rfl rfl) rfl hl.1 rfl (Nat.le_of_ble_eq_true rfl) dL_law_1066 ⟨Nat.le_of_ble_eq_true rfl, Nat.le_of_ble_eq_true rfl⟩) hP hD hS hA [0, 2, 1] [] rfl rfl (by decide) (by decide) (fun r W' H locs hw hP hD hS => ?_)
        obtain ⟨rfl, rfl⟩ := hw
        have hP : va_P g.1 vwCl [] H := hP
        have hD : va_D A [] := hD
        refine lv_icmp_eq (tgt := 1278) hx hb dL_law_1069 (by decide) (fun _ => ?_) (fun c378 => absurd (by decide) c378)
        refine lv_iinc (v := 6) (lv' := [(3, .int 6), (2, .ref q188), (1, .ref q1), (0, .ref b)]) hx hb dL_law_1278 hl (k := 0) rfl (by decide) (by decide) rfl (fun ls hl => ?_)
        refine lv_goto (tgt := 18) hx hb dL_law_1281 (by decide) ?_
        refine lv_iload_n hx hb dL_law_18 rfl (lv_at hl 0 rfl) ?_
        refine lv_aload_n hx hb dL_law_19 rfl (lv_at hl 3 rfl) ?_
        refine va_slen hx hb hX hbl hbA hS dL_law_20 ?_
        refine lv_tope (y := 6) (by decide) ?_
        refine lv_bipush (v := 6) hx hb dL_law_21 (by decide) ?_
        refine lv_isub hx hb dL_law_23 ?_
        refine lv_tope (y := 0) (by decide) ?_
        refine lv_icmp_gt (tgt := 1284) hx hb dL_law_24 (by decide) (fun _ => ?_) (fun c379 => absurd (by decide) c379)
        refine lv_iconst (v := 1) hx hb dL_law_1284 (by decide) ?_
        refine va_forget (fun q hq => hAl _ (hS.2.2 q hq)) ?_
        refine W.widen (k := 600000) (n := 7302250) (Nat.le_of_ble_eq_true rfl) (Nat.le_of_ble_eq_true rfl) ?_
        exact lw_ret hx hb hr hlocks dL_law_1285
    by_cases c380 : x256 = 34
    · refine lv_tableIn (off := 1041) (tgt := 1074) hx hb dL_law_33 (by rw [c380]; decide) (by rw [c380]; decide) (by rw [c380]; decide) (by decide) ?_
      have hP : va_P g.1 vwCl [(q1, .inr (10, [.ref q2, .int 0, .ref q3, .ref q52, .ref q73, .ref q13, .ref q67, .ref q76, .ref q11, .ref q86, .ref q84, .ref q12, .ref q85, .int 0])), (q85, .inr (6, [.ref q13, .ref q169, .ref q170, .ref q171, .ref q172, .ref q173, .ref q174, .ref q175, .ref q176, .ref q177, .ref q178, .int 0, .int 0])), (q188, .inr (11, fs203))] H := hP.sub [0, 84, 86] rfl
      have hD : va_D A [(q1, .inr (10, [.ref q2, .int 0, .ref q3, .ref q52, .ref q73, .ref q13, .ref q67, .ref q76, .ref q11, .ref q86, .ref q84, .ref q12, .ref q85, .int 0])), (q85, .inr (6, [.ref q13, .ref q169, .ref q170, .ref q171, .ref q172, .ref q173, .ref q174, .ref q175, .ref q176, .ref q177, .ref q178, .int 0, .int 0])), (q188, .inr (11, fs203))] := hD.sub [0, 84, 86] (by decide) rfl
      refine lv_aload_n hx hb dL_law_1074 rfl (lv_at hl 2 rfl) ?_
      refine lv_aload_n hx hb dL_law_1075 rfl (lv_at hl 3 rfl) ?_
      refine lv_iload_n hx hb dL_law_1076 rfl (lv_at hl 0 rfl) ?_
      refine lv_iconst (v := 1) hx hb dL_law_1077 (by decide) ?_
      refine lv_iadd hx hb dL_law_1078 ?_
      refine lv_tope (y := 1) (by decide) ?_
      refine sc_ld hx hb hX hbl hbA hS 1 rfl (by decide) (by decide) dL_law_1079 ?_
      refine kI (wc := [(q1, .inr (10, [.ref q2, .int 0, .ref q3, .ref q52, .ref q73, .ref q13, .ref q67, .ref q76, .ref q11, .ref q86, .ref q84, .ref q12, .ref q85, .int 0])), (q85, .inr (6, [.ref q13, .ref q169, .ref q170, .ref q171, .ref q172, .ref q173, .ref q174, .ref q175, .ref q176, .ref q177, .ref q178, .int 0, .int 0]))]) (wr := [(q188, .inr (11, fs203))]) (rV (As := [.int (xs 1)]) (rest := []) (meth2 := "") hcx (c_X10_untell H.size) (gdV q62_8 q62_9 q62_10 q1_2 q62_11) dvX10_untell ⟨Nat.le_of_ble_eq_true rfl, Nat.le_of_ble_eq_true rfl⟩ (hP.sub [0, 1] rfl) (hD.sub [0, 1] (by decide) rfl) (va_recv hK hP (ci := 10) (q0 := 0) rfl rfl) rfl hl.1 rfl (Nat.le_of_ble_eq_true rfl) dL_law_1080 ⟨Nat.le_of_ble_eq_true rfl, Nat.le_of_ble_eq_true rfl⟩) hP hD hS hA [0, 1] [2] rfl rfl (by decide) (by decide) (fun r W' H locs hw hP hD hS => ?_)
      obtain ⟨rfl, rfl⟩ := hw
      have hP : va_P g.1 vwCl [(q188, .inr (11, fs203))] H := hP
      have hD : va_D A [(q188, .inr (11, fs203))] := hD
      refine lv_aload_n hx hb dL_law_1083 rfl (lv_at hl 1 rfl) ?_
      refine lv_aload_n hx hb dL_law_1084 rfl (lv_at hl 3 rfl) ?_
      refine lv_iload_n hx hb dL_law_1085 rfl (lv_at hl 0 rfl) ?_
      refine lv_iconst (v := 1) hx hb dL_law_1086 (by decide) ?_
      refine lv_iadd hx hb dL_law_1087 ?_
      refine lv_tope (y := 1) (by decide) ?_
      refine sc_ld hx hb hX hbl hbA hS 1 rfl (by decide) (by decide) dL_law_1088 ?_
      refine kI (wc := [(q188, .inr (11, fs203))]) (wr := []) (rV (As := [.int (xs 1)]) (rest := [.int 0]) (meth2 := "") hcx (c_X11_untell (hf218) (hf240) H.size) (gdV q62_16 q62_17 q62_18 q1_5 q62_19) dvX11_untell ⟨Nat.le_of_ble_eq_true rfl, Nat.le_of_ble_eq_true rfl⟩ (hP.sub [0] rfl) (hD.sub [0] (by decide) rfl) (va_recv hK hP (ci := 11) (q0 := 0) rfl rfl) rfl hl.1 rfl (Nat.le_of_ble_eq_true rfl) dL_law_1089 ⟨Nat.le_of_ble_eq_true rfl, Nat.le_of_ble_eq_true rfl⟩) hP hD hS hA [0] [] rfl rfl (by decide) (by decide) (fun r W' H locs hw hP hD hS => ?_)
      obtain ⟨rfl, rfl⟩ := hw
      have hP : va_P g.1 vwCl [] H := hP
      have hD : va_D A [] := hD
      refine lv_icmp_eq (tgt := 1278) hx hb dL_law_1092 (by decide) (fun _ => ?_) (fun c381 => absurd (by decide) c381)
      refine lv_iinc (v := 6) (lv' := [(3, .int 6), (2, .ref q188), (1, .ref q1), (0, .ref b)]) hx hb dL_law_1278 hl (k := 0) rfl (by decide) (by decide) rfl (fun ls hl => ?_)
      refine lv_goto (tgt := 18) hx hb dL_law_1281 (by decide) ?_
      refine lv_iload_n hx hb dL_law_18 rfl (lv_at hl 0 rfl) ?_
      refine lv_aload_n hx hb dL_law_19 rfl (lv_at hl 3 rfl) ?_
      refine va_slen hx hb hX hbl hbA hS dL_law_20 ?_
      refine lv_tope (y := 6) (by decide) ?_
      refine lv_bipush (v := 6) hx hb dL_law_21 (by decide) ?_
      refine lv_isub hx hb dL_law_23 ?_
      refine lv_tope (y := 0) (by decide) ?_
      refine lv_icmp_gt (tgt := 1284) hx hb dL_law_24 (by decide) (fun _ => ?_) (fun c382 => absurd (by decide) c382)
      refine lv_iconst (v := 1) hx hb dL_law_1284 (by decide) ?_
      refine va_forget (fun q hq => hAl _ (hS.2.2 q hq)) ?_
      refine W.widen (k := 600000) (n := 7302250) (Nat.le_of_ble_eq_true rfl) (Nat.le_of_ble_eq_true rfl) ?_
      exact lw_ret hx hb hr hlocks dL_law_1285
    by_cases c383 : x256 = 35
    · refine lv_tableIn (off := 1064) (tgt := 1097) hx hb dL_law_33 (by rw [c383]; decide) (by rw [c383]; decide) (by rw [c383]; decide) (by decide) ?_
      have hP : va_P g.1 vwCl [(q1, .inr (10, [.ref q2, .int 0, .ref q3, .ref q52, .ref q73, .ref q13, .ref q67, .ref q76, .ref q11, .ref q86, .ref q84, .ref q12, .ref q85, .int 0])), (q188, .inr (11, fs203))] H := hP.sub [0, 86] rfl
      have hD : va_D A [(q1, .inr (10, [.ref q2, .int 0, .ref q3, .ref q52, .ref q73, .ref q13, .ref q67, .ref q76, .ref q11, .ref q86, .ref q84, .ref q12, .ref q85, .int 0])), (q188, .inr (11, fs203))] := hD.sub [0, 86] (by decide) rfl
      refine lv_aload_n hx hb dL_law_1097 rfl (lv_at hl 2 rfl) ?_
      refine lv_aload_n hx hb dL_law_1098 rfl (lv_at hl 3 rfl) ?_
      refine lv_iload_n hx hb dL_law_1099 rfl (lv_at hl 0 rfl) ?_
      refine lv_iconst (v := 1) hx hb dL_law_1100 (by decide) ?_
      refine lv_iadd hx hb dL_law_1101 ?_
      refine lv_tope (y := 1) (by decide) ?_
      refine sc_ld hx hb hX hbl hbA hS 1 rfl (by decide) (by decide) dL_law_1102 ?_
      refine kI (wc := [(q1, .inr (10, [.ref q2, .int 0, .ref q3, .ref q52, .ref q73, .ref q13, .ref q67, .ref q76, .ref q11, .ref q86, .ref q84, .ref q12, .ref q85, .int 0]))]) (wr := [(q188, .inr (11, fs203))]) (rV (As := [.int (xs 1)]) (rest := []) (meth2 := "") hcx (c_X10_later H.size) (gdV q62_20 q62_21 q62_22 q1_2 q62_23) dvX10_later ⟨Nat.le_of_ble_eq_true rfl, Nat.le_of_ble_eq_true rfl⟩ (hP.sub [0] rfl) (hD.sub [0] (by decide) rfl) (va_recv hK hP (ci := 10) (q0 := 0) rfl rfl) rfl hl.1 rfl (Nat.le_of_ble_eq_true rfl) dL_law_1103 ⟨Nat.le_of_ble_eq_true rfl, Nat.le_of_ble_eq_true rfl⟩) hP hD hS hA [0] [1] rfl rfl (by decide) (by decide) (fun r384 W' H locs hw hP hD hS => ?_)
      obtain ⟨hr385, rfl⟩ := hw
      have hP : va_P g.1 vwCl [(q188, .inr (11, fs203))] H := hP
      have hD : va_D A [(q188, .inr (11, fs203))] := hD
      refine lv_aload_n hx hb dL_law_1106 rfl (lv_at hl 1 rfl) ?_
      refine lv_aload_n hx hb dL_law_1107 rfl (lv_at hl 3 rfl) ?_
      refine lv_iload_n hx hb dL_law_1108 rfl (lv_at hl 0 rfl) ?_
      refine lv_iconst (v := 1) hx hb dL_law_1109 (by decide) ?_
      refine lv_iadd hx hb dL_law_1110 ?_
      refine lv_tope (y := 1) (by decide) ?_
      refine sc_ld hx hb hX hbl hbA hS 1 rfl (by decide) (by decide) dL_law_1111 ?_
      refine kI (wc := [(q188, .inr (11, fs203))]) (wr := []) (rV (As := [.int (xs 1)]) (rest := [.int r384]) (meth2 := "") hcx (c_X11_later (hf218) (hf241) H.size) (gdV q63_1 q63_2 q63_3 q1_5 q63_4) dvX11_later ⟨Nat.le_of_ble_eq_true rfl, Nat.le_of_ble_eq_true rfl⟩ (hP.sub [0] rfl) (hD.sub [0] (by decide) rfl) (va_recv hK hP (ci := 11) (q0 := 0) rfl rfl) rfl hl.1 rfl (Nat.le_of_ble_eq_true rfl) dL_law_1112 ⟨Nat.le_of_ble_eq_true rfl, Nat.le_of_ble_eq_true rfl⟩) hP hD hS hA [0] [] rfl rfl (by decide) (by decide) (fun r386 W' H locs hw hP hD hS => ?_)
      obtain ⟨hr387, rfl⟩ := hw
      have hP : va_P g.1 vwCl [] H := hP
      have hD : va_D A [] := hD
      refine lv_icmp_eq (tgt := 1278) hx hb dL_law_1115 (by decide) (fun _ => ?_) (fun c388 => absurd (hr385.trans hr387.symm) c388)
      refine lv_iinc (v := 6) (lv' := [(3, .int 6), (2, .ref q188), (1, .ref q1), (0, .ref b)]) hx hb dL_law_1278 hl (k := 0) rfl (by decide) (by decide) rfl (fun ls hl => ?_)
      refine lv_goto (tgt := 18) hx hb dL_law_1281 (by decide) ?_
      refine lv_iload_n hx hb dL_law_18 rfl (lv_at hl 0 rfl) ?_
      refine lv_aload_n hx hb dL_law_19 rfl (lv_at hl 3 rfl) ?_
      refine va_slen hx hb hX hbl hbA hS dL_law_20 ?_
      refine lv_tope (y := 6) (by decide) ?_
      refine lv_bipush (v := 6) hx hb dL_law_21 (by decide) ?_
      refine lv_isub hx hb dL_law_23 ?_
      refine lv_tope (y := 0) (by decide) ?_
      refine lv_icmp_gt (tgt := 1284) hx hb dL_law_24 (by decide) (fun _ => ?_) (fun c389 => absurd (by decide) c389)
      refine lv_iconst (v := 1) hx hb dL_law_1284 (by decide) ?_
      refine va_forget (fun q hq => hAl _ (hS.2.2 q hq)) ?_
      refine W.widen (k := 600000) (n := 7302250) (Nat.le_of_ble_eq_true rfl) (Nat.le_of_ble_eq_true rfl) ?_
      exact lw_ret hx hb hr hlocks dL_law_1285
    by_cases c390 : x256 = 36
    · refine lv_tableIn (off := 1087) (tgt := 1120) hx hb dL_law_33 (by rw [c390]; decide) (by rw [c390]; decide) (by rw [c390]; decide) (by decide) ?_
      have hP : va_P g.1 vwCl [(q1, .inr (10, [.ref q2, .int 0, .ref q3, .ref q52, .ref q73, .ref q13, .ref q67, .ref q76, .ref q11, .ref q86, .ref q84, .ref q12, .ref q85, .int 0])), (q13, .inr (0, [.ref q73, .ref q100, .int 0, .int 0])), (q73, .inr (9, [.int 0, .int 0, .int 0, .int 0, .int 0, .ref q157, .ref q40, .ref q41, .ref q42, .ref q43, .ref q158, .ref q44, .ref q75, .ref q45, .ref q74, .ref q46, .ref q49])), (q85, .inr (6, [.ref q13, .ref q169, .ref q170, .ref q171, .ref q172, .ref q173, .ref q174, .ref q175, .ref q176, .ref q177, .ref q178, .int 0, .int 0])), (q188, .inr (11, fs203)), (q200, .inl (gI g, 2, .inl f215))] H := hP.sub [0, 12, 72, 84, 86, 98] rfl
      have hD : va_D A [(q1, .inr (10, [.ref q2, .int 0, .ref q3, .ref q52, .ref q73, .ref q13, .ref q67, .ref q76, .ref q11, .ref q86, .ref q84, .ref q12, .ref q85, .int 0])), (q13, .inr (0, [.ref q73, .ref q100, .int 0, .int 0])), (q73, .inr (9, [.int 0, .int 0, .int 0, .int 0, .int 0, .ref q157, .ref q40, .ref q41, .ref q42, .ref q43, .ref q158, .ref q44, .ref q75, .ref q45, .ref q74, .ref q46, .ref q49])), (q85, .inr (6, [.ref q13, .ref q169, .ref q170, .ref q171, .ref q172, .ref q173, .ref q174, .ref q175, .ref q176, .ref q177, .ref q178, .int 0, .int 0])), (q188, .inr (11, fs203)), (q200, .inl (gI g, 2, .inl f215))] := hD.sub [0, 12, 72, 84, 86, 98] (by decide) rfl
      refine lv_aload_n hx hb dL_law_1120 rfl (lv_at hl 2 rfl) ?_
      refine lv_aload_n hx hb dL_law_1121 rfl (lv_at hl 3 rfl) ?_
      refine lv_iload_n hx hb dL_law_1122 rfl (lv_at hl 0 rfl) ?_
      refine lv_iconst (v := 1) hx hb dL_law_1123 (by decide) ?_
      refine lv_iadd hx hb dL_law_1124 ?_
      refine lv_tope (y := 1) (by decide) ?_
      refine sc_ld hx hb hX hbl hbA hS 1 rfl (by decide) (by decide) dL_law_1125 ?_
      refine kI (wc := [(q1, .inr (10, [.ref q2, .int 0, .ref q3, .ref q52, .ref q73, .ref q13, .ref q67, .ref q76, .ref q11, .ref q86, .ref q84, .ref q12, .ref q85, .int 0])), (q85, .inr (6, [.ref q13, .ref q169, .ref q170, .ref q171, .ref q172, .ref q173, .ref q174, .ref q175, .ref q176, .ref q177, .ref q178, .int 0, .int 0])), (q13, .inr (0, [.ref q73, .ref q100, .int 0, .int 0])), (q73, .inr (9, [.int 0, .int 0, .int 0, .int 0, .int 0, .ref q157, .ref q40, .ref q41, .ref q42, .ref q43, .ref q158, .ref q44, .ref q75, .ref q45, .ref q74, .ref q46, .ref q49]))]) (wr := [(q188, .inr (11, fs203)), (q200, .inl (gI g, 2, .inl f215))]) (rV (As := [.int (xs 1)]) (rest := []) (meth2 := "") hcx (c_X10_fits H.size) (gdV q63_6 q63_7 q63_8 q1_2 q63_9) dvX10_fits ⟨Nat.le_of_ble_eq_true rfl, Nat.le_of_ble_eq_true rfl⟩ (hP.sub [0, 3, 1, 2] rfl) (hD.sub [0, 3, 1, 2] (by decide) rfl) (va_recv hK hP (ci := 10) (q0 := 0) rfl rfl) rfl hl.1 rfl (Nat.le_of_ble_eq_true rfl) dL_law_1126 ⟨Nat.le_of_ble_eq_true rfl, Nat.le_of_ble_eq_true rfl⟩) hP hD hS hA [0, 3, 1, 2] [4, 5] rfl rfl (by decide) (by decide) (fun r W' H locs hw hP hD hS => ?_)
      obtain ⟨rfl, rfl⟩ := hw
      have hP : va_P g.1 vwCl [(q188, .inr (11, fs203)), (q200, .inl (gI g, 2, .inl f215))] H := hP
      have hD : va_D A [(q188, .inr (11, fs203)), (q200, .inl (gI g, 2, .inl f215))] := hD
      refine lv_aload_n hx hb dL_law_1129 rfl (lv_at hl 1 rfl) ?_
      refine lv_aload_n hx hb dL_law_1130 rfl (lv_at hl 3 rfl) ?_
      refine lv_iload_n hx hb dL_law_1131 rfl (lv_at hl 0 rfl) ?_
      refine lv_iconst (v := 1) hx hb dL_law_1132 (by decide) ?_
      refine lv_iadd hx hb dL_law_1133 ?_
      refine lv_tope (y := 1) (by decide) ?_
      refine sc_ld hx hb hX hbl hbA hS 1 rfl (by decide) (by decide) dL_law_1134 ?_
      refine kI (wc := [(q188, .inr (11, fs203)), (q200, .inl (gI g, 2, .inl f215))]) (wr := []) (rV (As := [.int (xs 1)]) (rest := [.int 0]) (meth2 := "") hcx (c_X11_fits (hf218) (hf221) (hf236) (hf250) H.size) (gdV q64_5 q64_6 q64_7 q1_5 q64_8) dvX11_fits ⟨Nat.le_of_ble_eq_true rfl, Nat.le_of_ble_eq_true rfl⟩ (hP.sub [0, 1] rfl) (hD.sub [0, 1] (by decide) rfl) (va_recv hK hP (ci := 11) (q0 := 0) rfl rfl) rfl hl.1 rfl (Nat.le_of_ble_eq_true rfl) dL_law_1135 ⟨Nat.le_of_ble_eq_true rfl, Nat.le_of_ble_eq_true rfl⟩) hP hD hS hA [0, 1] [] rfl rfl (by decide) (by decide) (fun r W' H locs hw hP hD hS => ?_)
      obtain ⟨rfl, rfl⟩ := hw
      have hP : va_P g.1 vwCl [(q188, .inr (11, fs203)), (q200, .inl (gI g, 2, .inl f215))] H := hP
      have hD : va_D A [(q188, .inr (11, fs203)), (q200, .inl (gI g, 2, .inl f215))] := hD
      refine lv_icmp_eq (tgt := 1278) hx hb dL_law_1138 (by decide) (fun _ => ?_) (fun c391 => absurd (by decide) c391)
      refine lv_iinc (v := 6) (lv' := [(3, .int 6), (2, .ref q188), (1, .ref q1), (0, .ref b)]) hx hb dL_law_1278 hl (k := 0) rfl (by decide) (by decide) rfl (fun ls hl => ?_)
      refine lv_goto (tgt := 18) hx hb dL_law_1281 (by decide) ?_
      refine lv_iload_n hx hb dL_law_18 rfl (lv_at hl 0 rfl) ?_
      refine lv_aload_n hx hb dL_law_19 rfl (lv_at hl 3 rfl) ?_
      refine va_slen hx hb hX hbl hbA hS dL_law_20 ?_
      refine lv_tope (y := 6) (by decide) ?_
      refine lv_bipush (v := 6) hx hb dL_law_21 (by decide) ?_
      refine lv_isub hx hb dL_law_23 ?_
      refine lv_tope (y := 0) (by decide) ?_
      refine lv_icmp_gt (tgt := 1284) hx hb dL_law_24 (by decide) (fun _ => ?_) (fun c392 => absurd (by decide) c392)
      refine lv_iconst (v := 1) hx hb dL_law_1284 (by decide) ?_
      refine va_forget (fun q hq => hAl _ (hS.2.2 q hq)) ?_
      refine W.widen (k := 600000) (n := 7302250) (Nat.le_of_ble_eq_true rfl) (Nat.le_of_ble_eq_true rfl) ?_
      exact lw_ret hx hb hr hlocks dL_law_1285
    by_cases c393 : x256 = 37
    · refine lv_tableIn (off := 1110) (tgt := 1143) hx hb dL_law_33 (by rw [c393]; decide) (by rw [c393]; decide) (by rw [c393]; decide) (by decide) ?_
      have hP : va_P g.1 vwCl [(q1, .inr (10, [.ref q2, .int 0, .ref q3, .ref q52, .ref q73, .ref q13, .ref q67, .ref q76, .ref q11, .ref q86, .ref q84, .ref q12, .ref q85, .int 0])), (q13, .inr (0, [.ref q73, .ref q100, .int 0, .int 0])), (q73, .inr (9, [.int 0, .int 0, .int 0, .int 0, .int 0, .ref q157, .ref q40, .ref q41, .ref q42, .ref q43, .ref q158, .ref q44, .ref q75, .ref q45, .ref q74, .ref q46, .ref q49])), (q85, .inr (6, [.ref q13, .ref q169, .ref q170, .ref q171, .ref q172, .ref q173, .ref q174, .ref q175, .ref q176, .ref q177, .ref q178, .int 0, .int 0])), (q188, .inr (11, fs203)), (q200, .inl (gI g, 2, .inl f215))] H := hP.sub [0, 12, 72, 84, 86, 98] rfl
      have hD : va_D A [(q1, .inr (10, [.ref q2, .int 0, .ref q3, .ref q52, .ref q73, .ref q13, .ref q67, .ref q76, .ref q11, .ref q86, .ref q84, .ref q12, .ref q85, .int 0])), (q13, .inr (0, [.ref q73, .ref q100, .int 0, .int 0])), (q73, .inr (9, [.int 0, .int 0, .int 0, .int 0, .int 0, .ref q157, .ref q40, .ref q41, .ref q42, .ref q43, .ref q158, .ref q44, .ref q75, .ref q45, .ref q74, .ref q46, .ref q49])), (q85, .inr (6, [.ref q13, .ref q169, .ref q170, .ref q171, .ref q172, .ref q173, .ref q174, .ref q175, .ref q176, .ref q177, .ref q178, .int 0, .int 0])), (q188, .inr (11, fs203)), (q200, .inl (gI g, 2, .inl f215))] := hD.sub [0, 12, 72, 84, 86, 98] (by decide) rfl
      refine lv_aload_n hx hb dL_law_1143 rfl (lv_at hl 2 rfl) ?_
      refine lv_aload_n hx hb dL_law_1144 rfl (lv_at hl 3 rfl) ?_
      refine lv_iload_n hx hb dL_law_1145 rfl (lv_at hl 0 rfl) ?_
      refine lv_iconst (v := 1) hx hb dL_law_1146 (by decide) ?_
      refine lv_iadd hx hb dL_law_1147 ?_
      refine lv_tope (y := 1) (by decide) ?_
      refine sc_ld hx hb hX hbl hbA hS 1 rfl (by decide) (by decide) dL_law_1148 ?_
      refine lv_aload_n hx hb dL_law_1149 rfl (lv_at hl 3 rfl) ?_
      refine lv_iload_n hx hb dL_law_1150 rfl (lv_at hl 0 rfl) ?_
      refine lv_iconst (v := 2) hx hb dL_law_1151 (by decide) ?_
      refine lv_iadd hx hb dL_law_1152 ?_
      refine lv_tope (y := 2) (by decide) ?_
      refine sc_ld hx hb hX hbl hbA hS 2 rfl (by decide) (by decide) dL_law_1153 ?_
      refine kI (wc := [(q1, .inr (10, [.ref q2, .int 0, .ref q3, .ref q52, .ref q73, .ref q13, .ref q67, .ref q76, .ref q11, .ref q86, .ref q84, .ref q12, .ref q85, .int 0])), (q85, .inr (6, [.ref q13, .ref q169, .ref q170, .ref q171, .ref q172, .ref q173, .ref q174, .ref q175, .ref q176, .ref q177, .ref q178, .int 0, .int 0])), (q13, .inr (0, [.ref q73, .ref q100, .int 0, .int 0])), (q73, .inr (9, [.int 0, .int 0, .int 0, .int 0, .int 0, .ref q157, .ref q40, .ref q41, .ref q42, .ref q43, .ref q158, .ref q44, .ref q75, .ref q45, .ref q74, .ref q46, .ref q49]))]) (wr := [(q188, .inr (11, fs203)), (q200, .inl (gI g, 2, .inl f215))]) (rV (As := [.int (xs 1), .int (xs 2)]) (rest := []) (meth2 := "") hcx (c_X10_sure H.size) (gdV q64_21 q64_22 q64_23 q1_2 q65_0) dvX10_sure ⟨Nat.le_of_ble_eq_true rfl, Nat.le_of_ble_eq_true rfl⟩ (hP.sub [0, 3, 1, 2] rfl) (hD.sub [0, 3, 1, 2] (by decide) rfl) (va_recv hK hP (ci := 10) (q0 := 0) rfl rfl) rfl hl.1 rfl (Nat.le_of_ble_eq_true rfl) dL_law_1154 ⟨Nat.le_of_ble_eq_true rfl, Nat.le_of_ble_eq_true rfl⟩) hP hD hS hA [0, 3, 1, 2] [4, 5] rfl rfl (by decide) (by decide) (fun r W' H locs hw hP hD hS => ?_)
      obtain ⟨rfl, rfl⟩ := hw
      have hP : va_P g.1 vwCl [(q188, .inr (11, fs203)), (q200, .inl (gI g, 2, .inl f215))] H := hP
      have hD : va_D A [(q188, .inr (11, fs203)), (q200, .inl (gI g, 2, .inl f215))] := hD
      refine lv_aload_n hx hb dL_law_1157 rfl (lv_at hl 1 rfl) ?_
      refine lv_aload_n hx hb dL_law_1158 rfl (lv_at hl 3 rfl) ?_
      refine lv_iload_n hx hb dL_law_1159 rfl (lv_at hl 0 rfl) ?_
      refine lv_iconst (v := 1) hx hb dL_law_1160 (by decide) ?_
      refine lv_iadd hx hb dL_law_1161 ?_
      refine lv_tope (y := 1) (by decide) ?_
      refine sc_ld hx hb hX hbl hbA hS 1 rfl (by decide) (by decide) dL_law_1162 ?_
      refine lv_aload_n hx hb dL_law_1163 rfl (lv_at hl 3 rfl) ?_
      refine lv_iload_n hx hb dL_law_1164 rfl (lv_at hl 0 rfl) ?_
      refine lv_iconst (v := 2) hx hb dL_law_1165 (by decide) ?_
      refine lv_iadd hx hb dL_law_1166 ?_
      refine lv_tope (y := 2) (by decide) ?_
      refine sc_ld hx hb hX hbl hbA hS 2 rfl (by decide) (by decide) dL_law_1167 ?_
      refine kI (wc := [(q188, .inr (11, fs203)), (q200, .inl (gI g, 2, .inl f215))]) (wr := []) (rV (As := [.int (xs 1), .int (xs 2)]) (rest := [.int (-1)]) (meth2 := "") hcx (c_X11_sure (hf218) (hf221) (hf236) (hf250) H.size) (gdV q65_10 q65_11 q65_12 q1_5 q65_13) dvX11_sure ⟨Nat.le_of_ble_eq_true rfl, Nat.le_of_ble_eq_true rfl⟩ (hP.sub [0, 1] rfl) (hD.sub [0, 1] (by decide) rfl) (va_recv hK hP (ci := 11) (q0 := 0) rfl rfl) rfl hl.1 rfl (Nat.le_of_ble_eq_true rfl) dL_law_1168 ⟨Nat.le_of_ble_eq_true rfl, Nat.le_of_ble_eq_true rfl⟩) hP hD hS hA [0, 1] [] rfl rfl (by decide) (by decide) (fun r W' H locs hw hP hD hS => ?_)
      obtain ⟨rfl, rfl⟩ := hw
      have hP : va_P g.1 vwCl [] H := hP
      have hD : va_D A [] := hD
      refine lv_icmp_eq (tgt := 1278) hx hb dL_law_1171 (by decide) (fun _ => ?_) (fun c394 => absurd (by decide) c394)
      refine lv_iinc (v := 6) (lv' := [(3, .int 6), (2, .ref q188), (1, .ref q1), (0, .ref b)]) hx hb dL_law_1278 hl (k := 0) rfl (by decide) (by decide) rfl (fun ls hl => ?_)
      refine lv_goto (tgt := 18) hx hb dL_law_1281 (by decide) ?_
      refine lv_iload_n hx hb dL_law_18 rfl (lv_at hl 0 rfl) ?_
      refine lv_aload_n hx hb dL_law_19 rfl (lv_at hl 3 rfl) ?_
      refine va_slen hx hb hX hbl hbA hS dL_law_20 ?_
      refine lv_tope (y := 6) (by decide) ?_
      refine lv_bipush (v := 6) hx hb dL_law_21 (by decide) ?_
      refine lv_isub hx hb dL_law_23 ?_
      refine lv_tope (y := 0) (by decide) ?_
      refine lv_icmp_gt (tgt := 1284) hx hb dL_law_24 (by decide) (fun _ => ?_) (fun c395 => absurd (by decide) c395)
      refine lv_iconst (v := 1) hx hb dL_law_1284 (by decide) ?_
      refine va_forget (fun q hq => hAl _ (hS.2.2 q hq)) ?_
      refine W.widen (k := 600000) (n := 7302250) (Nat.le_of_ble_eq_true rfl) (Nat.le_of_ble_eq_true rfl) ?_
      exact lw_ret hx hb hr hlocks dL_law_1285
    by_cases c396 : x256 = 38
    · refine lv_tableIn (off := 1143) (tgt := 1176) hx hb dL_law_33 (by rw [c396]; decide) (by rw [c396]; decide) (by rw [c396]; decide) (by decide) ?_
      have hP : va_P g.1 vwCl [(q1, .inr (10, [.ref q2, .int 0, .ref q3, .ref q52, .ref q73, .ref q13, .ref q67, .ref q76, .ref q11, .ref q86, .ref q84, .ref q12, .ref q85, .int 0])), (q13, .inr (0, [.ref q73, .ref q100, .int 0, .int 0])), (q73, .inr (9, [.int 0, .int 0, .int 0, .int 0, .int 0, .ref q157, .ref q40, .ref q41, .ref q42, .ref q43, .ref q158, .ref q44, .ref q75, .ref q45, .ref q74, .ref q46, .ref q49])), (q85, .inr (6, [.ref q13, .ref q169, .ref q170, .ref q171, .ref q172, .ref q173, .ref q174, .ref q175, .ref q176, .ref q177, .ref q178, .int 0, .int 0])), (q188, .inr (11, fs203)), (q200, .inl (gI g, 2, .inl f215))] H := hP.sub [0, 12, 72, 84, 86, 98] rfl
      have hD : va_D A [(q1, .inr (10, [.ref q2, .int 0, .ref q3, .ref q52, .ref q73, .ref q13, .ref q67, .ref q76, .ref q11, .ref q86, .ref q84, .ref q12, .ref q85, .int 0])), (q13, .inr (0, [.ref q73, .ref q100, .int 0, .int 0])), (q73, .inr (9, [.int 0, .int 0, .int 0, .int 0, .int 0, .ref q157, .ref q40, .ref q41, .ref q42, .ref q43, .ref q158, .ref q44, .ref q75, .ref q45, .ref q74, .ref q46, .ref q49])), (q85, .inr (6, [.ref q13, .ref q169, .ref q170, .ref q171, .ref q172, .ref q173, .ref q174, .ref q175, .ref q176, .ref q177, .ref q178, .int 0, .int 0])), (q188, .inr (11, fs203)), (q200, .inl (gI g, 2, .inl f215))] := hD.sub [0, 12, 72, 84, 86, 98] (by decide) rfl
      refine lv_aload_n hx hb dL_law_1176 rfl (lv_at hl 2 rfl) ?_
      refine lv_aload_n hx hb dL_law_1177 rfl (lv_at hl 3 rfl) ?_
      refine lv_iload_n hx hb dL_law_1178 rfl (lv_at hl 0 rfl) ?_
      refine lv_iconst (v := 1) hx hb dL_law_1179 (by decide) ?_
      refine lv_iadd hx hb dL_law_1180 ?_
      refine lv_tope (y := 1) (by decide) ?_
      refine sc_ld hx hb hX hbl hbA hS 1 rfl (by decide) (by decide) dL_law_1181 ?_
      refine lv_aload_n hx hb dL_law_1182 rfl (lv_at hl 3 rfl) ?_
      refine lv_iload_n hx hb dL_law_1183 rfl (lv_at hl 0 rfl) ?_
      refine lv_iconst (v := 2) hx hb dL_law_1184 (by decide) ?_
      refine lv_iadd hx hb dL_law_1185 ?_
      refine lv_tope (y := 2) (by decide) ?_
      refine sc_ld hx hb hX hbl hbA hS 2 rfl (by decide) (by decide) dL_law_1186 ?_
      refine kI (wc := [(q1, .inr (10, [.ref q2, .int 0, .ref q3, .ref q52, .ref q73, .ref q13, .ref q67, .ref q76, .ref q11, .ref q86, .ref q84, .ref q12, .ref q85, .int 0])), (q85, .inr (6, [.ref q13, .ref q169, .ref q170, .ref q171, .ref q172, .ref q173, .ref q174, .ref q175, .ref q176, .ref q177, .ref q178, .int 0, .int 0])), (q13, .inr (0, [.ref q73, .ref q100, .int 0, .int 0])), (q73, .inr (9, [.int 0, .int 0, .int 0, .int 0, .int 0, .ref q157, .ref q40, .ref q41, .ref q42, .ref q43, .ref q158, .ref q44, .ref q75, .ref q45, .ref q74, .ref q46, .ref q49]))]) (wr := [(q188, .inr (11, fs203)), (q200, .inl (gI g, 2, .inl f215))]) (rV (As := [.int (xs 1), .int (xs 2)]) (rest := []) (meth2 := "") hcx (c_X10_ask H.size) (gdV q65_15 q65_16 q65_17 q1_2 q65_18) dvX10_ask ⟨Nat.le_of_ble_eq_true rfl, Nat.le_of_ble_eq_true rfl⟩ (hP.sub [0, 3, 1, 2] rfl) (hD.sub [0, 3, 1, 2] (by decide) rfl) (va_recv hK hP (ci := 10) (q0 := 0) rfl rfl) rfl hl.1 rfl (Nat.le_of_ble_eq_true rfl) dL_law_1187 ⟨Nat.le_of_ble_eq_true rfl, Nat.le_of_ble_eq_true rfl⟩) hP hD hS hA [0, 3, 1, 2] [4, 5] rfl rfl (by decide) (by decide) (fun r W' H locs hw hP hD hS => ?_)
      obtain ⟨rfl, rfl⟩ := hw
      have hP : va_P g.1 vwCl [(q188, .inr (11, fs203)), (q200, .inl (gI g, 2, .inl f215))] H := hP
      have hD : va_D A [(q188, .inr (11, fs203)), (q200, .inl (gI g, 2, .inl f215))] := hD
      refine lv_aload_n hx hb dL_law_1190 rfl (lv_at hl 1 rfl) ?_
      refine lv_aload_n hx hb dL_law_1191 rfl (lv_at hl 3 rfl) ?_
      refine lv_iload_n hx hb dL_law_1192 rfl (lv_at hl 0 rfl) ?_
      refine lv_iconst (v := 1) hx hb dL_law_1193 (by decide) ?_
      refine lv_iadd hx hb dL_law_1194 ?_
      refine lv_tope (y := 1) (by decide) ?_
      refine sc_ld hx hb hX hbl hbA hS 1 rfl (by decide) (by decide) dL_law_1195 ?_
      refine lv_aload_n hx hb dL_law_1196 rfl (lv_at hl 3 rfl) ?_
      refine lv_iload_n hx hb dL_law_1197 rfl (lv_at hl 0 rfl) ?_
      refine lv_iconst (v := 2) hx hb dL_law_1198 (by decide) ?_
      refine lv_iadd hx hb dL_law_1199 ?_
      refine lv_tope (y := 2) (by decide) ?_
      refine sc_ld hx hb hX hbl hbA hS 2 rfl (by decide) (by decide) dL_law_1200 ?_
      refine kI (wc := [(q188, .inr (11, fs203)), (q200, .inl (gI g, 2, .inl f215))]) (wr := []) (rV (As := [.int (xs 1), .int (xs 2)]) (rest := [.int (-1)]) (meth2 := "") hcx (c_X11_ask (hf218) (hf221) (hf236) (hf250) H.size) (gdV q66_4 q66_5 q66_6 q1_5 q66_7) dvX11_ask ⟨Nat.le_of_ble_eq_true rfl, Nat.le_of_ble_eq_true rfl⟩ (hP.sub [0, 1] rfl) (hD.sub [0, 1] (by decide) rfl) (va_recv hK hP (ci := 11) (q0 := 0) rfl rfl) rfl hl.1 rfl (Nat.le_of_ble_eq_true rfl) dL_law_1201 ⟨Nat.le_of_ble_eq_true rfl, Nat.le_of_ble_eq_true rfl⟩) hP hD hS hA [0, 1] [] rfl rfl (by decide) (by decide) (fun r W' H locs hw hP hD hS => ?_)
      obtain ⟨rfl, rfl⟩ := hw
      have hP : va_P g.1 vwCl [] H := hP
      have hD : va_D A [] := hD
      refine lv_icmp_eq (tgt := 1278) hx hb dL_law_1204 (by decide) (fun _ => ?_) (fun c397 => absurd (by decide) c397)
      refine lv_iinc (v := 6) (lv' := [(3, .int 6), (2, .ref q188), (1, .ref q1), (0, .ref b)]) hx hb dL_law_1278 hl (k := 0) rfl (by decide) (by decide) rfl (fun ls hl => ?_)
      refine lv_goto (tgt := 18) hx hb dL_law_1281 (by decide) ?_
      refine lv_iload_n hx hb dL_law_18 rfl (lv_at hl 0 rfl) ?_
      refine lv_aload_n hx hb dL_law_19 rfl (lv_at hl 3 rfl) ?_
      refine va_slen hx hb hX hbl hbA hS dL_law_20 ?_
      refine lv_tope (y := 6) (by decide) ?_
      refine lv_bipush (v := 6) hx hb dL_law_21 (by decide) ?_
      refine lv_isub hx hb dL_law_23 ?_
      refine lv_tope (y := 0) (by decide) ?_
      refine lv_icmp_gt (tgt := 1284) hx hb dL_law_24 (by decide) (fun _ => ?_) (fun c398 => absurd (by decide) c398)
      refine lv_iconst (v := 1) hx hb dL_law_1284 (by decide) ?_
      refine va_forget (fun q hq => hAl _ (hS.2.2 q hq)) ?_
      refine W.widen (k := 600000) (n := 7302250) (Nat.le_of_ble_eq_true rfl) (Nat.le_of_ble_eq_true rfl) ?_
      exact lw_ret hx hb hr hlocks dL_law_1285
    by_cases c399 : x256 = 39
    · refine lv_tableIn (off := 1176) (tgt := 1209) hx hb dL_law_33 (by rw [c399]; decide) (by rw [c399]; decide) (by rw [c399]; decide) (by decide) ?_
      by_cases i0 : xs 1 = 0
      · have hP : va_P g.1 vwCl [(q1, .inr (10, [.ref q2, .int 0, .ref q3, .ref q52, .ref q73, .ref q13, .ref q67, .ref q76, .ref q11, .ref q86, .ref q84, .ref q12, .ref q85, .int 0])), (q11, .inl (gO g, 3, .inr (.inr (.inr (.inr f95))))), (q22, .inr (7, [.ref q23, .ref q24, .ref q25, .ref q26, .ref q27, .int 0, .int 0, .int 0, .int 0, .int 0])), (q23, .inl (gI g, 5, .inl f108)), (q24, .inl (gI g, 5, .inl f109)), (q25, .inl (gI g, 5, .inl f110)), (q26, .inl (gI g, 5, .inl f111)), (q27, .inl (gI g, 5, .inl f112)), (q67, .inr (7, [.ref q68, .ref q69, .ref q70, .ref q71, .ref q72, .int 0, .int 0, .int 0, .int 0, .int x151])), (q68, .inl (gI g, 5, .inl f152)), (q69, .inl (gI g, 5, .inl f153)), (q70, .inl (gI g, 5, .inl f154)), (q71, .inl (gI g, 5, .inl f155)), (q72, .inl (gI g, 5, .inl f156)), (q86, .inl (gZ g, 3, .inl f179)), (q188, .inr (11, fs203)), (q194, .inl (gI g, 72, .inl f209)), (q199, .inl (gI g, 24, .inl f214)), (q202, .inl (gZ g, 3, .inl f217))] H := hP.sub [0, 10, 21, 22, 23, 24, 25, 26, 66, 67, 68, 69, 70, 71, 85, 86, 92, 97, 100] rfl
        have hD : va_D A [(q1, .inr (10, [.ref q2, .int 0, .ref q3, .ref q52, .ref q73, .ref q13, .ref q67, .ref q76, .ref q11, .ref q86, .ref q84, .ref q12, .ref q85, .int 0])), (q11, .inl (gO g, 3, .inr (.inr (.inr (.inr f95))))), (q22, .inr (7, [.ref q23, .ref q24, .ref q25, .ref q26, .ref q27, .int 0, .int 0, .int 0, .int 0, .int 0])), (q23, .inl (gI g, 5, .inl f108)), (q24, .inl (gI g, 5, .inl f109)), (q25, .inl (gI g, 5, .inl f110)), (q26, .inl (gI g, 5, .inl f111)), (q27, .inl (gI g, 5, .inl f112)), (q67, .inr (7, [.ref q68, .ref q69, .ref q70, .ref q71, .ref q72, .int 0, .int 0, .int 0, .int 0, .int x151])), (q68, .inl (gI g, 5, .inl f152)), (q69, .inl (gI g, 5, .inl f153)), (q70, .inl (gI g, 5, .inl f154)), (q71, .inl (gI g, 5, .inl f155)), (q72, .inl (gI g, 5, .inl f156)), (q86, .inl (gZ g, 3, .inl f179)), (q188, .inr (11, fs203)), (q194, .inl (gI g, 72, .inl f209)), (q199, .inl (gI g, 24, .inl f214)), (q202, .inl (gZ g, 3, .inl f217))] := hD.sub [0, 10, 21, 22, 23, 24, 25, 26, 66, 67, 68, 69, 70, 71, 85, 86, 92, 97, 100] (by decide) rfl
        refine lv_aload_n hx hb dL_law_1209 rfl (lv_at hl 2 rfl) ?_
        refine lv_aload_n hx hb dL_law_1210 rfl (lv_at hl 3 rfl) ?_
        refine lv_iload_n hx hb dL_law_1211 rfl (lv_at hl 0 rfl) ?_
        refine lv_iconst (v := 1) hx hb dL_law_1212 (by decide) ?_
        refine lv_iadd hx hb dL_law_1213 ?_
        refine lv_tope (y := 1) (by decide) ?_
        refine sc_ld hx hb hX hbl hbA hS 1 rfl (by decide) (by decide) dL_law_1214 ?_
        refine lv_tope (y := 0) i0 ?_
        refine kI (wc := [(q1, .inr (10, [.ref q2, .int 0, .ref q3, .ref q52, .ref q73, .ref q13, .ref q67, .ref q76, .ref q11, .ref q86, .ref q84, .ref q12, .ref q85, .int 0])), (q11, .inl (gO g, 3, .inr (.inr (.inr (.inr f95))))), (q22, .inr (7, [.ref q23, .ref q24, .ref q25, .ref q26, .ref q27, .int 0, .int 0, .int 0, .int 0, .int 0])), (q23, .inl (gI g, 5, .inl f108)), (q24, .inl (gI g, 5, .inl f109)), (q25, .inl (gI g, 5, .inl f110)), (q26, .inl (gI g, 5, .inl f111)), (q27, .inl (gI g, 5, .inl f112)), (q67, .inr (7, [.ref q68, .ref q69, .ref q70, .ref q71, .ref q72, .int 0, .int 0, .int 0, .int 0, .int x151])), (q68, .inl (gI g, 5, .inl f152)), (q69, .inl (gI g, 5, .inl f153)), (q70, .inl (gI g, 5, .inl f154)), (q71, .inl (gI g, 5, .inl f155)), (q72, .inl (gI g, 5, .inl f156)), (q86, .inl (gZ g, 3, .inl f179))]) (wr := [(q188, .inr (11, fs203)), (q194, .inl (gI g, 72, .inl f209)), (q199, .inl (gI g, 24, .inl f214)), (q202, .inl (gZ g, 3, .inl f217))]) (rV (As := [.int 0]) (rest := []) (meth2 := "") hcx (c_X10_image_0 (hf180) H.size) (gdV q66_12 q66_13 q66_14 q1_2 q66_15) dvX10_image ⟨Nat.le_of_ble_eq_true rfl, Nat.le_of_ble_eq_true rfl⟩ (hP.sub [0, 1, 2, 3, 4, 5, 6, 7, 8, 9, 10, 11, 12, 13, 14] rfl) (hD.sub [0, 1, 2, 3, 4, 5, 6, 7, 8, 9, 10, 11, 12, 13, 14] (by decide) rfl) (va_recv hK hP (ci := 10) (q0 := 0) rfl rfl) rfl hl.1 rfl (Nat.le_of_ble_eq_true rfl) dL_law_1215 ⟨Nat.le_of_ble_eq_true rfl, Nat.le_of_ble_eq_true rfl⟩) hP hD hS hA [0, 1, 2, 3, 4, 5, 6, 7, 8, 9, 10, 11, 12, 13, 14] [15, 16, 17, 18] rfl rfl (by decide) (by decide) (fun r W' H locs hw hP hD hS => ?_)
        obtain ⟨rfl, rfl⟩ := hw
        have hP : va_P g.1 vwCl [(q188, .inr (11, fs203)), (q194, .inl (gI g, 72, .inl f209)), (q199, .inl (gI g, 24, .inl f214)), (q202, .inl (gZ g, 3, .inl f217))] H := hP
        have hD : va_D A [(q188, .inr (11, fs203)), (q194, .inl (gI g, 72, .inl f209)), (q199, .inl (gI g, 24, .inl f214)), (q202, .inl (gZ g, 3, .inl f217))] := hD
        refine lv_aload_n hx hb dL_law_1218 rfl (lv_at hl 1 rfl) ?_
        refine lv_aload_n hx hb dL_law_1219 rfl (lv_at hl 3 rfl) ?_
        refine lv_iload_n hx hb dL_law_1220 rfl (lv_at hl 0 rfl) ?_
        refine lv_iconst (v := 1) hx hb dL_law_1221 (by decide) ?_
        refine lv_iadd hx hb dL_law_1222 ?_
        refine lv_tope (y := 1) (by decide) ?_
        refine sc_ld hx hb hX hbl hbA hS 1 rfl (by decide) (by decide) dL_law_1223 ?_
        refine lv_tope (y := 0) i0 ?_
        refine kI (wc := [(q188, .inr (11, fs203)), (q199, .inl (gI g, 24, .inl f214)), (q194, .inl (gI g, 72, .inl f209)), (q202, .inl (gZ g, 3, .inl f217))]) (wr := []) (rV (As := [.int 0]) (rest := [.int 0]) (meth2 := "") hcx (c_X11_image_0 (hf218) (hf226) (hf231) (hf232) (hf248) H.size) (gdV q66_17 q66_18 q66_19 q1_5 q66_20) dvX11_image ⟨Nat.le_of_ble_eq_true rfl, Nat.le_of_ble_eq_true rfl⟩ (hP.sub [0, 2, 1, 3] rfl) (hD.sub [0, 2, 1, 3] (by decide) rfl) (va_recv hK hP (ci := 11) (q0 := 0) rfl rfl) rfl hl.1 rfl (Nat.le_of_ble_eq_true rfl) dL_law_1224 ⟨Nat.le_of_ble_eq_true rfl, Nat.le_of_ble_eq_true rfl⟩) hP hD hS hA [0, 2, 1, 3] [] rfl rfl (by decide) (by decide) (fun r W' H locs hw hP hD hS => ?_)
        obtain ⟨rfl, rfl⟩ := hw
        have hP : va_P g.1 vwCl [] H := hP
        have hD : va_D A [] := hD
        refine lv_icmp_eq (tgt := 1278) hx hb dL_law_1227 (by decide) (fun _ => ?_) (fun c400 => absurd (by decide) c400)
        refine lv_iinc (v := 6) (lv' := [(3, .int 6), (2, .ref q188), (1, .ref q1), (0, .ref b)]) hx hb dL_law_1278 hl (k := 0) rfl (by decide) (by decide) rfl (fun ls hl => ?_)
        refine lv_goto (tgt := 18) hx hb dL_law_1281 (by decide) ?_
        refine lv_iload_n hx hb dL_law_18 rfl (lv_at hl 0 rfl) ?_
        refine lv_aload_n hx hb dL_law_19 rfl (lv_at hl 3 rfl) ?_
        refine va_slen hx hb hX hbl hbA hS dL_law_20 ?_
        refine lv_tope (y := 6) (by decide) ?_
        refine lv_bipush (v := 6) hx hb dL_law_21 (by decide) ?_
        refine lv_isub hx hb dL_law_23 ?_
        refine lv_tope (y := 0) (by decide) ?_
        refine lv_icmp_gt (tgt := 1284) hx hb dL_law_24 (by decide) (fun _ => ?_) (fun c401 => absurd (by decide) c401)
        refine lv_iconst (v := 1) hx hb dL_law_1284 (by decide) ?_
        refine va_forget (fun q hq => hAl _ (hS.2.2 q hq)) ?_
        refine W.widen (k := 600000) (n := 7302250) (Nat.le_of_ble_eq_true rfl) (Nat.le_of_ble_eq_true rfl) ?_
        exact lw_ret hx hb hr hlocks dL_law_1285
      by_cases i1 : xs 1 = 1
      · have hP : va_P g.1 vwCl [(q1, .inr (10, [.ref q2, .int 0, .ref q3, .ref q52, .ref q73, .ref q13, .ref q67, .ref q76, .ref q11, .ref q86, .ref q84, .ref q12, .ref q85, .int 0])), (q11, .inl (gO g, 3, .inr (.inr (.inr (.inr f95))))), (q28, .inr (7, [.ref q29, .ref q30, .ref q31, .ref q32, .ref q33, .int 0, .int 0, .int 0, .int 0, .int 0])), (q29, .inl (gI g, 5, .inl f113)), (q30, .inl (gI g, 5, .inl f114)), (q31, .inl (gI g, 5, .inl f115)), (q32, .inl (gI g, 5, .inl f116)), (q33, .inl (gI g, 5, .inl f117)), (q67, .inr (7, [.ref q68, .ref q69, .ref q70, .ref q71, .ref q72, .int 0, .int 0, .int 0, .int 0, .int x151])), (q68, .inl (gI g, 5, .inl f152)), (q69, .inl (gI g, 5, .inl f153)), (q70, .inl (gI g, 5, .inl f154)), (q71, .inl (gI g, 5, .inl f155)), (q72, .inl (gI g, 5, .inl f156)), (q86, .inl (gZ g, 3, .inl f179)), (q188, .inr (11, fs203)), (q194, .inl (gI g, 72, .inl f209)), (q199, .inl (gI g, 24, .inl f214)), (q202, .inl (gZ g, 3, .inl f217))] H := hP.sub [0, 10, 27, 28, 29, 30, 31, 32, 66, 67, 68, 69, 70, 71, 85, 86, 92, 97, 100] rfl
        have hD : va_D A [(q1, .inr (10, [.ref q2, .int 0, .ref q3, .ref q52, .ref q73, .ref q13, .ref q67, .ref q76, .ref q11, .ref q86, .ref q84, .ref q12, .ref q85, .int 0])), (q11, .inl (gO g, 3, .inr (.inr (.inr (.inr f95))))), (q28, .inr (7, [.ref q29, .ref q30, .ref q31, .ref q32, .ref q33, .int 0, .int 0, .int 0, .int 0, .int 0])), (q29, .inl (gI g, 5, .inl f113)), (q30, .inl (gI g, 5, .inl f114)), (q31, .inl (gI g, 5, .inl f115)), (q32, .inl (gI g, 5, .inl f116)), (q33, .inl (gI g, 5, .inl f117)), (q67, .inr (7, [.ref q68, .ref q69, .ref q70, .ref q71, .ref q72, .int 0, .int 0, .int 0, .int 0, .int x151])), (q68, .inl (gI g, 5, .inl f152)), (q69, .inl (gI g, 5, .inl f153)), (q70, .inl (gI g, 5, .inl f154)), (q71, .inl (gI g, 5, .inl f155)), (q72, .inl (gI g, 5, .inl f156)), (q86, .inl (gZ g, 3, .inl f179)), (q188, .inr (11, fs203)), (q194, .inl (gI g, 72, .inl f209)), (q199, .inl (gI g, 24, .inl f214)), (q202, .inl (gZ g, 3, .inl f217))] := hD.sub [0, 10, 27, 28, 29, 30, 31, 32, 66, 67, 68, 69, 70, 71, 85, 86, 92, 97, 100] (by decide) rfl
        refine lv_aload_n hx hb dL_law_1209 rfl (lv_at hl 2 rfl) ?_
        refine lv_aload_n hx hb dL_law_1210 rfl (lv_at hl 3 rfl) ?_
        refine lv_iload_n hx hb dL_law_1211 rfl (lv_at hl 0 rfl) ?_
        refine lv_iconst (v := 1) hx hb dL_law_1212 (by decide) ?_
        refine lv_iadd hx hb dL_law_1213 ?_
        refine lv_tope (y := 1) (by decide) ?_
        refine sc_ld hx hb hX hbl hbA hS 1 rfl (by decide) (by decide) dL_law_1214 ?_
        refine lv_tope (y := 1) i1 ?_
        refine kI (wc := [(q1, .inr (10, [.ref q2, .int 0, .ref q3, .ref q52, .ref q73, .ref q13, .ref q67, .ref q76, .ref q11, .ref q86, .ref q84, .ref q12, .ref q85, .int 0])), (q11, .inl (gO g, 3, .inr (.inr (.inr (.inr f95))))), (q28, .inr (7, [.ref q29, .ref q30, .ref q31, .ref q32, .ref q33, .int 0, .int 0, .int 0, .int 0, .int 0])), (q29, .inl (gI g, 5, .inl f113)), (q30, .inl (gI g, 5, .inl f114)), (q31, .inl (gI g, 5, .inl f115)), (q32, .inl (gI g, 5, .inl f116)), (q33, .inl (gI g, 5, .inl f117)), (q67, .inr (7, [.ref q68, .ref q69, .ref q70, .ref q71, .ref q72, .int 0, .int 0, .int 0, .int 0, .int x151])), (q68, .inl (gI g, 5, .inl f152)), (q69, .inl (gI g, 5, .inl f153)), (q70, .inl (gI g, 5, .inl f154)), (q71, .inl (gI g, 5, .inl f155)), (q72, .inl (gI g, 5, .inl f156)), (q86, .inl (gZ g, 3, .inl f179))]) (wr := [(q188, .inr (11, fs203)), (q194, .inl (gI g, 72, .inl f209)), (q199, .inl (gI g, 24, .inl f214)), (q202, .inl (gZ g, 3, .inl f217))]) (rV (As := [.int 1]) (rest := []) (meth2 := "") hcx (c_X10_image_1 (hf181) H.size) (gdV q66_12 q66_13 q66_14 q1_2 q66_15) dvX10_image ⟨Nat.le_of_ble_eq_true rfl, Nat.le_of_ble_eq_true rfl⟩ (hP.sub [0, 1, 2, 3, 4, 5, 6, 7, 8, 9, 10, 11, 12, 13, 14] rfl) (hD.sub [0, 1, 2, 3, 4, 5, 6, 7, 8, 9, 10, 11, 12, 13, 14] (by decide) rfl) (va_recv hK hP (ci := 10) (q0 := 0) rfl rfl) rfl hl.1 rfl (Nat.le_of_ble_eq_true rfl) dL_law_1215 ⟨Nat.le_of_ble_eq_true rfl, Nat.le_of_ble_eq_true rfl⟩) hP hD hS hA [0, 1, 2, 3, 4, 5, 6, 7, 8, 9, 10, 11, 12, 13, 14] [15, 16, 17, 18] rfl rfl (by decide) (by decide) (fun r W' H locs hw hP hD hS => ?_)
        obtain ⟨rfl, rfl⟩ := hw
        have hP : va_P g.1 vwCl [(q188, .inr (11, fs203)), (q194, .inl (gI g, 72, .inl f209)), (q199, .inl (gI g, 24, .inl f214)), (q202, .inl (gZ g, 3, .inl f217))] H := hP
        have hD : va_D A [(q188, .inr (11, fs203)), (q194, .inl (gI g, 72, .inl f209)), (q199, .inl (gI g, 24, .inl f214)), (q202, .inl (gZ g, 3, .inl f217))] := hD
        refine lv_aload_n hx hb dL_law_1218 rfl (lv_at hl 1 rfl) ?_
        refine lv_aload_n hx hb dL_law_1219 rfl (lv_at hl 3 rfl) ?_
        refine lv_iload_n hx hb dL_law_1220 rfl (lv_at hl 0 rfl) ?_
        refine lv_iconst (v := 1) hx hb dL_law_1221 (by decide) ?_
        refine lv_iadd hx hb dL_law_1222 ?_
        refine lv_tope (y := 1) (by decide) ?_
        refine sc_ld hx hb hX hbl hbA hS 1 rfl (by decide) (by decide) dL_law_1223 ?_
        refine lv_tope (y := 1) i1 ?_
        refine kI (wc := [(q188, .inr (11, fs203)), (q199, .inl (gI g, 24, .inl f214)), (q194, .inl (gI g, 72, .inl f209)), (q202, .inl (gZ g, 3, .inl f217))]) (wr := []) (rV (As := [.int 1]) (rest := [.int 0]) (meth2 := "") hcx (c_X11_image_1 (hf218) (hf226) (hf231) (hf232) (hf248) H.size) (gdV q66_17 q66_18 q66_19 q1_5 q66_20) dvX11_image ⟨Nat.le_of_ble_eq_true rfl, Nat.le_of_ble_eq_true rfl⟩ (hP.sub [0, 2, 1, 3] rfl) (hD.sub [0, 2, 1, 3] (by decide) rfl) (va_recv hK hP (ci := 11) (q0 := 0) rfl rfl) rfl hl.1 rfl (Nat.le_of_ble_eq_true rfl) dL_law_1224 ⟨Nat.le_of_ble_eq_true rfl, Nat.le_of_ble_eq_true rfl⟩) hP hD hS hA [0, 2, 1, 3] [] rfl rfl (by decide) (by decide) (fun r W' H locs hw hP hD hS => ?_)
        obtain ⟨rfl, rfl⟩ := hw
        have hP : va_P g.1 vwCl [] H := hP
        have hD : va_D A [] := hD
        refine lv_icmp_eq (tgt := 1278) hx hb dL_law_1227 (by decide) (fun _ => ?_) (fun c402 => absurd (by decide) c402)
        refine lv_iinc (v := 6) (lv' := [(3, .int 6), (2, .ref q188), (1, .ref q1), (0, .ref b)]) hx hb dL_law_1278 hl (k := 0) rfl (by decide) (by decide) rfl (fun ls hl => ?_)
        refine lv_goto (tgt := 18) hx hb dL_law_1281 (by decide) ?_
        refine lv_iload_n hx hb dL_law_18 rfl (lv_at hl 0 rfl) ?_
        refine lv_aload_n hx hb dL_law_19 rfl (lv_at hl 3 rfl) ?_
        refine va_slen hx hb hX hbl hbA hS dL_law_20 ?_
        refine lv_tope (y := 6) (by decide) ?_
        refine lv_bipush (v := 6) hx hb dL_law_21 (by decide) ?_
        refine lv_isub hx hb dL_law_23 ?_
        refine lv_tope (y := 0) (by decide) ?_
        refine lv_icmp_gt (tgt := 1284) hx hb dL_law_24 (by decide) (fun _ => ?_) (fun c403 => absurd (by decide) c403)
        refine lv_iconst (v := 1) hx hb dL_law_1284 (by decide) ?_
        refine va_forget (fun q hq => hAl _ (hS.2.2 q hq)) ?_
        refine W.widen (k := 600000) (n := 7302250) (Nat.le_of_ble_eq_true rfl) (Nat.le_of_ble_eq_true rfl) ?_
        exact lw_ret hx hb hr hlocks dL_law_1285
      by_cases i2 : xs 1 = 2
      · have hP : va_P g.1 vwCl [(q1, .inr (10, [.ref q2, .int 0, .ref q3, .ref q52, .ref q73, .ref q13, .ref q67, .ref q76, .ref q11, .ref q86, .ref q84, .ref q12, .ref q85, .int 0])), (q11, .inl (gO g, 3, .inr (.inr (.inr (.inr f95))))), (q34, .inr (7, [.ref q35, .ref q36, .ref q37, .ref q38, .ref q39, .int 0, .int 0, .int 0, .int 0, .int 0])), (q35, .inl (gI g, 5, .inl f118)), (q36, .inl (gI g, 5, .inl f119)), (q37, .inl (gI g, 5, .inl f120)), (q38, .inl (gI g, 5, .inl f121)), (q39, .inl (gI g, 5, .inl f122)), (q67, .inr (7, [.ref q68, .ref q69, .ref q70, .ref q71, .ref q72, .int 0, .int 0, .int 0, .int 0, .int x151])), (q68, .inl (gI g, 5, .inl f152)), (q69, .inl (gI g, 5, .inl f153)), (q70, .inl (gI g, 5, .inl f154)), (q71, .inl (gI g, 5, .inl f155)), (q72, .inl (gI g, 5, .inl f156)), (q86, .inl (gZ g, 3, .inl f179)), (q188, .inr (11, fs203)), (q194, .inl (gI g, 72, .inl f209)), (q199, .inl (gI g, 24, .inl f214)), (q202, .inl (gZ g, 3, .inl f217))] H := hP.sub [0, 10, 33, 34, 35, 36, 37, 38, 66, 67, 68, 69, 70, 71, 85, 86, 92, 97, 100] rfl
        have hD : va_D A [(q1, .inr (10, [.ref q2, .int 0, .ref q3, .ref q52, .ref q73, .ref q13, .ref q67, .ref q76, .ref q11, .ref q86, .ref q84, .ref q12, .ref q85, .int 0])), (q11, .inl (gO g, 3, .inr (.inr (.inr (.inr f95))))), (q34, .inr (7, [.ref q35, .ref q36, .ref q37, .ref q38, .ref q39, .int 0, .int 0, .int 0, .int 0, .int 0])), (q35, .inl (gI g, 5, .inl f118)), (q36, .inl (gI g, 5, .inl f119)), (q37, .inl (gI g, 5, .inl f120)), (q38, .inl (gI g, 5, .inl f121)), (q39, .inl (gI g, 5, .inl f122)), (q67, .inr (7, [.ref q68, .ref q69, .ref q70, .ref q71, .ref q72, .int 0, .int 0, .int 0, .int 0, .int x151])), (q68, .inl (gI g, 5, .inl f152)), (q69, .inl (gI g, 5, .inl f153)), (q70, .inl (gI g, 5, .inl f154)), (q71, .inl (gI g, 5, .inl f155)), (q72, .inl (gI g, 5, .inl f156)), (q86, .inl (gZ g, 3, .inl f179)), (q188, .inr (11, fs203)), (q194, .inl (gI g, 72, .inl f209)), (q199, .inl (gI g, 24, .inl f214)), (q202, .inl (gZ g, 3, .inl f217))] := hD.sub [0, 10, 33, 34, 35, 36, 37, 38, 66, 67, 68, 69, 70, 71, 85, 86, 92, 97, 100] (by decide) rfl
        refine lv_aload_n hx hb dL_law_1209 rfl (lv_at hl 2 rfl) ?_
        refine lv_aload_n hx hb dL_law_1210 rfl (lv_at hl 3 rfl) ?_
        refine lv_iload_n hx hb dL_law_1211 rfl (lv_at hl 0 rfl) ?_
        refine lv_iconst (v := 1) hx hb dL_law_1212 (by decide) ?_
        refine lv_iadd hx hb dL_law_1213 ?_
        refine lv_tope (y := 1) (by decide) ?_
        refine sc_ld hx hb hX hbl hbA hS 1 rfl (by decide) (by decide) dL_law_1214 ?_
        refine lv_tope (y := 2) i2 ?_
        refine kI (wc := [(q1, .inr (10, [.ref q2, .int 0, .ref q3, .ref q52, .ref q73, .ref q13, .ref q67, .ref q76, .ref q11, .ref q86, .ref q84, .ref q12, .ref q85, .int 0])), (q11, .inl (gO g, 3, .inr (.inr (.inr (.inr f95))))), (q34, .inr (7, [.ref q35, .ref q36, .ref q37, .ref q38, .ref q39, .int 0, .int 0, .int 0, .int 0, .int 0])), (q35, .inl (gI g, 5, .inl f118)), (q36, .inl (gI g, 5, .inl f119)), (q37, .inl (gI g, 5, .inl f120)), (q38, .inl (gI g, 5, .inl f121)), (q39, .inl (gI g, 5, .inl f122)), (q67, .inr (7, [.ref q68, .ref q69, .ref q70, .ref q71, .ref q72, .int 0, .int 0, .int 0, .int 0, .int x151])), (q68, .inl (gI g, 5, .inl f152)), (q69, .inl (gI g, 5, .inl f153)), (q70, .inl (gI g, 5, .inl f154)), (q71, .inl (gI g, 5, .inl f155)), (q72, .inl (gI g, 5, .inl f156)), (q86, .inl (gZ g, 3, .inl f179))]) (wr := [(q188, .inr (11, fs203)), (q194, .inl (gI g, 72, .inl f209)), (q199, .inl (gI g, 24, .inl f214)), (q202, .inl (gZ g, 3, .inl f217))]) (rV (As := [.int 2]) (rest := []) (meth2 := "") hcx (c_X10_image_2 (hf182) H.size) (gdV q66_12 q66_13 q66_14 q1_2 q66_15) dvX10_image ⟨Nat.le_of_ble_eq_true rfl, Nat.le_of_ble_eq_true rfl⟩ (hP.sub [0, 1, 2, 3, 4, 5, 6, 7, 8, 9, 10, 11, 12, 13, 14] rfl) (hD.sub [0, 1, 2, 3, 4, 5, 6, 7, 8, 9, 10, 11, 12, 13, 14] (by decide) rfl) (va_recv hK hP (ci := 10) (q0 := 0) rfl rfl) rfl hl.1 rfl (Nat.le_of_ble_eq_true rfl) dL_law_1215 ⟨Nat.le_of_ble_eq_true rfl, Nat.le_of_ble_eq_true rfl⟩) hP hD hS hA [0, 1, 2, 3, 4, 5, 6, 7, 8, 9, 10, 11, 12, 13, 14] [15, 16, 17, 18] rfl rfl (by decide) (by decide) (fun r W' H locs hw hP hD hS => ?_)
        obtain ⟨rfl, rfl⟩ := hw
        have hP : va_P g.1 vwCl [(q188, .inr (11, fs203)), (q194, .inl (gI g, 72, .inl f209)), (q199, .inl (gI g, 24, .inl f214)), (q202, .inl (gZ g, 3, .inl f217))] H := hP
        have hD : va_D A [(q188, .inr (11, fs203)), (q194, .inl (gI g, 72, .inl f209)), (q199, .inl (gI g, 24, .inl f214)), (q202, .inl (gZ g, 3, .inl f217))] := hD
        refine lv_aload_n hx hb dL_law_1218 rfl (lv_at hl 1 rfl) ?_
        refine lv_aload_n hx hb dL_law_1219 rfl (lv_at hl 3 rfl) ?_
        refine lv_iload_n hx hb dL_law_1220 rfl (lv_at hl 0 rfl) ?_
        refine lv_iconst (v := 1) hx hb dL_law_1221 (by decide) ?_
        refine lv_iadd hx hb dL_law_1222 ?_
        refine lv_tope (y := 1) (by decide) ?_
        refine sc_ld hx hb hX hbl hbA hS 1 rfl (by decide) (by decide) dL_law_1223 ?_
        refine lv_tope (y := 2) i2 ?_
        refine kI (wc := [(q188, .inr (11, fs203)), (q199, .inl (gI g, 24, .inl f214)), (q194, .inl (gI g, 72, .inl f209)), (q202, .inl (gZ g, 3, .inl f217))]) (wr := []) (rV (As := [.int 2]) (rest := [.int 0]) (meth2 := "") hcx (c_X11_image_2 (hf218) (hf226) (hf231) (hf232) (hf248) H.size) (gdV q66_17 q66_18 q66_19 q1_5 q66_20) dvX11_image ⟨Nat.le_of_ble_eq_true rfl, Nat.le_of_ble_eq_true rfl⟩ (hP.sub [0, 2, 1, 3] rfl) (hD.sub [0, 2, 1, 3] (by decide) rfl) (va_recv hK hP (ci := 11) (q0 := 0) rfl rfl) rfl hl.1 rfl (Nat.le_of_ble_eq_true rfl) dL_law_1224 ⟨Nat.le_of_ble_eq_true rfl, Nat.le_of_ble_eq_true rfl⟩) hP hD hS hA [0, 2, 1, 3] [] rfl rfl (by decide) (by decide) (fun r W' H locs hw hP hD hS => ?_)
        obtain ⟨rfl, rfl⟩ := hw
        have hP : va_P g.1 vwCl [] H := hP
        have hD : va_D A [] := hD
        refine lv_icmp_eq (tgt := 1278) hx hb dL_law_1227 (by decide) (fun _ => ?_) (fun c404 => absurd (by decide) c404)
        refine lv_iinc (v := 6) (lv' := [(3, .int 6), (2, .ref q188), (1, .ref q1), (0, .ref b)]) hx hb dL_law_1278 hl (k := 0) rfl (by decide) (by decide) rfl (fun ls hl => ?_)
        refine lv_goto (tgt := 18) hx hb dL_law_1281 (by decide) ?_
        refine lv_iload_n hx hb dL_law_18 rfl (lv_at hl 0 rfl) ?_
        refine lv_aload_n hx hb dL_law_19 rfl (lv_at hl 3 rfl) ?_
        refine va_slen hx hb hX hbl hbA hS dL_law_20 ?_
        refine lv_tope (y := 6) (by decide) ?_
        refine lv_bipush (v := 6) hx hb dL_law_21 (by decide) ?_
        refine lv_isub hx hb dL_law_23 ?_
        refine lv_tope (y := 0) (by decide) ?_
        refine lv_icmp_gt (tgt := 1284) hx hb dL_law_24 (by decide) (fun _ => ?_) (fun c405 => absurd (by decide) c405)
        refine lv_iconst (v := 1) hx hb dL_law_1284 (by decide) ?_
        refine va_forget (fun q hq => hAl _ (hS.2.2 q hq)) ?_
        refine W.widen (k := 600000) (n := 7302250) (Nat.le_of_ble_eq_true rfl) (Nat.le_of_ble_eq_true rfl) ?_
        exact lw_ret hx hb hr hlocks dL_law_1285
      have ho : ¬ xs 1 = 0 ∧ ¬ xs 1 = 1 ∧ ¬ xs 1 = 2 := ⟨i0, i1, i2⟩
      have hP : va_P g.1 vwCl [(q1, .inr (10, [.ref q2, .int 0, .ref q3, .ref q52, .ref q73, .ref q13, .ref q67, .ref q76, .ref q11, .ref q86, .ref q84, .ref q12, .ref q85, .int 0])), (q188, .inr (11, fs203))] H := hP.sub [0, 86] rfl
      have hD : va_D A [(q1, .inr (10, [.ref q2, .int 0, .ref q3, .ref q52, .ref q73, .ref q13, .ref q67, .ref q76, .ref q11, .ref q86, .ref q84, .ref q12, .ref q85, .int 0])), (q188, .inr (11, fs203))] := hD.sub [0, 86] (by decide) rfl
      refine lv_aload_n hx hb dL_law_1209 rfl (lv_at hl 2 rfl) ?_
      refine lv_aload_n hx hb dL_law_1210 rfl (lv_at hl 3 rfl) ?_
      refine lv_iload_n hx hb dL_law_1211 rfl (lv_at hl 0 rfl) ?_
      refine lv_iconst (v := 1) hx hb dL_law_1212 (by decide) ?_
      refine lv_iadd hx hb dL_law_1213 ?_
      refine lv_tope (y := 1) (by decide) ?_
      refine sc_ld hx hb hX hbl hbA hS 1 rfl (by decide) (by decide) dL_law_1214 ?_
      refine kI (wc := [(q1, .inr (10, [.ref q2, .int 0, .ref q3, .ref q52, .ref q73, .ref q13, .ref q67, .ref q76, .ref q11, .ref q86, .ref q84, .ref q12, .ref q85, .int 0]))]) (wr := [(q188, .inr (11, fs203))]) (rV (As := [.int (xs 1)]) (rest := []) (meth2 := "") hcx (c_X10_image_out (by assumption) H.size) (gdV q66_12 q66_13 q66_14 q1_2 q66_15) dvX10_image ⟨Nat.le_of_ble_eq_true rfl, Nat.le_of_ble_eq_true rfl⟩ (hP.sub [0] rfl) (hD.sub [0] (by decide) rfl) (va_recv hK hP (ci := 10) (q0 := 0) rfl rfl) rfl hl.1 rfl (Nat.le_of_ble_eq_true rfl) dL_law_1215 ⟨Nat.le_of_ble_eq_true rfl, Nat.le_of_ble_eq_true rfl⟩) hP hD hS hA [0] [1] rfl rfl (by decide) (by decide) (fun r W' H locs hw hP hD hS => ?_)
      obtain ⟨rfl, rfl⟩ := hw
      have hP : va_P g.1 vwCl [(q188, .inr (11, fs203))] H := hP
      have hD : va_D A [(q188, .inr (11, fs203))] := hD
      refine lv_aload_n hx hb dL_law_1218 rfl (lv_at hl 1 rfl) ?_
      refine lv_aload_n hx hb dL_law_1219 rfl (lv_at hl 3 rfl) ?_
      refine lv_iload_n hx hb dL_law_1220 rfl (lv_at hl 0 rfl) ?_
      refine lv_iconst (v := 1) hx hb dL_law_1221 (by decide) ?_
      refine lv_iadd hx hb dL_law_1222 ?_
      refine lv_tope (y := 1) (by decide) ?_
      refine sc_ld hx hb hX hbl hbA hS 1 rfl (by decide) (by decide) dL_law_1223 ?_
      refine kI (wc := [(q188, .inr (11, fs203))]) (wr := []) (rV (As := [.int (xs 1)]) (rest := [.int (-1)]) (meth2 := "") hcx (c_X11_image_out (hf218) (by assumption) H.size) (gdV q66_17 q66_18 q66_19 q1_5 q66_20) dvX11_image ⟨Nat.le_of_ble_eq_true rfl, Nat.le_of_ble_eq_true rfl⟩ (hP.sub [0] rfl) (hD.sub [0] (by decide) rfl) (va_recv hK hP (ci := 11) (q0 := 0) rfl rfl) rfl hl.1 rfl (Nat.le_of_ble_eq_true rfl) dL_law_1224 ⟨Nat.le_of_ble_eq_true rfl, Nat.le_of_ble_eq_true rfl⟩) hP hD hS hA [0] [] rfl rfl (by decide) (by decide) (fun r W' H locs hw hP hD hS => ?_)
      obtain ⟨rfl, rfl⟩ := hw
      have hP : va_P g.1 vwCl [] H := hP
      have hD : va_D A [] := hD
      refine lv_icmp_eq (tgt := 1278) hx hb dL_law_1227 (by decide) (fun _ => ?_) (fun c406 => absurd (by decide) c406)
      refine lv_iinc (v := 6) (lv' := [(3, .int 6), (2, .ref q188), (1, .ref q1), (0, .ref b)]) hx hb dL_law_1278 hl (k := 0) rfl (by decide) (by decide) rfl (fun ls hl => ?_)
      refine lv_goto (tgt := 18) hx hb dL_law_1281 (by decide) ?_
      refine lv_iload_n hx hb dL_law_18 rfl (lv_at hl 0 rfl) ?_
      refine lv_aload_n hx hb dL_law_19 rfl (lv_at hl 3 rfl) ?_
      refine va_slen hx hb hX hbl hbA hS dL_law_20 ?_
      refine lv_tope (y := 6) (by decide) ?_
      refine lv_bipush (v := 6) hx hb dL_law_21 (by decide) ?_
      refine lv_isub hx hb dL_law_23 ?_
      refine lv_tope (y := 0) (by decide) ?_
      refine lv_icmp_gt (tgt := 1284) hx hb dL_law_24 (by decide) (fun _ => ?_) (fun c407 => absurd (by decide) c407)
      refine lv_iconst (v := 1) hx hb dL_law_1284 (by decide) ?_
      refine va_forget (fun q hq => hAl _ (hS.2.2 q hq)) ?_
      refine W.widen (k := 600000) (n := 7302250) (Nat.le_of_ble_eq_true rfl) (Nat.le_of_ble_eq_true rfl) ?_
      exact lw_ret hx hb hr hlocks dL_law_1285
    by_cases c408 : x256 = 40
    · refine lv_tableIn (off := 1199) (tgt := 1232) hx hb dL_law_33 (by rw [c408]; decide) (by rw [c408]; decide) (by rw [c408]; decide) (by decide) ?_
      by_cases i0 : xs 1 = 0
      · have hP : va_P g.1 vwCl [(q1, .inr (10, [.ref q2, .int 0, .ref q3, .ref q52, .ref q73, .ref q13, .ref q67, .ref q76, .ref q11, .ref q86, .ref q84, .ref q12, .ref q85, .int 0])), (q86, .inl (gZ g, 3, .inl f179)), (q188, .inr (11, fs203)), (q202, .inl (gZ g, 3, .inl f217))] H := hP.sub [0, 85, 86, 100] rfl
        have hD : va_D A [(q1, .inr (10, [.ref q2, .int 0, .ref q3, .ref q52, .ref q73, .ref q13, .ref q67, .ref q76, .ref q11, .ref q86, .ref q84, .ref q12, .ref q85, .int 0])), (q86, .inl (gZ g, 3, .inl f179)), (q188, .inr (11, fs203)), (q202, .inl (gZ g, 3, .inl f217))] := hD.sub [0, 85, 86, 100] (by decide) rfl
        refine lv_aload_n hx hb dL_law_1232 rfl (lv_at hl 2 rfl) ?_
        refine lv_aload_n hx hb dL_law_1233 rfl (lv_at hl 3 rfl) ?_
        refine lv_iload_n hx hb dL_law_1234 rfl (lv_at hl 0 rfl) ?_
        refine lv_iconst (v := 1) hx hb dL_law_1235 (by decide) ?_
        refine lv_iadd hx hb dL_law_1236 ?_
        refine lv_tope (y := 1) (by decide) ?_
        refine sc_ld hx hb hX hbl hbA hS 1 rfl (by decide) (by decide) dL_law_1237 ?_
        refine lv_tope (y := 0) i0 ?_
        refine kI (wc := [(q1, .inr (10, [.ref q2, .int 0, .ref q3, .ref q52, .ref q73, .ref q13, .ref q67, .ref q76, .ref q11, .ref q86, .ref q84, .ref q12, .ref q85, .int 0])), (q86, .inl (gZ g, 3, .inl f179))]) (wr := [(q188, .inr (11, fs203)), (q202, .inl (gZ g, 3, .inl f217))]) (rV (As := [.int 0]) (rest := []) (meth2 := "") hcx (c_X10_back_0 (hf185) H.size) (gdV q66_21 q66_22 q66_23 q1_2 q67_0) dvX10_back ⟨Nat.le_of_ble_eq_true rfl, Nat.le_of_ble_eq_true rfl⟩ (hP.sub [0, 1] rfl) (hD.sub [0, 1] (by decide) rfl) (va_recv hK hP (ci := 10) (q0 := 0) rfl rfl) rfl hl.1 rfl (Nat.le_of_ble_eq_true rfl) dL_law_1238 ⟨Nat.le_of_ble_eq_true rfl, Nat.le_of_ble_eq_true rfl⟩) hP hD hS hA [0, 1] [2, 3] rfl rfl (by decide) (by decide) (fun r W' H locs hw hP hD hS => ?_)
        obtain ⟨rfl, rfl⟩ := hw
        have hP : va_P g.1 vwCl [(q188, .inr (11, fs203)), (q202, .inl (gZ g, 3, .inl f217))] H := hP
        have hD : va_D A [(q188, .inr (11, fs203)), (q202, .inl (gZ g, 3, .inl f217))] := hD
        refine lv_aload_n hx hb dL_law_1241 rfl (lv_at hl 1 rfl) ?_
        refine lv_aload_n hx hb dL_law_1242 rfl (lv_at hl 3 rfl) ?_
        refine lv_iload_n hx hb dL_law_1243 rfl (lv_at hl 0 rfl) ?_
        refine lv_iconst (v := 1) hx hb dL_law_1244 (by decide) ?_
        refine lv_iadd hx hb dL_law_1245 ?_
        refine lv_tope (y := 1) (by decide) ?_
        refine sc_ld hx hb hX hbl hbA hS 1 rfl (by decide) (by decide) dL_law_1246 ?_
        refine lv_tope (y := 0) i0 ?_
        refine kI (wc := [(q188, .inr (11, fs203)), (q202, .inl (gZ g, 3, .inl f217))]) (wr := []) (rV (As := [.int 0]) (rest := [.int (-1)]) (meth2 := "") hcx (c_X11_back_0 (hf218) (hf232) (hf252) H.size) (gdV q67_1 q67_2 q67_3 q1_5 q67_4) dvX11_back ⟨Nat.le_of_ble_eq_true rfl, Nat.le_of_ble_eq_true rfl⟩ (hP.sub [0, 1] rfl) (hD.sub [0, 1] (by decide) rfl) (va_recv hK hP (ci := 11) (q0 := 0) rfl rfl) rfl hl.1 rfl (Nat.le_of_ble_eq_true rfl) dL_law_1247 ⟨Nat.le_of_ble_eq_true rfl, Nat.le_of_ble_eq_true rfl⟩) hP hD hS hA [0, 1] [] rfl rfl (by decide) (by decide) (fun r W' H locs hw hP hD hS => ?_)
        obtain ⟨rfl, rfl⟩ := hw
        have hP : va_P g.1 vwCl [] H := hP
        have hD : va_D A [] := hD
        refine lv_icmp_eq (tgt := 1278) hx hb dL_law_1250 (by decide) (fun _ => ?_) (fun c409 => absurd (by decide) c409)
        refine lv_iinc (v := 6) (lv' := [(3, .int 6), (2, .ref q188), (1, .ref q1), (0, .ref b)]) hx hb dL_law_1278 hl (k := 0) rfl (by decide) (by decide) rfl (fun ls hl => ?_)
        refine lv_goto (tgt := 18) hx hb dL_law_1281 (by decide) ?_
        refine lv_iload_n hx hb dL_law_18 rfl (lv_at hl 0 rfl) ?_
        refine lv_aload_n hx hb dL_law_19 rfl (lv_at hl 3 rfl) ?_
        refine va_slen hx hb hX hbl hbA hS dL_law_20 ?_
        refine lv_tope (y := 6) (by decide) ?_
        refine lv_bipush (v := 6) hx hb dL_law_21 (by decide) ?_
        refine lv_isub hx hb dL_law_23 ?_
        refine lv_tope (y := 0) (by decide) ?_
        refine lv_icmp_gt (tgt := 1284) hx hb dL_law_24 (by decide) (fun _ => ?_) (fun c410 => absurd (by decide) c410)
        refine lv_iconst (v := 1) hx hb dL_law_1284 (by decide) ?_
        refine va_forget (fun q hq => hAl _ (hS.2.2 q hq)) ?_
        refine W.widen (k := 600000) (n := 7302250) (Nat.le_of_ble_eq_true rfl) (Nat.le_of_ble_eq_true rfl) ?_
        exact lw_ret hx hb hr hlocks dL_law_1285
      by_cases i1 : xs 1 = 1
      · have hP : va_P g.1 vwCl [(q1, .inr (10, [.ref q2, .int 0, .ref q3, .ref q52, .ref q73, .ref q13, .ref q67, .ref q76, .ref q11, .ref q86, .ref q84, .ref q12, .ref q85, .int 0])), (q86, .inl (gZ g, 3, .inl f179)), (q188, .inr (11, fs203)), (q202, .inl (gZ g, 3, .inl f217))] H := hP.sub [0, 85, 86, 100] rfl
        have hD : va_D A [(q1, .inr (10, [.ref q2, .int 0, .ref q3, .ref q52, .ref q73, .ref q13, .ref q67, .ref q76, .ref q11, .ref q86, .ref q84, .ref q12, .ref q85, .int 0])), (q86, .inl (gZ g, 3, .inl f179)), (q188, .inr (11, fs203)), (q202, .inl (gZ g, 3, .inl f217))] := hD.sub [0, 85, 86, 100] (by decide) rfl
        refine lv_aload_n hx hb dL_law_1232 rfl (lv_at hl 2 rfl) ?_
        refine lv_aload_n hx hb dL_law_1233 rfl (lv_at hl 3 rfl) ?_
        refine lv_iload_n hx hb dL_law_1234 rfl (lv_at hl 0 rfl) ?_
        refine lv_iconst (v := 1) hx hb dL_law_1235 (by decide) ?_
        refine lv_iadd hx hb dL_law_1236 ?_
        refine lv_tope (y := 1) (by decide) ?_
        refine sc_ld hx hb hX hbl hbA hS 1 rfl (by decide) (by decide) dL_law_1237 ?_
        refine lv_tope (y := 1) i1 ?_
        refine kI (wc := [(q1, .inr (10, [.ref q2, .int 0, .ref q3, .ref q52, .ref q73, .ref q13, .ref q67, .ref q76, .ref q11, .ref q86, .ref q84, .ref q12, .ref q85, .int 0])), (q86, .inl (gZ g, 3, .inl f179))]) (wr := [(q188, .inr (11, fs203)), (q202, .inl (gZ g, 3, .inl f217))]) (rV (As := [.int 1]) (rest := []) (meth2 := "") hcx (c_X10_back_1 (hf186) H.size) (gdV q66_21 q66_22 q66_23 q1_2 q67_0) dvX10_back ⟨Nat.le_of_ble_eq_true rfl, Nat.le_of_ble_eq_true rfl⟩ (hP.sub [0, 1] rfl) (hD.sub [0, 1] (by decide) rfl) (va_recv hK hP (ci := 10) (q0 := 0) rfl rfl) rfl hl.1 rfl (Nat.le_of_ble_eq_true rfl) dL_law_1238 ⟨Nat.le_of_ble_eq_true rfl, Nat.le_of_ble_eq_true rfl⟩) hP hD hS hA [0, 1] [2, 3] rfl rfl (by decide) (by decide) (fun r W' H locs hw hP hD hS => ?_)
        obtain ⟨rfl, rfl⟩ := hw
        have hP : va_P g.1 vwCl [(q188, .inr (11, fs203)), (q202, .inl (gZ g, 3, .inl f217))] H := hP
        have hD : va_D A [(q188, .inr (11, fs203)), (q202, .inl (gZ g, 3, .inl f217))] := hD
        refine lv_aload_n hx hb dL_law_1241 rfl (lv_at hl 1 rfl) ?_
        refine lv_aload_n hx hb dL_law_1242 rfl (lv_at hl 3 rfl) ?_
        refine lv_iload_n hx hb dL_law_1243 rfl (lv_at hl 0 rfl) ?_
        refine lv_iconst (v := 1) hx hb dL_law_1244 (by decide) ?_
        refine lv_iadd hx hb dL_law_1245 ?_
        refine lv_tope (y := 1) (by decide) ?_
        refine sc_ld hx hb hX hbl hbA hS 1 rfl (by decide) (by decide) dL_law_1246 ?_
        refine lv_tope (y := 1) i1 ?_
        refine kI (wc := [(q188, .inr (11, fs203)), (q202, .inl (gZ g, 3, .inl f217))]) (wr := []) (rV (As := [.int 1]) (rest := [.int (-1)]) (meth2 := "") hcx (c_X11_back_1 (hf218) (hf232) (hf253) H.size) (gdV q67_1 q67_2 q67_3 q1_5 q67_4) dvX11_back ⟨Nat.le_of_ble_eq_true rfl, Nat.le_of_ble_eq_true rfl⟩ (hP.sub [0, 1] rfl) (hD.sub [0, 1] (by decide) rfl) (va_recv hK hP (ci := 11) (q0 := 0) rfl rfl) rfl hl.1 rfl (Nat.le_of_ble_eq_true rfl) dL_law_1247 ⟨Nat.le_of_ble_eq_true rfl, Nat.le_of_ble_eq_true rfl⟩) hP hD hS hA [0, 1] [] rfl rfl (by decide) (by decide) (fun r W' H locs hw hP hD hS => ?_)
        obtain ⟨rfl, rfl⟩ := hw
        have hP : va_P g.1 vwCl [] H := hP
        have hD : va_D A [] := hD
        refine lv_icmp_eq (tgt := 1278) hx hb dL_law_1250 (by decide) (fun _ => ?_) (fun c411 => absurd (by decide) c411)
        refine lv_iinc (v := 6) (lv' := [(3, .int 6), (2, .ref q188), (1, .ref q1), (0, .ref b)]) hx hb dL_law_1278 hl (k := 0) rfl (by decide) (by decide) rfl (fun ls hl => ?_)
        refine lv_goto (tgt := 18) hx hb dL_law_1281 (by decide) ?_
        refine lv_iload_n hx hb dL_law_18 rfl (lv_at hl 0 rfl) ?_
        refine lv_aload_n hx hb dL_law_19 rfl (lv_at hl 3 rfl) ?_
        refine va_slen hx hb hX hbl hbA hS dL_law_20 ?_
        refine lv_tope (y := 6) (by decide) ?_
        refine lv_bipush (v := 6) hx hb dL_law_21 (by decide) ?_
        refine lv_isub hx hb dL_law_23 ?_
        refine lv_tope (y := 0) (by decide) ?_
        refine lv_icmp_gt (tgt := 1284) hx hb dL_law_24 (by decide) (fun _ => ?_) (fun c412 => absurd (by decide) c412)
        refine lv_iconst (v := 1) hx hb dL_law_1284 (by decide) ?_
        refine va_forget (fun q hq => hAl _ (hS.2.2 q hq)) ?_
        refine W.widen (k := 600000) (n := 7302250) (Nat.le_of_ble_eq_true rfl) (Nat.le_of_ble_eq_true rfl) ?_
        exact lw_ret hx hb hr hlocks dL_law_1285
      by_cases i2 : xs 1 = 2
      · have hP : va_P g.1 vwCl [(q1, .inr (10, [.ref q2, .int 0, .ref q3, .ref q52, .ref q73, .ref q13, .ref q67, .ref q76, .ref q11, .ref q86, .ref q84, .ref q12, .ref q85, .int 0])), (q86, .inl (gZ g, 3, .inl f179)), (q188, .inr (11, fs203)), (q202, .inl (gZ g, 3, .inl f217))] H := hP.sub [0, 85, 86, 100] rfl
        have hD : va_D A [(q1, .inr (10, [.ref q2, .int 0, .ref q3, .ref q52, .ref q73, .ref q13, .ref q67, .ref q76, .ref q11, .ref q86, .ref q84, .ref q12, .ref q85, .int 0])), (q86, .inl (gZ g, 3, .inl f179)), (q188, .inr (11, fs203)), (q202, .inl (gZ g, 3, .inl f217))] := hD.sub [0, 85, 86, 100] (by decide) rfl
        refine lv_aload_n hx hb dL_law_1232 rfl (lv_at hl 2 rfl) ?_
        refine lv_aload_n hx hb dL_law_1233 rfl (lv_at hl 3 rfl) ?_
        refine lv_iload_n hx hb dL_law_1234 rfl (lv_at hl 0 rfl) ?_
        refine lv_iconst (v := 1) hx hb dL_law_1235 (by decide) ?_
        refine lv_iadd hx hb dL_law_1236 ?_
        refine lv_tope (y := 1) (by decide) ?_
        refine sc_ld hx hb hX hbl hbA hS 1 rfl (by decide) (by decide) dL_law_1237 ?_
        refine lv_tope (y := 2) i2 ?_
        refine kI (wc := [(q1, .inr (10, [.ref q2, .int 0, .ref q3, .ref q52, .ref q73, .ref q13, .ref q67, .ref q76, .ref q11, .ref q86, .ref q84, .ref q12, .ref q85, .int 0])), (q86, .inl (gZ g, 3, .inl f179))]) (wr := [(q188, .inr (11, fs203)), (q202, .inl (gZ g, 3, .inl f217))]) (rV (As := [.int 2]) (rest := []) (meth2 := "") hcx (c_X10_back_2 (hf187) H.size) (gdV q66_21 q66_22 q66_23 q1_2 q67_0) dvX10_back ⟨Nat.le_of_ble_eq_true rfl, Nat.le_of_ble_eq_true rfl⟩ (hP.sub [0, 1] rfl) (hD.sub [0, 1] (by decide) rfl) (va_recv hK hP (ci := 10) (q0 := 0) rfl rfl) rfl hl.1 rfl (Nat.le_of_ble_eq_true rfl) dL_law_1238 ⟨Nat.le_of_ble_eq_true rfl, Nat.le_of_ble_eq_true rfl⟩) hP hD hS hA [0, 1] [2, 3] rfl rfl (by decide) (by decide) (fun r W' H locs hw hP hD hS => ?_)
        obtain ⟨rfl, rfl⟩ := hw
        have hP : va_P g.1 vwCl [(q188, .inr (11, fs203)), (q202, .inl (gZ g, 3, .inl f217))] H := hP
        have hD : va_D A [(q188, .inr (11, fs203)), (q202, .inl (gZ g, 3, .inl f217))] := hD
        refine lv_aload_n hx hb dL_law_1241 rfl (lv_at hl 1 rfl) ?_
        refine lv_aload_n hx hb dL_law_1242 rfl (lv_at hl 3 rfl) ?_
        refine lv_iload_n hx hb dL_law_1243 rfl (lv_at hl 0 rfl) ?_
        refine lv_iconst (v := 1) hx hb dL_law_1244 (by decide) ?_
        refine lv_iadd hx hb dL_law_1245 ?_
        refine lv_tope (y := 1) (by decide) ?_
        refine sc_ld hx hb hX hbl hbA hS 1 rfl (by decide) (by decide) dL_law_1246 ?_
        refine lv_tope (y := 2) i2 ?_
        refine kI (wc := [(q188, .inr (11, fs203)), (q202, .inl (gZ g, 3, .inl f217))]) (wr := []) (rV (As := [.int 2]) (rest := [.int (-1)]) (meth2 := "") hcx (c_X11_back_2 (hf218) (hf232) (hf254) H.size) (gdV q67_1 q67_2 q67_3 q1_5 q67_4) dvX11_back ⟨Nat.le_of_ble_eq_true rfl, Nat.le_of_ble_eq_true rfl⟩ (hP.sub [0, 1] rfl) (hD.sub [0, 1] (by decide) rfl) (va_recv hK hP (ci := 11) (q0 := 0) rfl rfl) rfl hl.1 rfl (Nat.le_of_ble_eq_true rfl) dL_law_1247 ⟨Nat.le_of_ble_eq_true rfl, Nat.le_of_ble_eq_true rfl⟩) hP hD hS hA [0, 1] [] rfl rfl (by decide) (by decide) (fun r W' H locs hw hP hD hS => ?_)
        obtain ⟨rfl, rfl⟩ := hw
        have hP : va_P g.1 vwCl [] H := hP
        have hD : va_D A [] := hD
        refine lv_icmp_eq (tgt := 1278) hx hb dL_law_1250 (by decide) (fun _ => ?_) (fun c413 => absurd (by decide) c413)
        refine lv_iinc (v := 6) (lv' := [(3, .int 6), (2, .ref q188), (1, .ref q1), (0, .ref b)]) hx hb dL_law_1278 hl (k := 0) rfl (by decide) (by decide) rfl (fun ls hl => ?_)
        refine lv_goto (tgt := 18) hx hb dL_law_1281 (by decide) ?_
        refine lv_iload_n hx hb dL_law_18 rfl (lv_at hl 0 rfl) ?_
        refine lv_aload_n hx hb dL_law_19 rfl (lv_at hl 3 rfl) ?_
        refine va_slen hx hb hX hbl hbA hS dL_law_20 ?_
        refine lv_tope (y := 6) (by decide) ?_
        refine lv_bipush (v := 6) hx hb dL_law_21 (by decide) ?_
        refine lv_isub hx hb dL_law_23 ?_
        refine lv_tope (y := 0) (by decide) ?_
        refine lv_icmp_gt (tgt := 1284) hx hb dL_law_24 (by decide) (fun _ => ?_) (fun c414 => absurd (by decide) c414)
        refine lv_iconst (v := 1) hx hb dL_law_1284 (by decide) ?_
        refine va_forget (fun q hq => hAl _ (hS.2.2 q hq)) ?_
        refine W.widen (k := 600000) (n := 7302250) (Nat.le_of_ble_eq_true rfl) (Nat.le_of_ble_eq_true rfl) ?_
        exact lw_ret hx hb hr hlocks dL_law_1285
      have ho : ¬ xs 1 = 0 ∧ ¬ xs 1 = 1 ∧ ¬ xs 1 = 2 := ⟨i0, i1, i2⟩
      have hP : va_P g.1 vwCl [(q1, .inr (10, [.ref q2, .int 0, .ref q3, .ref q52, .ref q73, .ref q13, .ref q67, .ref q76, .ref q11, .ref q86, .ref q84, .ref q12, .ref q85, .int 0])), (q188, .inr (11, fs203))] H := hP.sub [0, 86] rfl
      have hD : va_D A [(q1, .inr (10, [.ref q2, .int 0, .ref q3, .ref q52, .ref q73, .ref q13, .ref q67, .ref q76, .ref q11, .ref q86, .ref q84, .ref q12, .ref q85, .int 0])), (q188, .inr (11, fs203))] := hD.sub [0, 86] (by decide) rfl
      refine lv_aload_n hx hb dL_law_1232 rfl (lv_at hl 2 rfl) ?_
      refine lv_aload_n hx hb dL_law_1233 rfl (lv_at hl 3 rfl) ?_
      refine lv_iload_n hx hb dL_law_1234 rfl (lv_at hl 0 rfl) ?_
      refine lv_iconst (v := 1) hx hb dL_law_1235 (by decide) ?_
      refine lv_iadd hx hb dL_law_1236 ?_
      refine lv_tope (y := 1) (by decide) ?_
      refine sc_ld hx hb hX hbl hbA hS 1 rfl (by decide) (by decide) dL_law_1237 ?_
      refine kI (wc := [(q1, .inr (10, [.ref q2, .int 0, .ref q3, .ref q52, .ref q73, .ref q13, .ref q67, .ref q76, .ref q11, .ref q86, .ref q84, .ref q12, .ref q85, .int 0]))]) (wr := [(q188, .inr (11, fs203))]) (rV (As := [.int (xs 1)]) (rest := []) (meth2 := "") hcx (c_X10_back_out (by assumption) H.size) (gdV q66_21 q66_22 q66_23 q1_2 q67_0) dvX10_back ⟨Nat.le_of_ble_eq_true rfl, Nat.le_of_ble_eq_true rfl⟩ (hP.sub [0] rfl) (hD.sub [0] (by decide) rfl) (va_recv hK hP (ci := 10) (q0 := 0) rfl rfl) rfl hl.1 rfl (Nat.le_of_ble_eq_true rfl) dL_law_1238 ⟨Nat.le_of_ble_eq_true rfl, Nat.le_of_ble_eq_true rfl⟩) hP hD hS hA [0] [1] rfl rfl (by decide) (by decide) (fun r W' H locs hw hP hD hS => ?_)
      obtain ⟨rfl, rfl⟩ := hw
      have hP : va_P g.1 vwCl [(q188, .inr (11, fs203))] H := hP
      have hD : va_D A [(q188, .inr (11, fs203))] := hD
      refine lv_aload_n hx hb dL_law_1241 rfl (lv_at hl 1 rfl) ?_
      refine lv_aload_n hx hb dL_law_1242 rfl (lv_at hl 3 rfl) ?_
      refine lv_iload_n hx hb dL_law_1243 rfl (lv_at hl 0 rfl) ?_
      refine lv_iconst (v := 1) hx hb dL_law_1244 (by decide) ?_
      refine lv_iadd hx hb dL_law_1245 ?_
      refine lv_tope (y := 1) (by decide) ?_
      refine sc_ld hx hb hX hbl hbA hS 1 rfl (by decide) (by decide) dL_law_1246 ?_
      refine kI (wc := [(q188, .inr (11, fs203))]) (wr := []) (rV (As := [.int (xs 1)]) (rest := [.int (-1)]) (meth2 := "") hcx (c_X11_back_out (hf218) (by assumption) H.size) (gdV q67_1 q67_2 q67_3 q1_5 q67_4) dvX11_back ⟨Nat.le_of_ble_eq_true rfl, Nat.le_of_ble_eq_true rfl⟩ (hP.sub [0] rfl) (hD.sub [0] (by decide) rfl) (va_recv hK hP (ci := 11) (q0 := 0) rfl rfl) rfl hl.1 rfl (Nat.le_of_ble_eq_true rfl) dL_law_1247 ⟨Nat.le_of_ble_eq_true rfl, Nat.le_of_ble_eq_true rfl⟩) hP hD hS hA [0] [] rfl rfl (by decide) (by decide) (fun r W' H locs hw hP hD hS => ?_)
      obtain ⟨rfl, rfl⟩ := hw
      have hP : va_P g.1 vwCl [] H := hP
      have hD : va_D A [] := hD
      refine lv_icmp_eq (tgt := 1278) hx hb dL_law_1250 (by decide) (fun _ => ?_) (fun c415 => absurd (by decide) c415)
      refine lv_iinc (v := 6) (lv' := [(3, .int 6), (2, .ref q188), (1, .ref q1), (0, .ref b)]) hx hb dL_law_1278 hl (k := 0) rfl (by decide) (by decide) rfl (fun ls hl => ?_)
      refine lv_goto (tgt := 18) hx hb dL_law_1281 (by decide) ?_
      refine lv_iload_n hx hb dL_law_18 rfl (lv_at hl 0 rfl) ?_
      refine lv_aload_n hx hb dL_law_19 rfl (lv_at hl 3 rfl) ?_
      refine va_slen hx hb hX hbl hbA hS dL_law_20 ?_
      refine lv_tope (y := 6) (by decide) ?_
      refine lv_bipush (v := 6) hx hb dL_law_21 (by decide) ?_
      refine lv_isub hx hb dL_law_23 ?_
      refine lv_tope (y := 0) (by decide) ?_
      refine lv_icmp_gt (tgt := 1284) hx hb dL_law_24 (by decide) (fun _ => ?_) (fun c416 => absurd (by decide) c416)
      refine lv_iconst (v := 1) hx hb dL_law_1284 (by decide) ?_
      refine va_forget (fun q hq => hAl _ (hS.2.2 q hq)) ?_
      refine W.widen (k := 600000) (n := 7302250) (Nat.le_of_ble_eq_true rfl) (Nat.le_of_ble_eq_true rfl) ?_
      exact lw_ret hx hb hr hlocks dL_law_1285
    by_cases c417 : x256 = 41
    · refine lv_tableIn (off := 1222) (tgt := 1255) hx hb dL_law_33 (by rw [c417]; decide) (by rw [c417]; decide) (by rw [c417]; decide) (by decide) ?_
      have hP : va_P g.1 vwCl [(q1, .inr (10, [.ref q2, .int 0, .ref q3, .ref q52, .ref q73, .ref q13, .ref q67, .ref q76, .ref q11, .ref q86, .ref q84, .ref q12, .ref q85, .int 0])), (q46, .inr (1, [.ref q47, .ref q48, .ref q129, .int 0, .int 0, .int 0])), (q49, .inr (1, [.ref q50, .ref q51, .ref q132, .int 0, .int 0, .int 0])), (q67, .inr (7, [.ref q68, .ref q69, .ref q70, .ref q71, .ref q72, .int 0, .int 0, .int 0, .int 0, .int x151])), (q73, .inr (9, [.int 0, .int 0, .int 0, .int 0, .int 0, .ref q157, .ref q40, .ref q41, .ref q42, .ref q43, .ref q158, .ref q44, .ref q75, .ref q45, .ref q74, .ref q46, .ref q49])), (q76, .inr (2, [.ref q77, .int 0, .int 0, .int 0])), (q84, .inr (3, [.ref q168, .int 0])), (q85, .inr (6, [.ref q13, .ref q169, .ref q170, .ref q171, .ref q172, .ref q173, .ref q174, .ref q175, .ref q176, .ref q177, .ref q178, .int 0, .int 0])), (q188, .inr (11, fs203)), (q195, .inl (gI g, 2, .inl f210)), (q197, .inl (gI g, 2, .inl f212)), (q199, .inl (gI g, 24, .inl f214)), (q200, .inl (gI g, 2, .inl f215))] H := hP.sub [0, 45, 48, 66, 72, 75, 83, 84, 86, 93, 95, 97, 98] rfl
      have hD : va_D A [(q1, .inr (10, [.ref q2, .int 0, .ref q3, .ref q52, .ref q73, .ref q13, .ref q67, .ref q76, .ref q11, .ref q86, .ref q84, .ref q12, .ref q85, .int 0])), (q46, .inr (1, [.ref q47, .ref q48, .ref q129, .int 0, .int 0, .int 0])), (q49, .inr (1, [.ref q50, .ref q51, .ref q132, .int 0, .int 0, .int 0])), (q67, .inr (7, [.ref q68, .ref q69, .ref q70, .ref q71, .ref q72, .int 0, .int 0, .int 0, .int 0, .int x151])), (q73, .inr (9, [.int 0, .int 0, .int 0, .int 0, .int 0, .ref q157, .ref q40, .ref q41, .ref q42, .ref q43, .ref q158, .ref q44, .ref q75, .ref q45, .ref q74, .ref q46, .ref q49])), (q76, .inr (2, [.ref q77, .int 0, .int 0, .int 0])), (q84, .inr (3, [.ref q168, .int 0])), (q85, .inr (6, [.ref q13, .ref q169, .ref q170, .ref q171, .ref q172, .ref q173, .ref q174, .ref q175, .ref q176, .ref q177, .ref q178, .int 0, .int 0])), (q188, .inr (11, fs203)), (q195, .inl (gI g, 2, .inl f210)), (q197, .inl (gI g, 2, .inl f212)), (q199, .inl (gI g, 24, .inl f214)), (q200, .inl (gI g, 2, .inl f215))] := hD.sub [0, 45, 48, 66, 72, 75, 83, 84, 86, 93, 95, 97, 98] (by decide) rfl
      refine lv_aload_n hx hb dL_law_1255 rfl (lv_at hl 2 rfl) ?_
      refine lv_aload_n hx hb dL_law_1256 rfl (lv_at hl 3 rfl) ?_
      refine lv_iload_n hx hb dL_law_1257 rfl (lv_at hl 0 rfl) ?_
      refine lv_iconst (v := 1) hx hb dL_law_1258 (by decide) ?_
      refine lv_iadd hx hb dL_law_1259 ?_
      refine lv_tope (y := 1) (by decide) ?_
      refine sc_ld hx hb hX hbl hbA hS 1 rfl (by decide) (by decide) dL_law_1260 ?_
      refine kI (wc := [(q1, .inr (10, [.ref q2, .int 0, .ref q3, .ref q52, .ref q73, .ref q13, .ref q67, .ref q76, .ref q11, .ref q86, .ref q84, .ref q12, .ref q85, .int 0])), (q73, .inr (9, [.int 0, .int 0, .int 0, .int 0, .int 0, .ref q157, .ref q40, .ref q41, .ref q42, .ref q43, .ref q158, .ref q44, .ref q75, .ref q45, .ref q74, .ref q46, .ref q49])), (q46, .inr (1, [.ref q47, .ref q48, .ref q129, .int 0, .int 0, .int 0])), (q49, .inr (1, [.ref q50, .ref q51, .ref q132, .int 0, .int 0, .int 0])), (q67, .inr (7, [.ref q68, .ref q69, .ref q70, .ref q71, .ref q72, .int 0, .int 0, .int 0, .int 0, .int x151])), (q76, .inr (2, [.ref q77, .int 0, .int 0, .int 0])), (q85, .inr (6, [.ref q13, .ref q169, .ref q170, .ref q171, .ref q172, .ref q173, .ref q174, .ref q175, .ref q176, .ref q177, .ref q178, .int 0, .int 0])), (q84, .inr (3, [.ref q168, .int 0]))]) (wr := [(q188, .inr (11, fs203)), (q195, .inl (gI g, 2, .inl f210)), (q197, .inl (gI g, 2, .inl f212)), (q199, .inl (gI g, 24, .inl f214)), (q200, .inl (gI g, 2, .inl f215))]) (rV (As := [.int (xs 1)]) (rest := []) (meth2 := "") hcx (c_X10_about H.size) (gdV q67_5 q67_6 q67_7 q1_2 q67_8) dvX10_about ⟨Nat.le_of_ble_eq_true rfl, Nat.le_of_ble_eq_true rfl⟩ (hP.sub [0, 4, 1, 2, 3, 5, 7, 6] rfl) (hD.sub [0, 4, 1, 2, 3, 5, 7, 6] (by decide) rfl) (va_recv hK hP (ci := 10) (q0 := 0) rfl rfl) rfl hl.1 rfl (Nat.le_of_ble_eq_true rfl) dL_law_1261 ⟨Nat.le_of_ble_eq_true rfl, Nat.le_of_ble_eq_true rfl⟩) hP hD hS hA [0, 4, 1, 2, 3, 5, 7, 6] [8, 9, 10, 11, 12] rfl rfl (by decide) (by decide) (fun r418 W' H locs hw hP hD hS => ?_)
      obtain ⟨hr419, rfl⟩ := hw
      have hP : va_P g.1 vwCl [(q188, .inr (11, fs203)), (q195, .inl (gI g, 2, .inl f210)), (q197, .inl (gI g, 2, .inl f212)), (q199, .inl (gI g, 24, .inl f214)), (q200, .inl (gI g, 2, .inl f215))] H := hP
      have hD : va_D A [(q188, .inr (11, fs203)), (q195, .inl (gI g, 2, .inl f210)), (q197, .inl (gI g, 2, .inl f212)), (q199, .inl (gI g, 24, .inl f214)), (q200, .inl (gI g, 2, .inl f215))] := hD
      refine lv_aload_n hx hb dL_law_1264 rfl (lv_at hl 1 rfl) ?_
      refine lv_aload_n hx hb dL_law_1265 rfl (lv_at hl 3 rfl) ?_
      refine lv_iload_n hx hb dL_law_1266 rfl (lv_at hl 0 rfl) ?_
      refine lv_iconst (v := 1) hx hb dL_law_1267 (by decide) ?_
      refine lv_iadd hx hb dL_law_1268 ?_
      refine lv_tope (y := 1) (by decide) ?_
      refine sc_ld hx hb hX hbl hbA hS 1 rfl (by decide) (by decide) dL_law_1269 ?_
      refine kI (wc := [(q188, .inr (11, fs203)), (q200, .inl (gI g, 2, .inl f215)), (q195, .inl (gI g, 2, .inl f210)), (q199, .inl (gI g, 24, .inl f214)), (q197, .inl (gI g, 2, .inl f212))]) (wr := []) (rV (As := [.int (xs 1)]) (rest := [.int r418]) (meth2 := "") hcx (c_X11_about (hf218) (hf221) (hf220) (hf236) (hf226) (hf237) (hf238) (hf240) (hf241) (hf233) (hf223) (hf239) (hf250) (hf242) (hf246) (hf247) (hf248) (hf249) (hf244) H.size) (gdV q67_19 q67_20 q67_21 q1_5 q67_22) dvX11_about ⟨Nat.le_of_ble_eq_true rfl, Nat.le_of_ble_eq_true rfl⟩ (hP.sub [0, 4, 1, 3, 2] rfl) (hD.sub [0, 4, 1, 3, 2] (by decide) rfl) (va_recv hK hP (ci := 11) (q0 := 0) rfl rfl) rfl hl.1 rfl (Nat.le_of_ble_eq_true rfl) dL_law_1270 ⟨Nat.le_of_ble_eq_true rfl, Nat.le_of_ble_eq_true rfl⟩) hP hD hS hA [0, 4, 1, 3, 2] [] rfl rfl (by decide) (by decide) (fun r420 W' H locs hw hP hD hS => ?_)
      obtain ⟨hr421, rfl⟩ := hw
      have hP : va_P g.1 vwCl [] H := hP
      have hD : va_D A [] := hD
      refine lv_icmp_eq (tgt := 1278) hx hb dL_law_1273 (by decide) (fun _ => ?_) (fun c422 => absurd (hr419.trans hr421.symm) c422)
      refine lv_iinc (v := 6) (lv' := [(3, .int 6), (2, .ref q188), (1, .ref q1), (0, .ref b)]) hx hb dL_law_1278 hl (k := 0) rfl (by decide) (by decide) rfl (fun ls hl => ?_)
      refine lv_goto (tgt := 18) hx hb dL_law_1281 (by decide) ?_
      refine lv_iload_n hx hb dL_law_18 rfl (lv_at hl 0 rfl) ?_
      refine lv_aload_n hx hb dL_law_19 rfl (lv_at hl 3 rfl) ?_
      refine va_slen hx hb hX hbl hbA hS dL_law_20 ?_
      refine lv_tope (y := 6) (by decide) ?_
      refine lv_bipush (v := 6) hx hb dL_law_21 (by decide) ?_
      refine lv_isub hx hb dL_law_23 ?_
      refine lv_tope (y := 0) (by decide) ?_
      refine lv_icmp_gt (tgt := 1284) hx hb dL_law_24 (by decide) (fun _ => ?_) (fun c423 => absurd (by decide) c423)
      refine lv_iconst (v := 1) hx hb dL_law_1284 (by decide) ?_
      refine va_forget (fun q hq => hAl _ (hS.2.2 q hq)) ?_
      refine W.widen (k := 600000) (n := 7302250) (Nat.le_of_ble_eq_true rfl) (Nat.le_of_ble_eq_true rfl) ?_
      exact lw_ret hx hb hr hlocks dL_law_1285
    refine lv_tableOut (tgt := 1278) hx hb dL_law_33 (sw_out (hi := 41) (by decide) (fun v hv => match v, hv with | 0, _ => c257 | 1, _ => c260 | 2, _ => c267 | 3, _ => c270 | 4, _ => c277 | 5, _ => c280 | 6, _ => c283 | 7, _ => c286 | 8, _ => c289 | 9, _ => c292 | 10, _ => c295 | 11, _ => c298 | 12, _ => c301 | 13, _ => c304 | 14, _ => c307 | 15, _ => c310 | 16, _ => c313 | 17, _ => c316 | 18, _ => c323 | 19, _ => c326 | 20, _ => c329 | 21, _ => c332 | 22, _ => c335 | 23, _ => c338 | 24, _ => c341 | 25, _ => c344 | 26, _ => c347 | 27, _ => c350 | 28, _ => c353 | 29, _ => c360 | 30, _ => c363 | 31, _ => c366 | 32, _ => c369 | 33, _ => c372 | 34, _ => c380 | 35, _ => c383 | 36, _ => c390 | 37, _ => c393 | 38, _ => c396 | 39, _ => c399 | 40, _ => c408 | 41, _ => c417 | n + 42, h => absurd h (by omega))) (by decide) ?_
    refine lv_iinc (v := 6) (lv' := [(3, .int 6), (2, .ref q188), (1, .ref q1), (0, .ref b)]) hx hb dL_law_1278 hl (k := 0) rfl (by decide) (by decide) rfl (fun ls hl => ?_)
    refine lv_goto (tgt := 18) hx hb dL_law_1281 (by decide) ?_
    refine lv_iload_n hx hb dL_law_18 rfl (lv_at hl 0 rfl) ?_
    refine lv_aload_n hx hb dL_law_19 rfl (lv_at hl 3 rfl) ?_
    refine va_slen hx hb hX hbl hbA hS dL_law_20 ?_
    refine lv_tope (y := 6) (by decide) ?_
    refine lv_bipush (v := 6) hx hb dL_law_21 (by decide) ?_
    refine lv_isub hx hb dL_law_23 ?_
    refine lv_tope (y := 0) (by decide) ?_
    refine lv_icmp_gt (tgt := 1284) hx hb dL_law_24 (by decide) (fun _ => ?_) (fun c424 => absurd (by decide) c424)
    refine lv_iconst (v := 1) hx hb dL_law_1284 (by decide) ?_
    refine va_forget (fun q hq => hAl _ (hS.2.2 q hq)) ?_
    refine W.widen (k := 600000) (n := 7302250) (Nat.le_of_ble_eq_true rfl) (Nat.le_of_ble_eq_true rfl) ?_
    exact lw_ret hx hb hr hlocks dL_law_1285
  · refine lv_iload_n hx hb dL_law_18 rfl (lv_at hl 0 rfl) ?_
    refine lv_aload_n hx hb dL_law_19 rfl (lv_at hl 3 rfl) ?_
    refine va_slen hx hb hX hbl hbA hS dL_law_20 ?_
    refine lv_bipush (v := 6) hx hb dL_law_21 (by decide) ?_
    refine lv_isub hx hb dL_law_23 ?_
    refine lv_icmp_gt (tgt := 1284) hx hb dL_law_24 (by decide) (fun _ => ?_) (fun c9 => absurd (L_lt L (by omega)) c9)
    refine lv_iconst (v := 1) hx hb dL_law_1284 (by decide) ?_
    refine va_forget (fun q hq => hAl _ (hS.2.2 q hq)) ?_
    refine W.widen (k := 600000) (n := 7302250) (Nat.le_of_ble_eq_true rfl) (Nat.le_of_ble_eq_true rfl) ?_
    exact lw_ret hx hb hr hlocks dL_law_1285
