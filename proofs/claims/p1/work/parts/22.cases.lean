set_option maxHeartbeats 40000000 in
set_option maxRecDepth 100000 in
theorem lc_0 {p : Program} {l : Launch} {e : Env} {s : State} {m : MethodId} {below : List Frame} {meth : Method} {c : Code} {g : Gx} {b : Nat} {xs : Nat → Int32} {A : Nat → Prop} {H : Heap} {locs : List Loc} {ls : Array Slot} {nc ns : Nat} {q1 : Nat} {q2 : Nat} {q3 : Nat} {q52 : Nat} {q73 : Nat} {q13 : Nat} {q67 : Nat} {q76 : Nat} {q11 : Nat} {q86 : Nat} {q84 : Nat} {q12 : Nat} {q85 : Nat} {f87 : Nat → Int32} {q188 : Nat} {fs203 : List Value} {q189 : Nat} {q195 : Nat} {q200 : Nat} {q196 : Nat} {q197 : Nat} {q201 : Nat} {q198 : Nat} {q199 : Nat} {q190 : Nat} {q191 : Nat} {q192 : Nat} {q193 : Nat} {q194 : Nat} {q202 : Nat} {f204 : Nat → Int32} (hnc : nc ≤ 1000) (hns : ns ≤ 100000) (hcx : Cx p s m #[Value.ref b] meth c cL_law 4 ret RL meth.name g) (hX : va_X b 6 xs s s.heap) (hbl : b < s.heap.size) (hbA : ¬ A b) (hA : ∀ q : Nat, s.heap.size ≤ q → A q) (hAl : ∀ q : Nat, A q → s.heap.size ≤ q) (hf218 : fs203.length = 69) (hf219 : fs203[0]? = some (Value.ref q189)) (hf220 : fs203[11]? = some (Value.ref q195)) (hf221 : fs203[12]? = some (Value.ref q200)) (hf222 : fs203[13]? = some (Value.ref q196)) (hf223 : fs203[14]? = some (Value.ref q197)) (hf224 : fs203[15]? = some (Value.ref q201)) (hf225 : fs203[16]? = some (Value.ref q198)) (hf226 : fs203[46]? = some (Value.ref q199)) (hf227 : fs203[48]? = some (Value.ref q190)) (hf228 : fs203[51]? = some (Value.ref q191)) (hf229 : fs203[53]? = some (Value.ref q192)) (hf230 : fs203[56]? = some (Value.ref q193)) (hf231 : fs203[67]? = some (Value.ref q194)) (hf232 : fs203[68]? = some (Value.ref q202)) (hf233 : fs203[2]? = some (Value.int 0)) (hf234 : fs203[4]? = some (Value.int 0)) (hf235 : fs203[5]? = some (Value.int (-1))) (hf236 : fs203[34]? = some (Value.int 0)) (hf237 : fs203[49]? = some (Value.int 0)) (hf238 : fs203[50]? = some (Value.int 0)) (hf239 : fs203[54]? = some (Value.int 0)) (hf240 : fs203[65]? = some (Value.int 0)) (hf241 : fs203[66]? = some (Value.int 0)) (hP : va_P g.1 vwCl [(q1, .inr (10, [.ref q2, .int 0, .ref q3, .ref q52, .ref q73, .ref q13, .ref q67, .ref q76, .ref q11, .ref q86, .ref q84, .ref q12, .ref q85, .int 0])), (q2, .inl (gB g, 1600, .inl f87)), (q188, .inr (11, fs203)), (q189, .inl (gB g, 1620, .inl f204))] H) (hD : va_D A [(q1, .inr (10, [.ref q2, .int 0, .ref q3, .ref q52, .ref q73, .ref q13, .ref q67, .ref q76, .ref q11, .ref q86, .ref q84, .ref q12, .ref q85, .int 0])), (q2, .inl (gB g, 1600, .inl f87)), (q188, .inr (11, fs203)), (q189, .inl (gB g, 1620, .inl f204))]) (hS : va_S A s.heap H locs) (hl : lv_has ls 4 [(3, .int 0), (2, .ref q188), (1, .ref q1), (0, .ref b)]) : W p l e room_1 s m #[Value.ref b] below meth c H locs nc ns (lw_Z below #[Value.ref b] s) (F0 m 216 ls []) := by
  obtain ⟨hx, hb, hml, hr, hlocks, hown, hts, hE, hnm⟩ := id hcx
  have hK := hE.1
  refine lv_aload_n hx hb dL_law_216 rfl (lv_at hl 2 rfl) ?_
  refine lv_aload_n hx hb dL_law_217 rfl (lv_at hl 3 rfl) ?_
  refine lv_iload_n hx hb dL_law_218 rfl (lv_at hl 0 rfl) ?_
  refine lv_iconst (v := 1) hx hb dL_law_219 (by decide) ?_
  refine lv_iadd hx hb dL_law_220 ?_
  refine lv_tope (y := 1) (by decide) ?_
  refine sc_ld hx hb hX hbl hbA hS 1 rfl (by decide) (by decide) dL_law_221 ?_
  refine lv_aload_n hx hb dL_law_222 rfl (lv_at hl 3 rfl) ?_
  refine lv_iload_n hx hb dL_law_223 rfl (lv_at hl 0 rfl) ?_
  refine lv_iconst (v := 2) hx hb dL_law_224 (by decide) ?_
  refine lv_iadd hx hb dL_law_225 ?_
  refine lv_tope (y := 2) (by decide) ?_
  refine sc_ld hx hb hX hbl hbA hS 2 rfl (by decide) (by decide) dL_law_226 ?_
  refine lv_aload_n hx hb dL_law_227 rfl (lv_at hl 3 rfl) ?_
  refine lv_iload_n hx hb dL_law_228 rfl (lv_at hl 0 rfl) ?_
  refine lv_iconst (v := 3) hx hb dL_law_229 (by decide) ?_
  refine lv_iadd hx hb dL_law_230 ?_
  refine lv_tope (y := 3) (by decide) ?_
  refine sc_ld hx hb hX hbl hbA hS 3 rfl (by decide) (by decide) dL_law_231 ?_
  refine lv_aload_n hx hb dL_law_232 rfl (lv_at hl 3 rfl) ?_
  refine lv_iload_n hx hb dL_law_233 rfl (lv_at hl 0 rfl) ?_
  refine lv_iconst (v := 4) hx hb dL_law_234 (by decide) ?_
  refine lv_iadd hx hb dL_law_235 ?_
  refine lv_tope (y := 4) (by decide) ?_
  refine sc_ld hx hb hX hbl hbA hS 4 rfl (by decide) (by decide) dL_law_236 ?_
  refine lv_aload_n hx hb dL_law_237 rfl (lv_at hl 3 rfl) ?_
  refine lv_iload_n hx hb dL_law_238 rfl (lv_at hl 0 rfl) ?_
  refine lv_iconst (v := 5) hx hb dL_law_239 (by decide) ?_
  refine lv_iadd hx hb dL_law_240 ?_
  refine lv_tope (y := 5) (by decide) ?_
  refine sc_ld hx hb hX hbl hbA hS 5 rfl (by decide) (by decide) dL_law_241 ?_
  refine kI (wc := [(q1, .inr (10, [.ref q2, .int 0, .ref q3, .ref q52, .ref q73, .ref q13, .ref q67, .ref q76, .ref q11, .ref q86, .ref q84, .ref q12, .ref q85, .int 0])), (q2, .inl (gB g, 1600, .inl f87))]) (wr := [(q188, .inr (11, fs203)), (q189, .inl (gB g, 1620, .inl f204))]) (rV (As := [.int (xs 1), .int (xs 2), .int (xs 3), .int (xs 4), .int (xs 5)]) (rest := []) (meth2 := "") hcx (c_X10_feed H.size) (gdV q15_10 q15_11 q15_12 q1_2 q15_13) dvX10_feed ⟨Nat.le_of_ble_eq_true rfl, Nat.le_of_ble_eq_true rfl⟩ (hP.sub [0, 1] rfl) (hD.sub [0, 1] (by decide) rfl) (va_recv hK hP (ci := 10) (q0 := 0) rfl rfl) rfl hl.1 rfl (Nat.le_of_ble_eq_true rfl) dL_law_242 ⟨by show _ + 0 ≤ 600000; omega, by show _ + 0 ≤ 7302250; omega⟩) hP hD hS hA [0, 1] [2, 3] rfl rfl (by decide) (by decide) (fun r W' H locs hw hP hD hS => ?_)
  obtain ⟨rfl, rfl⟩ := hw
  have hP : va_P g.1 vwCl [(q188, .inr (11, fs203)), (q189, .inl (gB g, 1620, .inl f204))] H := hP
  have hD : va_D A [(q188, .inr (11, fs203)), (q189, .inl (gB g, 1620, .inl f204))] := hD
  refine lv_aload_n hx hb dL_law_245 rfl (lv_at hl 1 rfl) ?_
  refine lv_aload_n hx hb dL_law_246 rfl (lv_at hl 3 rfl) ?_
  refine lv_iload_n hx hb dL_law_247 rfl (lv_at hl 0 rfl) ?_
  refine lv_iconst (v := 1) hx hb dL_law_248 (by decide) ?_
  refine lv_iadd hx hb dL_law_249 ?_
  refine lv_tope (y := 1) (by decide) ?_
  refine sc_ld hx hb hX hbl hbA hS 1 rfl (by decide) (by decide) dL_law_250 ?_
  refine lv_aload_n hx hb dL_law_251 rfl (lv_at hl 3 rfl) ?_
  refine lv_iload_n hx hb dL_law_252 rfl (lv_at hl 0 rfl) ?_
  refine lv_iconst (v := 2) hx hb dL_law_253 (by decide) ?_
  refine lv_iadd hx hb dL_law_254 ?_
  refine lv_tope (y := 2) (by decide) ?_
  refine sc_ld hx hb hX hbl hbA hS 2 rfl (by decide) (by decide) dL_law_255 ?_
  refine lv_aload_n hx hb dL_law_256 rfl (lv_at hl 3 rfl) ?_
  refine lv_iload_n hx hb dL_law_257 rfl (lv_at hl 0 rfl) ?_
  refine lv_iconst (v := 3) hx hb dL_law_258 (by decide) ?_
  refine lv_iadd hx hb dL_law_259 ?_
  refine lv_tope (y := 3) (by decide) ?_
  refine sc_ld hx hb hX hbl hbA hS 3 rfl (by decide) (by decide) dL_law_260 ?_
  refine lv_aload_n hx hb dL_law_261 rfl (lv_at hl 3 rfl) ?_
  refine lv_iload_n hx hb dL_law_262 rfl (lv_at hl 0 rfl) ?_
  refine lv_iconst (v := 4) hx hb dL_law_263 (by decide) ?_
  refine lv_iadd hx hb dL_law_264 ?_
  refine lv_tope (y := 4) (by decide) ?_
  refine sc_ld hx hb hX hbl hbA hS 4 rfl (by decide) (by decide) dL_law_265 ?_
  refine lv_aload_n hx hb dL_law_266 rfl (lv_at hl 3 rfl) ?_
  refine lv_iload_n hx hb dL_law_267 rfl (lv_at hl 0 rfl) ?_
  refine lv_iconst (v := 5) hx hb dL_law_268 (by decide) ?_
  refine lv_iadd hx hb dL_law_269 ?_
  refine lv_tope (y := 5) (by decide) ?_
  refine sc_ld hx hb hX hbl hbA hS 5 rfl (by decide) (by decide) dL_law_270 ?_
  refine kI (wc := [(q188, .inr (11, fs203)), (q189, .inl (gB g, 1620, .inl f204))]) (wr := []) (rV (As := [.int (xs 1), .int (xs 2), .int (xs 3), .int (xs 4), .int (xs 5)]) (rest := [.int 20]) (meth2 := "") hcx (c_X11_feed (hf218) (hf219) (hf233) H.size) (gdV q15_19 q15_20 q15_21 q1_5 q15_22) dvX11_feed ⟨Nat.le_of_ble_eq_true rfl, Nat.le_of_ble_eq_true rfl⟩ (hP.sub [0, 1] rfl) (hD.sub [0, 1] (by decide) rfl) (va_recv hK hP (ci := 11) (q0 := 0) rfl rfl) rfl hl.1 rfl (Nat.le_of_ble_eq_true rfl) dL_law_271 ⟨by show _ + 0 ≤ 600000; omega, by show _ + 0 ≤ 7302250; omega⟩) hP hD hS hA [0, 1] [] rfl rfl (by decide) (by decide) (fun r W' H locs hw hP hD hS => ?_)
  obtain ⟨rfl, rfl⟩ := hw
  have hP : va_P g.1 vwCl [] H := hP
  have hD : va_D A [] := hD
  refine lv_icmp_eq (tgt := 1278) hx hb dL_law_274 (by decide) (fun _ => ?_) (fun c1001 => absurd (by decide) c1001)
  refine lv_iinc (v := 6) (lv' := [(3, .int 6), (2, .ref q188), (1, .ref q1), (0, .ref b)]) hx hb dL_law_1278 hl (k := 0) rfl (by decide) (by decide) rfl (fun ls hl => ?_)
  refine lv_goto (tgt := 18) hx hb dL_law_1281 (by decide) ?_
  refine lv_iload_n hx hb dL_law_18 rfl (lv_at hl 0 rfl) ?_
  refine lv_aload_n hx hb dL_law_19 rfl (lv_at hl 3 rfl) ?_
  refine va_slen hx hb hX hbl hbA hS dL_law_20 ?_
  refine lv_tope (y := 6) (by decide) ?_
  refine lv_bipush (v := 6) hx hb dL_law_21 (by decide) ?_
  refine lv_isub hx hb dL_law_23 ?_
  refine lv_tope (y := 0) (by decide) ?_
  refine lv_icmp_gt (tgt := 1284) hx hb dL_law_24 (by decide) (fun _ => ?_) (fun c1002 => absurd (by decide) c1002)
  refine lv_iconst (v := 1) hx hb dL_law_1284 (by decide) ?_
  refine va_forget (fun q hq => hAl _ (hS.2.2 q hq)) ?_
  refine W.widen (k := 600000) (n := 7302250) (by omega) (by omega) ?_
  exact lw_ret hx hb hr hlocks dL_law_1285

set_option maxHeartbeats 40000000 in
set_option maxRecDepth 100000 in
theorem lc_1 {p : Program} {l : Launch} {e : Env} {s : State} {m : MethodId} {below : List Frame} {meth : Method} {c : Code} {g : Gx} {b : Nat} {xs : Nat → Int32} {A : Nat → Prop} {H : Heap} {locs : List Loc} {ls : Array Slot} {nc ns : Nat} {q1 : Nat} {q2 : Nat} {q3 : Nat} {q52 : Nat} {q73 : Nat} {q13 : Nat} {q67 : Nat} {q76 : Nat} {q11 : Nat} {q86 : Nat} {q84 : Nat} {q12 : Nat} {q85 : Nat} {q188 : Nat} {fs203 : List Value} {q189 : Nat} {q195 : Nat} {q200 : Nat} {q196 : Nat} {q197 : Nat} {q201 : Nat} {q198 : Nat} {q199 : Nat} {q190 : Nat} {q191 : Nat} {q192 : Nat} {q193 : Nat} {q194 : Nat} {q202 : Nat} (hnc : nc ≤ 1000) (hns : ns ≤ 100000) (hcx : Cx p s m #[Value.ref b] meth c cL_law 4 ret RL meth.name g) (hX : va_X b 6 xs s s.heap) (hbl : b < s.heap.size) (hbA : ¬ A b) (hA : ∀ q : Nat, s.heap.size ≤ q → A q) (hAl : ∀ q : Nat, A q → s.heap.size ≤ q) (hf218 : fs203.length = 69) (hf219 : fs203[0]? = some (Value.ref q189)) (hf220 : fs203[11]? = some (Value.ref q195)) (hf221 : fs203[12]? = some (Value.ref q200)) (hf222 : fs203[13]? = some (Value.ref q196)) (hf223 : fs203[14]? = some (Value.ref q197)) (hf224 : fs203[15]? = some (Value.ref q201)) (hf225 : fs203[16]? = some (Value.ref q198)) (hf226 : fs203[46]? = some (Value.ref q199)) (hf227 : fs203[48]? = some (Value.ref q190)) (hf228 : fs203[51]? = some (Value.ref q191)) (hf229 : fs203[53]? = some (Value.ref q192)) (hf230 : fs203[56]? = some (Value.ref q193)) (hf231 : fs203[67]? = some (Value.ref q194)) (hf232 : fs203[68]? = some (Value.ref q202)) (hf233 : fs203[2]? = some (Value.int 0)) (hf234 : fs203[4]? = some (Value.int 0)) (hf235 : fs203[5]? = some (Value.int (-1))) (hf236 : fs203[34]? = some (Value.int 0)) (hf237 : fs203[49]? = some (Value.int 0)) (hf238 : fs203[50]? = some (Value.int 0)) (hf239 : fs203[54]? = some (Value.int 0)) (hf240 : fs203[65]? = some (Value.int 0)) (hf241 : fs203[66]? = some (Value.int 0)) (hP : va_P g.1 vwCl [(q1, .inr (10, [.ref q2, .int 0, .ref q3, .ref q52, .ref q73, .ref q13, .ref q67, .ref q76, .ref q11, .ref q86, .ref q84, .ref q12, .ref q85, .int 0])), (q188, .inr (11, fs203))] H) (hD : va_D A [(q1, .inr (10, [.ref q2, .int 0, .ref q3, .ref q52, .ref q73, .ref q13, .ref q67, .ref q76, .ref q11, .ref q86, .ref q84, .ref q12, .ref q85, .int 0])), (q188, .inr (11, fs203))]) (hS : va_S A s.heap H locs) (hl : lv_has ls 4 [(3, .int 0), (2, .ref q188), (1, .ref q1), (0, .ref b)]) : W p l e room_1 s m #[Value.ref b] below meth c H locs nc ns (lw_Z below #[Value.ref b] s) (F0 m 279 ls []) := by
  obtain ⟨hx, hb, hml, hr, hlocks, hown, hts, hE, hnm⟩ := id hcx
  have hK := hE.1
  refine lv_aload_n hx hb dL_law_279 rfl (lv_at hl 2 rfl) ?_
  refine lv_aload_n hx hb dL_law_280 rfl (lv_at hl 3 rfl) ?_
  refine lv_iload_n hx hb dL_law_281 rfl (lv_at hl 0 rfl) ?_
  refine lv_iconst (v := 1) hx hb dL_law_282 (by decide) ?_
  refine lv_iadd hx hb dL_law_283 ?_
  refine lv_tope (y := 1) (by decide) ?_
  refine sc_ld hx hb hX hbl hbA hS 1 rfl (by decide) (by decide) dL_law_284 ?_
  refine kI (wc := [(q1, .inr (10, [.ref q2, .int 0, .ref q3, .ref q52, .ref q73, .ref q13, .ref q67, .ref q76, .ref q11, .ref q86, .ref q84, .ref q12, .ref q85, .int 0]))]) (wr := [(q188, .inr (11, fs203))]) (rV (As := [.int (xs 1)]) (rest := []) (meth2 := "") hcx (c_X10_end H.size) (gdV q16_0 q16_1 q16_2 q1_2 q16_3) dvX10_end ⟨Nat.le_of_ble_eq_true rfl, Nat.le_of_ble_eq_true rfl⟩ (hP.sub [0] rfl) (hD.sub [0] (by decide) rfl) (va_recv hK hP (ci := 10) (q0 := 0) rfl rfl) rfl hl.1 rfl (Nat.le_of_ble_eq_true rfl) dL_law_285 ⟨by show _ + 0 ≤ 600000; omega, by show _ + 0 ≤ 7302250; omega⟩) hP hD hS hA [0] [1] rfl rfl (by decide) (by decide) (fun r1001 W' H locs hw hP hD hS => ?_)
  obtain ⟨hr1002, rfl⟩ := hw
  have hP : va_P g.1 vwCl [(q188, .inr (11, fs203))] H := hP
  have hD : va_D A [(q188, .inr (11, fs203))] := hD
  refine lv_aload_n hx hb dL_law_288 rfl (lv_at hl 1 rfl) ?_
  refine lv_aload_n hx hb dL_law_289 rfl (lv_at hl 3 rfl) ?_
  refine lv_iload_n hx hb dL_law_290 rfl (lv_at hl 0 rfl) ?_
  refine lv_iconst (v := 1) hx hb dL_law_291 (by decide) ?_
  refine lv_iadd hx hb dL_law_292 ?_
  refine lv_tope (y := 1) (by decide) ?_
  refine sc_ld hx hb hX hbl hbA hS 1 rfl (by decide) (by decide) dL_law_293 ?_
  refine kI (wc := [(q188, .inr (11, fs203))]) (wr := []) (rV (As := [.int (xs 1)]) (rest := [.int r1001]) (meth2 := "") hcx (c_X11_end (hf218) (hf233) H.size) (gdV q16_4 q16_5 q16_6 q1_5 q16_7) dvX11_end ⟨Nat.le_of_ble_eq_true rfl, Nat.le_of_ble_eq_true rfl⟩ (hP.sub [0] rfl) (hD.sub [0] (by decide) rfl) (va_recv hK hP (ci := 11) (q0 := 0) rfl rfl) rfl hl.1 rfl (Nat.le_of_ble_eq_true rfl) dL_law_294 ⟨by show _ + 0 ≤ 600000; omega, by show _ + 0 ≤ 7302250; omega⟩) hP hD hS hA [0] [] rfl rfl (by decide) (by decide) (fun r1003 W' H locs hw hP hD hS => ?_)
  obtain ⟨hr1004, rfl⟩ := hw
  have hP : va_P g.1 vwCl [] H := hP
  have hD : va_D A [] := hD
  refine lv_icmp_eq (tgt := 1278) hx hb dL_law_297 (by decide) (fun _ => ?_) (fun c1005 => absurd (hr1002.trans hr1004.symm) c1005)
  refine lv_iinc (v := 6) (lv' := [(3, .int 6), (2, .ref q188), (1, .ref q1), (0, .ref b)]) hx hb dL_law_1278 hl (k := 0) rfl (by decide) (by decide) rfl (fun ls hl => ?_)
  refine lv_goto (tgt := 18) hx hb dL_law_1281 (by decide) ?_
  refine lv_iload_n hx hb dL_law_18 rfl (lv_at hl 0 rfl) ?_
  refine lv_aload_n hx hb dL_law_19 rfl (lv_at hl 3 rfl) ?_
  refine va_slen hx hb hX hbl hbA hS dL_law_20 ?_
  refine lv_tope (y := 6) (by decide) ?_
  refine lv_bipush (v := 6) hx hb dL_law_21 (by decide) ?_
  refine lv_isub hx hb dL_law_23 ?_
  refine lv_tope (y := 0) (by decide) ?_
  refine lv_icmp_gt (tgt := 1284) hx hb dL_law_24 (by decide) (fun _ => ?_) (fun c1006 => absurd (by decide) c1006)
  refine lv_iconst (v := 1) hx hb dL_law_1284 (by decide) ?_
  refine va_forget (fun q hq => hAl _ (hS.2.2 q hq)) ?_
  refine W.widen (k := 600000) (n := 7302250) (by omega) (by omega) ?_
  exact lw_ret hx hb hr hlocks dL_law_1285

set_option maxHeartbeats 40000000 in
set_option maxRecDepth 100000 in
theorem lc_2 {p : Program} {l : Launch} {e : Env} {s : State} {m : MethodId} {below : List Frame} {meth : Method} {c : Code} {g : Gx} {b : Nat} {xs : Nat → Int32} {A : Nat → Prop} {H : Heap} {locs : List Loc} {ls : Array Slot} {nc ns : Nat} {q1 : Nat} {q2 : Nat} {q3 : Nat} {q52 : Nat} {q73 : Nat} {q13 : Nat} {q67 : Nat} {q76 : Nat} {q11 : Nat} {q86 : Nat} {q84 : Nat} {q12 : Nat} {q85 : Nat} {f87 : Nat → Int32} {q4 : Nat} {q88 : Nat} {q89 : Nat} {q40 : Nat} {f123 : Nat → Int32} {q41 : Nat} {f124 : Nat → Int32} {q42 : Nat} {f125 : Nat → Int32} {q43 : Nat} {f126 : Nat → Int32} {q44 : Nat} {f127 : Nat → Int32} {q45 : Nat} {f128 : Nat → Int32} {q46 : Nat} {q47 : Nat} {q48 : Nat} {q129 : Nat} {f130 : Nat → Int32} {f131 : Nat → Int32} {q49 : Nat} {q50 : Nat} {q51 : Nat} {q132 : Nat} {f133 : Nat → Int32} {f134 : Nat → Int32} {q135 : Nat} {q53 : Nat} {q54 : Nat} {q55 : Nat} {q56 : Nat} {q136 : Nat} {q57 : Nat} {q58 : Nat} {q59 : Nat} {q60 : Nat} {q61 : Nat} {q64 : Nat} {f137 : Nat → Int32} {f138 : Nat → Int32} {f139 : Nat → Int32} {f140 : Nat → Int32} {f141 : Nat → Int32} {f142 : Nat → Int32} {f143 : Nat → Int32} {f144 : Nat → Int32} {q62 : Nat} {q63 : Nat} {q145 : Nat} {f146 : Nat → Int32} {f147 : Nat → Int32} {q65 : Nat} {q66 : Nat} {q148 : Nat} {f149 : Nat → Int32} {f150 : Nat → Int32} {q68 : Nat} {q69 : Nat} {q70 : Nat} {q71 : Nat} {q72 : Nat} {x151 : Int32} {f152 : Nat → Int32} {f153 : Nat → Int32} {f154 : Nat → Int32} {f155 : Nat → Int32} {f156 : Nat → Int32} {q157 : Nat} {q158 : Nat} {q75 : Nat} {q74 : Nat} {f159 : Nat → Int32} {f160 : Nat → Int32} {q77 : Nat} {f161 : Nat → Option Nat} {q78 : Nat} {q5 : Nat} {q79 : Nat} {q80 : Nat} {q81 : Nat} {q82 : Nat} {q83 : Nat} {x162 : Int32} {f163 : Nat → Int32} {f164 : Nat → Int32} {f165 : Nat → Int32} {f166 : Nat → Int32} {f167 : Nat → Int32} {q168 : Nat} {q169 : Nat} {q170 : Nat} {q171 : Nat} {q172 : Nat} {q173 : Nat} {q174 : Nat} {q175 : Nat} {q176 : Nat} {q177 : Nat} {q178 : Nat} {f179 : Nat → Int32} {q188 : Nat} {fs203 : List Value} {q189 : Nat} {q195 : Nat} {q200 : Nat} {q196 : Nat} {q197 : Nat} {q201 : Nat} {q198 : Nat} {q199 : Nat} {q190 : Nat} {q191 : Nat} {q192 : Nat} {q193 : Nat} {q194 : Nat} {q202 : Nat} {f210 : Nat → Int32} {f211 : Nat → Int32} {f212 : Nat → Int32} {f213 : Nat → Int32} {f214 : Nat → Int32} {f215 : Nat → Int32} {f216 : Nat → Int32} {f217 : Nat → Int32} (hnc : nc ≤ 1000) (hns : ns ≤ 100000) (hcx : Cx p s m #[Value.ref b] meth c cL_law 4 ret RL meth.name g) (hX : va_X b 6 xs s s.heap) (hbl : b < s.heap.size) (hbA : ¬ A b) (hA : ∀ q : Nat, s.heap.size ≤ q → A q) (hAl : ∀ q : Nat, A q → s.heap.size ≤ q) (hf183 : f161 0 = some q78) (hf184 : f161 1 = some q5) (hf185 : f179 0 = 0) (hf186 : f179 1 = 0) (hf187 : f179 2 = 0) (hf218 : fs203.length = 69) (hf219 : fs203[0]? = some (Value.ref q189)) (hf220 : fs203[11]? = some (Value.ref q195)) (hf221 : fs203[12]? = some (Value.ref q200)) (hf222 : fs203[13]? = some (Value.ref q196)) (hf223 : fs203[14]? = some (Value.ref q197)) (hf224 : fs203[15]? = some (Value.ref q201)) (hf225 : fs203[16]? = some (Value.ref q198)) (hf226 : fs203[46]? = some (Value.ref q199)) (hf227 : fs203[48]? = some (Value.ref q190)) (hf228 : fs203[51]? = some (Value.ref q191)) (hf229 : fs203[53]? = some (Value.ref q192)) (hf230 : fs203[56]? = some (Value.ref q193)) (hf231 : fs203[67]? = some (Value.ref q194)) (hf232 : fs203[68]? = some (Value.ref q202)) (hf233 : fs203[2]? = some (Value.int 0)) (hf234 : fs203[4]? = some (Value.int 0)) (hf235 : fs203[5]? = some (Value.int (-1))) (hf236 : fs203[34]? = some (Value.int 0)) (hf237 : fs203[49]? = some (Value.int 0)) (hf238 : fs203[50]? = some (Value.int 0)) (hf239 : fs203[54]? = some (Value.int 0)) (hf240 : fs203[65]? = some (Value.int 0)) (hf241 : fs203[66]? = some (Value.int 0)) (hf242 : f210 0 = 0) (hf243 : f211 0 = 0) (hf244 : f212 0 = 0) (hf245 : f213 0 = 0) (hf246 : f214 20 = 0) (hf247 : f214 21 = 0) (hf248 : f214 22 = 0) (hf249 : f214 23 = 0) (hf250 : f215 0 = 0) (hf251 : f216 0 = 0) (hf252 : f217 0 = 0) (hf253 : f217 1 = 0) (hf254 : f217 2 = 0) (hP : va_P g.1 vwCl [(q1, .inr (10, [.ref q2, .int 0, .ref q3, .ref q52, .ref q73, .ref q13, .ref q67, .ref q76, .ref q11, .ref q86, .ref q84, .ref q12, .ref q85, .int 0])), (q2, .inl (gB g, 1600, .inl f87)), (q3, .inr (5, [.ref q4, .int 0, .int 0, .int 0, .int (-1)])), (q4, .inr (8, [.ref q88, .ref q89, .int 0, .int 0, .int 0, .int 0, .int 0, .long 0, .int 0, .int 0])), (q40, .inl (gI g, 8, .inl f123)), (q41, .inl (gI g, 8, .inl f124)), (q42, .inl (gI g, 8, .inl f125)), (q43, .inl (gI g, 8, .inl f126)), (q44, .inl (gI g, 5, .inl f127)), (q45, .inl (gI g, 5, .inl f128)), (q46, .inr (1, [.ref q47, .ref q48, .ref q129, .int 0, .int 0, .int 0])), (q47, .inl (gI g, 300, .inl f130)), (q48, .inl (gI g, 300, .inl f131)), (q49, .inr (1, [.ref q50, .ref q51, .ref q132, .int 0, .int 0, .int 0])), (q50, .inl (gI g, 300, .inl f133)), (q51, .inl (gI g, 300, .inl f134)), (q52, .inr (9, [.int 0, .int 0, .int 0, .int 0, .int 0, .ref q135, .ref q53, .ref q54, .ref q55, .ref q56, .ref q136, .ref q57, .ref q58, .ref q59, .ref q60, .ref q61, .ref q64])), (q53, .inl (gI g, 8, .inl f137)), (q54, .inl (gI g, 8, .inl f138)), (q55, .inl (gI g, 8, .inl f139)), (q56, .inl (gI g, 8, .inl f140)), (q57, .inl (gI g, 5, .inl f141)), (q58, .inl (gI g, 5, .inl f142)), (q59, .inl (gI g, 5, .inl f143)), (q60, .inl (gI g, 5, .inl f144)), (q61, .inr (1, [.ref q62, .ref q63, .ref q145, .int 0, .int 0, .int 0])), (q62, .inl (gI g, 300, .inl f146)), (q63, .inl (gI g, 300, .inl f147)), (q64, .inr (1, [.ref q65, .ref q66, .ref q148, .int 0, .int 0, .int 0])), (q65, .inl (gI g, 300, .inl f149)), (q66, .inl (gI g, 300, .inl f150)), (q67, .inr (7, [.ref q68, .ref q69, .ref q70, .ref q71, .ref q72, .int 0, .int 0, .int 0, .int 0, .int x151])), (q68, .inl (gI g, 5, .inl f152)), (q69, .inl (gI g, 5, .inl f153)), (q70, .inl (gI g, 5, .inl f154)), (q71, .inl (gI g, 5, .inl f155)), (q72, .inl (gI g, 5, .inl f156)), (q73, .inr (9, [.int 0, .int 0, .int 0, .int 0, .int 0, .ref q157, .ref q40, .ref q41, .ref q42, .ref q43, .ref q158, .ref q44, .ref q75, .ref q45, .ref q74, .ref q46, .ref q49])), (q74, .inl (gI g, 5, .inl f159)), (q75, .inl (gI g, 5, .inl f160)), (q76, .inr (2, [.ref q77, .int 0, .int 0, .int 0])), (q77, .inl (gO g, 41, .inr (.inr (.inr (.inr f161))))), (q78, .inr (7, [.ref q79, .ref q80, .ref q81, .ref q82, .ref q83, .int 0, .int 0, .int 0, .int 0, .int x162])), (q79, .inl (gI g, 5, .inl f163)), (q80, .inl (gI g, 5, .inl f164)), (q81, .inl (gI g, 5, .inl f165)), (q82, .inl (gI g, 5, .inl f166)), (q83, .inl (gI g, 5, .inl f167)), (q84, .inr (3, [.ref q168, .int 0])), (q85, .inr (6, [.ref q13, .ref q169, .ref q170, .ref q171, .ref q172, .ref q173, .ref q174, .ref q175, .ref q176, .ref q177, .ref q178, .int 0, .int 0])), (q86, .inl (gZ g, 3, .inl f179)), (q188, .inr (11, fs203)), (q195, .inl (gI g, 2, .inl f210)), (q196, .inl (gI g, 2, .inl f211)), (q197, .inl (gI g, 2, .inl f212)), (q198, .inl (gI g, 2, .inl f213)), (q199, .inl (gI g, 24, .inl f214)), (q200, .inl (gI g, 2, .inl f215)), (q201, .inl (gI g, 2, .inl f216)), (q202, .inl (gZ g, 3, .inl f217))] H) (hD : va_D A [(q1, .inr (10, [.ref q2, .int 0, .ref q3, .ref q52, .ref q73, .ref q13, .ref q67, .ref q76, .ref q11, .ref q86, .ref q84, .ref q12, .ref q85, .int 0])), (q2, .inl (gB g, 1600, .inl f87)), (q3, .inr (5, [.ref q4, .int 0, .int 0, .int 0, .int (-1)])), (q4, .inr (8, [.ref q88, .ref q89, .int 0, .int 0, .int 0, .int 0, .int 0, .long 0, .int 0, .int 0])), (q40, .inl (gI g, 8, .inl f123)), (q41, .inl (gI g, 8, .inl f124)), (q42, .inl (gI g, 8, .inl f125)), (q43, .inl (gI g, 8, .inl f126)), (q44, .inl (gI g, 5, .inl f127)), (q45, .inl (gI g, 5, .inl f128)), (q46, .inr (1, [.ref q47, .ref q48, .ref q129, .int 0, .int 0, .int 0])), (q47, .inl (gI g, 300, .inl f130)), (q48, .inl (gI g, 300, .inl f131)), (q49, .inr (1, [.ref q50, .ref q51, .ref q132, .int 0, .int 0, .int 0])), (q50, .inl (gI g, 300, .inl f133)), (q51, .inl (gI g, 300, .inl f134)), (q52, .inr (9, [.int 0, .int 0, .int 0, .int 0, .int 0, .ref q135, .ref q53, .ref q54, .ref q55, .ref q56, .ref q136, .ref q57, .ref q58, .ref q59, .ref q60, .ref q61, .ref q64])), (q53, .inl (gI g, 8, .inl f137)), (q54, .inl (gI g, 8, .inl f138)), (q55, .inl (gI g, 8, .inl f139)), (q56, .inl (gI g, 8, .inl f140)), (q57, .inl (gI g, 5, .inl f141)), (q58, .inl (gI g, 5, .inl f142)), (q59, .inl (gI g, 5, .inl f143)), (q60, .inl (gI g, 5, .inl f144)), (q61, .inr (1, [.ref q62, .ref q63, .ref q145, .int 0, .int 0, .int 0])), (q62, .inl (gI g, 300, .inl f146)), (q63, .inl (gI g, 300, .inl f147)), (q64, .inr (1, [.ref q65, .ref q66, .ref q148, .int 0, .int 0, .int 0])), (q65, .inl (gI g, 300, .inl f149)), (q66, .inl (gI g, 300, .inl f150)), (q67, .inr (7, [.ref q68, .ref q69, .ref q70, .ref q71, .ref q72, .int 0, .int 0, .int 0, .int 0, .int x151])), (q68, .inl (gI g, 5, .inl f152)), (q69, .inl (gI g, 5, .inl f153)), (q70, .inl (gI g, 5, .inl f154)), (q71, .inl (gI g, 5, .inl f155)), (q72, .inl (gI g, 5, .inl f156)), (q73, .inr (9, [.int 0, .int 0, .int 0, .int 0, .int 0, .ref q157, .ref q40, .ref q41, .ref q42, .ref q43, .ref q158, .ref q44, .ref q75, .ref q45, .ref q74, .ref q46, .ref q49])), (q74, .inl (gI g, 5, .inl f159)), (q75, .inl (gI g, 5, .inl f160)), (q76, .inr (2, [.ref q77, .int 0, .int 0, .int 0])), (q77, .inl (gO g, 41, .inr (.inr (.inr (.inr f161))))), (q78, .inr (7, [.ref q79, .ref q80, .ref q81, .ref q82, .ref q83, .int 0, .int 0, .int 0, .int 0, .int x162])), (q79, .inl (gI g, 5, .inl f163)), (q80, .inl (gI g, 5, .inl f164)), (q81, .inl (gI g, 5, .inl f165)), (q82, .inl (gI g, 5, .inl f166)), (q83, .inl (gI g, 5, .inl f167)), (q84, .inr (3, [.ref q168, .int 0])), (q85, .inr (6, [.ref q13, .ref q169, .ref q170, .ref q171, .ref q172, .ref q173, .ref q174, .ref q175, .ref q176, .ref q177, .ref q178, .int 0, .int 0])), (q86, .inl (gZ g, 3, .inl f179)), (q188, .inr (11, fs203)), (q195, .inl (gI g, 2, .inl f210)), (q196, .inl (gI g, 2, .inl f211)), (q197, .inl (gI g, 2, .inl f212)), (q198, .inl (gI g, 2, .inl f213)), (q199, .inl (gI g, 24, .inl f214)), (q200, .inl (gI g, 2, .inl f215)), (q201, .inl (gI g, 2, .inl f216)), (q202, .inl (gZ g, 3, .inl f217))]) (hS : va_S A s.heap H locs) (hl : lv_has ls 4 [(3, .int 0), (2, .ref q188), (1, .ref q1), (0, .ref b)]) : W p l e room_1 s m #[Value.ref b] below meth c H locs nc ns (lw_Z below #[Value.ref b] s) (F0 m 302 ls []) := by
  obtain ⟨hx, hb, hml, hr, hlocks, hown, hts, hE, hnm⟩ := id hcx
  have hK := hE.1
  refine lv_aload_n hx hb dL_law_302 rfl (lv_at hl 2 rfl) ?_
  refine kI (wc := [(q1, .inr (10, [.ref q2, .int 0, .ref q3, .ref q52, .ref q73, .ref q13, .ref q67, .ref q76, .ref q11, .ref q86, .ref q84, .ref q12, .ref q85, .int 0])), (q3, .inr (5, [.ref q4, .int 0, .int 0, .int 0, .int (-1)])), (q4, .inr (8, [.ref q88, .ref q89, .int 0, .int 0, .int 0, .int 0, .int 0, .long 0, .int 0, .int 0])), (q2, .inl (gB g, 1600, .inl f87)), (q52, .inr (9, [.int 0, .int 0, .int 0, .int 0, .int 0, .ref q135, .ref q53, .ref q54, .ref q55, .ref q56, .ref q136, .ref q57, .ref q58, .ref q59, .ref q60, .ref q61, .ref q64])), (q53, .inl (gI g, 8, .inl f137)), (q54, .inl (gI g, 8, .inl f138)), (q55, .inl (gI g, 8, .inl f139)), (q56, .inl (gI g, 8, .inl f140)), (q57, .inl (gI g, 5, .inl f141)), (q58, .inl (gI g, 5, .inl f142)), (q59, .inl (gI g, 5, .inl f143)), (q60, .inl (gI g, 5, .inl f144)), (q61, .inr (1, [.ref q62, .ref q63, .ref q145, .int 0, .int 0, .int 0])), (q62, .inl (gI g, 300, .inl f146)), (q63, .inl (gI g, 300, .inl f147)), (q64, .inr (1, [.ref q65, .ref q66, .ref q148, .int 0, .int 0, .int 0])), (q65, .inl (gI g, 300, .inl f149)), (q66, .inl (gI g, 300, .inl f150)), (q73, .inr (9, [.int 0, .int 0, .int 0, .int 0, .int 0, .ref q157, .ref q40, .ref q41, .ref q42, .ref q43, .ref q158, .ref q44, .ref q75, .ref q45, .ref q74, .ref q46, .ref q49])), (q40, .inl (gI g, 8, .inl f123)), (q41, .inl (gI g, 8, .inl f124)), (q42, .inl (gI g, 8, .inl f125)), (q43, .inl (gI g, 8, .inl f126)), (q44, .inl (gI g, 5, .inl f127)), (q75, .inl (gI g, 5, .inl f160)), (q45, .inl (gI g, 5, .inl f128)), (q74, .inl (gI g, 5, .inl f159)), (q46, .inr (1, [.ref q47, .ref q48, .ref q129, .int 0, .int 0, .int 0])), (q47, .inl (gI g, 300, .inl f130)), (q48, .inl (gI g, 300, .inl f131)), (q49, .inr (1, [.ref q50, .ref q51, .ref q132, .int 0, .int 0, .int 0])), (q50, .inl (gI g, 300, .inl f133)), (q51, .inl (gI g, 300, .inl f134)), (q67, .inr (7, [.ref q68, .ref q69, .ref q70, .ref q71, .ref q72, .int 0, .int 0, .int 0, .int 0, .int x151])), (q68, .inl (gI g, 5, .inl f152)), (q69, .inl (gI g, 5, .inl f153)), (q70, .inl (gI g, 5, .inl f154)), (q71, .inl (gI g, 5, .inl f155)), (q72, .inl (gI g, 5, .inl f156)), (q76, .inr (2, [.ref q77, .int 0, .int 0, .int 0])), (q77, .inl (gO g, 41, .inr (.inr (.inr (.inr f161))))), (q78, .inr (7, [.ref q79, .ref q80, .ref q81, .ref q82, .ref q83, .int 0, .int 0, .int 0, .int 0, .int x162])), (q79, .inl (gI g, 5, .inl f163)), (q80, .inl (gI g, 5, .inl f164)), (q81, .inl (gI g, 5, .inl f165)), (q82, .inl (gI g, 5, .inl f166)), (q83, .inl (gI g, 5, .inl f167)), (q84, .inr (3, [.ref q168, .int 0])), (q85, .inr (6, [.ref q13, .ref q169, .ref q170, .ref q171, .ref q172, .ref q173, .ref q174, .ref q175, .ref q176, .ref q177, .ref q178, .int 0, .int 0])), (q86, .inl (gZ g, 3, .inl f179))]) (wr := [(q188, .inr (11, fs203)), (q195, .inl (gI g, 2, .inl f210)), (q196, .inl (gI g, 2, .inl f211)), (q197, .inl (gI g, 2, .inl f212)), (q198, .inl (gI g, 2, .inl f213)), (q199, .inl (gI g, 24, .inl f214)), (q200, .inl (gI g, 2, .inl f215)), (q201, .inl (gI g, 2, .inl f216)), (q202, .inl (gZ g, 3, .inl f217))]) (rV (As := []) (rest := []) (meth2 := "") hcx (c_X10_town (hf183) H.size) (gdV q16_8 q16_9 q16_10 q1_2 q16_11) dvX10_town ⟨Nat.le_of_ble_eq_true rfl, Nat.le_of_ble_eq_true rfl⟩ (hP.sub [0, 2, 3, 1, 16, 17, 18, 19, 20, 21, 22, 23, 24, 25, 26, 27, 28, 29, 30, 37, 4, 5, 6, 7, 8, 39, 9, 38, 10, 11, 12, 13, 14, 15, 31, 32, 33, 34, 35, 36, 40, 41, 42, 43, 44, 45, 46, 47, 48, 49, 50] rfl) (hD.sub [0, 2, 3, 1, 16, 17, 18, 19, 20, 21, 22, 23, 24, 25, 26, 27, 28, 29, 30, 37, 4, 5, 6, 7, 8, 39, 9, 38, 10, 11, 12, 13, 14, 15, 31, 32, 33, 34, 35, 36, 40, 41, 42, 43, 44, 45, 46, 47, 48, 49, 50] (by decide) rfl) (va_recv hK hP (ci := 10) (q0 := 0) rfl rfl) rfl hl.1 rfl (Nat.le_of_ble_eq_true rfl) dL_law_303 ⟨by show _ + 0 ≤ 600000; omega, by show _ + 0 ≤ 7302250; omega⟩) hP hD hS hA [0, 2, 3, 1, 16, 17, 18, 19, 20, 21, 22, 23, 24, 25, 26, 27, 28, 29, 30, 37, 4, 5, 6, 7, 8, 39, 9, 38, 10, 11, 12, 13, 14, 15, 31, 32, 33, 34, 35, 36, 40, 41, 42, 43, 44, 45, 46, 47, 48, 49, 50] [51, 52, 53, 54, 55, 56, 57, 58, 59] rfl rfl (by decide) (by decide) (fun r W' H locs hw hP hD hS => ?_)
  obtain ⟨rfl, rfl⟩ := hw
  have hP : va_P g.1 vwCl [(q188, .inr (11, fs203)), (q195, .inl (gI g, 2, .inl f210)), (q196, .inl (gI g, 2, .inl f211)), (q197, .inl (gI g, 2, .inl f212)), (q198, .inl (gI g, 2, .inl f213)), (q199, .inl (gI g, 24, .inl f214)), (q200, .inl (gI g, 2, .inl f215)), (q201, .inl (gI g, 2, .inl f216)), (q202, .inl (gZ g, 3, .inl f217))] H := hP
  have hD : va_D A [(q188, .inr (11, fs203)), (q195, .inl (gI g, 2, .inl f210)), (q196, .inl (gI g, 2, .inl f211)), (q197, .inl (gI g, 2, .inl f212)), (q198, .inl (gI g, 2, .inl f213)), (q199, .inl (gI g, 24, .inl f214)), (q200, .inl (gI g, 2, .inl f215)), (q201, .inl (gI g, 2, .inl f216)), (q202, .inl (gZ g, 3, .inl f217))] := hD
  refine lv_aload_n hx hb dL_law_306 rfl (lv_at hl 1 rfl) ?_
  refine kI (wc := [(q188, .inr (11, fs203)), (q195, .inl (gI g, 2, .inl f210)), (q200, .inl (gI g, 2, .inl f215)), (q196, .inl (gI g, 2, .inl f211)), (q197, .inl (gI g, 2, .inl f212)), (q201, .inl (gI g, 2, .inl f216)), (q198, .inl (gI g, 2, .inl f213)), (q199, .inl (gI g, 24, .inl f214)), (q202, .inl (gZ g, 3, .inl f217))]) (wr := []) (rV (As := []) (rest := [.int 0]) (meth2 := "") hcx (c_X11_town (hf218) (hf233) (hf236) (hf226) (hf232) (hf220) (hf221) (hf222) (hf223) (hf224) (hf225) H.size) (gdV q25_14 q25_15 q25_16 q1_5 q25_17) dvX11_town ⟨Nat.le_of_ble_eq_true rfl, Nat.le_of_ble_eq_true rfl⟩ (hP.sub [0, 1, 6, 2, 3, 7, 4, 5, 8] rfl) (hD.sub [0, 1, 6, 2, 3, 7, 4, 5, 8] (by decide) rfl) (va_recv hK hP (ci := 11) (q0 := 0) rfl rfl) rfl hl.1 rfl (Nat.le_of_ble_eq_true rfl) dL_law_307 ⟨by show _ + 0 ≤ 600000; omega, by show _ + 0 ≤ 7302250; omega⟩) hP hD hS hA [0, 1, 6, 2, 3, 7, 4, 5, 8] [] rfl rfl (by decide) (by decide) (fun r W' H locs hw hP hD hS => ?_)
  obtain ⟨rfl, rfl⟩ := hw
  have hP : va_P g.1 vwCl [] H := hP
  have hD : va_D A [] := hD
  refine lv_icmp_eq (tgt := 1278) hx hb dL_law_310 (by decide) (fun _ => ?_) (fun c1001 => absurd (by decide) c1001)
  refine lv_iinc (v := 6) (lv' := [(3, .int 6), (2, .ref q188), (1, .ref q1), (0, .ref b)]) hx hb dL_law_1278 hl (k := 0) rfl (by decide) (by decide) rfl (fun ls hl => ?_)
  refine lv_goto (tgt := 18) hx hb dL_law_1281 (by decide) ?_
  refine lv_iload_n hx hb dL_law_18 rfl (lv_at hl 0 rfl) ?_
  refine lv_aload_n hx hb dL_law_19 rfl (lv_at hl 3 rfl) ?_
  refine va_slen hx hb hX hbl hbA hS dL_law_20 ?_
  refine lv_tope (y := 6) (by decide) ?_
  refine lv_bipush (v := 6) hx hb dL_law_21 (by decide) ?_
  refine lv_isub hx hb dL_law_23 ?_
  refine lv_tope (y := 0) (by decide) ?_
  refine lv_icmp_gt (tgt := 1284) hx hb dL_law_24 (by decide) (fun _ => ?_) (fun c1002 => absurd (by decide) c1002)
  refine lv_iconst (v := 1) hx hb dL_law_1284 (by decide) ?_
  refine va_forget (fun q hq => hAl _ (hS.2.2 q hq)) ?_
  refine W.widen (k := 600000) (n := 7302250) (by omega) (by omega) ?_
  exact lw_ret hx hb hr hlocks dL_law_1285

set_option maxHeartbeats 40000000 in
set_option maxRecDepth 100000 in
theorem lc_3 {p : Program} {l : Launch} {e : Env} {s : State} {m : MethodId} {below : List Frame} {meth : Method} {c : Code} {g : Gx} {b : Nat} {xs : Nat → Int32} {A : Nat → Prop} {H : Heap} {locs : List Loc} {ls : Array Slot} {nc ns : Nat} {q1 : Nat} {q2 : Nat} {q3 : Nat} {q52 : Nat} {q73 : Nat} {q13 : Nat} {q67 : Nat} {q76 : Nat} {q11 : Nat} {q86 : Nat} {q84 : Nat} {q12 : Nat} {q85 : Nat} {q4 : Nat} {q188 : Nat} {fs203 : List Value} {q189 : Nat} {q195 : Nat} {q200 : Nat} {q196 : Nat} {q197 : Nat} {q201 : Nat} {q198 : Nat} {q199 : Nat} {q190 : Nat} {q191 : Nat} {q192 : Nat} {q193 : Nat} {q194 : Nat} {q202 : Nat} (hnc : nc ≤ 1000) (hns : ns ≤ 100000) (hcx : Cx p s m #[Value.ref b] meth c cL_law 4 ret RL meth.name g) (hX : va_X b 6 xs s s.heap) (hbl : b < s.heap.size) (hbA : ¬ A b) (hA : ∀ q : Nat, s.heap.size ≤ q → A q) (hAl : ∀ q : Nat, A q → s.heap.size ≤ q) (hf218 : fs203.length = 69) (hf219 : fs203[0]? = some (Value.ref q189)) (hf220 : fs203[11]? = some (Value.ref q195)) (hf221 : fs203[12]? = some (Value.ref q200)) (hf222 : fs203[13]? = some (Value.ref q196)) (hf223 : fs203[14]? = some (Value.ref q197)) (hf224 : fs203[15]? = some (Value.ref q201)) (hf225 : fs203[16]? = some (Value.ref q198)) (hf226 : fs203[46]? = some (Value.ref q199)) (hf227 : fs203[48]? = some (Value.ref q190)) (hf228 : fs203[51]? = some (Value.ref q191)) (hf229 : fs203[53]? = some (Value.ref q192)) (hf230 : fs203[56]? = some (Value.ref q193)) (hf231 : fs203[67]? = some (Value.ref q194)) (hf232 : fs203[68]? = some (Value.ref q202)) (hf233 : fs203[2]? = some (Value.int 0)) (hf234 : fs203[4]? = some (Value.int 0)) (hf235 : fs203[5]? = some (Value.int (-1))) (hf236 : fs203[34]? = some (Value.int 0)) (hf237 : fs203[49]? = some (Value.int 0)) (hf238 : fs203[50]? = some (Value.int 0)) (hf239 : fs203[54]? = some (Value.int 0)) (hf240 : fs203[65]? = some (Value.int 0)) (hf241 : fs203[66]? = some (Value.int 0)) (hP : va_P g.1 vwCl [(q1, .inr (10, [.ref q2, .int 0, .ref q3, .ref q52, .ref q73, .ref q13, .ref q67, .ref q76, .ref q11, .ref q86, .ref q84, .ref q12, .ref q85, .int 0])), (q3, .inr (5, [.ref q4, .int 0, .int 0, .int 0, .int (-1)])), (q188, .inr (11, fs203))] H) (hD : va_D A [(q1, .inr (10, [.ref q2, .int 0, .ref q3, .ref q52, .ref q73, .ref q13, .ref q67, .ref q76, .ref q11, .ref q86, .ref q84, .ref q12, .ref q85, .int 0])), (q3, .inr (5, [.ref q4, .int 0, .int 0, .int 0, .int (-1)])), (q188, .inr (11, fs203))]) (hS : va_S A s.heap H locs) (hl : lv_has ls 4 [(3, .int 0), (2, .ref q188), (1, .ref q1), (0, .ref b)]) : W p l e room_1 s m #[Value.ref b] below meth c H locs nc ns (lw_Z below #[Value.ref b] s) (F0 m 315 ls []) := by
  obtain ⟨hx, hb, hml, hr, hlocks, hown, hts, hE, hnm⟩ := id hcx
  have hK := hE.1
  refine lv_aload_n hx hb dL_law_315 rfl (lv_at hl 2 rfl) ?_
  refine lv_aload_n hx hb dL_law_316 rfl (lv_at hl 3 rfl) ?_
  refine lv_iload_n hx hb dL_law_317 rfl (lv_at hl 0 rfl) ?_
  refine lv_iconst (v := 1) hx hb dL_law_318 (by decide) ?_
  refine lv_iadd hx hb dL_law_319 ?_
  refine lv_tope (y := 1) (by decide) ?_
  refine sc_ld hx hb hX hbl hbA hS 1 rfl (by decide) (by decide) dL_law_320 ?_
  refine kI (wc := [(q1, .inr (10, [.ref q2, .int 0, .ref q3, .ref q52, .ref q73, .ref q13, .ref q67, .ref q76, .ref q11, .ref q86, .ref q84, .ref q12, .ref q85, .int 0])), (q3, .inr (5, [.ref q4, .int 0, .int 0, .int 0, .int (-1)]))]) (wr := [(q188, .inr (11, fs203))]) (rV (As := [.int (xs 1)]) (rest := []) (meth2 := "") hcx (c_X10_fault H.size) (gdV q31_21 q31_22 q31_23 q1_2 q32_0) dvX10_fault ⟨Nat.le_of_ble_eq_true rfl, Nat.le_of_ble_eq_true rfl⟩ (hP.sub [0, 1] rfl) (hD.sub [0, 1] (by decide) rfl) (va_recv hK hP (ci := 10) (q0 := 0) rfl rfl) rfl hl.1 rfl (Nat.le_of_ble_eq_true rfl) dL_law_321 ⟨by show _ + 0 ≤ 600000; omega, by show _ + 0 ≤ 7302250; omega⟩) hP hD hS hA [0, 1] [2] rfl rfl (by decide) (by decide) (fun r1001 W' H locs hw hP hD hS => ?_)
  obtain ⟨hr1002, rfl⟩ := hw
  have hP : va_P g.1 vwCl [(q188, .inr (11, fs203))] H := hP
  have hD : va_D A [(q188, .inr (11, fs203))] := hD
  refine lv_aload_n hx hb dL_law_324 rfl (lv_at hl 1 rfl) ?_
  refine lv_aload_n hx hb dL_law_325 rfl (lv_at hl 3 rfl) ?_
  refine lv_iload_n hx hb dL_law_326 rfl (lv_at hl 0 rfl) ?_
  refine lv_iconst (v := 1) hx hb dL_law_327 (by decide) ?_
  refine lv_iadd hx hb dL_law_328 ?_
  refine lv_tope (y := 1) (by decide) ?_
  refine sc_ld hx hb hX hbl hbA hS 1 rfl (by decide) (by decide) dL_law_329 ?_
  refine kI (wc := [(q188, .inr (11, fs203))]) (wr := []) (rV (As := [.int (xs 1)]) (rest := [.int r1001]) (meth2 := "") hcx (c_X11_fault (hf218) (hf234) (hf235) H.size) (gdV q32_3 q32_4 q32_5 q1_5 q32_6) dvX11_fault ⟨Nat.le_of_ble_eq_true rfl, Nat.le_of_ble_eq_true rfl⟩ (hP.sub [0] rfl) (hD.sub [0] (by decide) rfl) (va_recv hK hP (ci := 11) (q0 := 0) rfl rfl) rfl hl.1 rfl (Nat.le_of_ble_eq_true rfl) dL_law_330 ⟨by show _ + 0 ≤ 600000; omega, by show _ + 0 ≤ 7302250; omega⟩) hP hD hS hA [0] [] rfl rfl (by decide) (by decide) (fun r1003 W' H locs hw hP hD hS => ?_)
  obtain ⟨hr1004, rfl⟩ := hw
  have hP : va_P g.1 vwCl [] H := hP
  have hD : va_D A [] := hD
  refine lv_icmp_eq (tgt := 1278) hx hb dL_law_333 (by decide) (fun _ => ?_) (fun c1005 => absurd (hr1002.trans hr1004.symm) c1005)
  refine lv_iinc (v := 6) (lv' := [(3, .int 6), (2, .ref q188), (1, .ref q1), (0, .ref b)]) hx hb dL_law_1278 hl (k := 0) rfl (by decide) (by decide) rfl (fun ls hl => ?_)
  refine lv_goto (tgt := 18) hx hb dL_law_1281 (by decide) ?_
  refine lv_iload_n hx hb dL_law_18 rfl (lv_at hl 0 rfl) ?_
  refine lv_aload_n hx hb dL_law_19 rfl (lv_at hl 3 rfl) ?_
  refine va_slen hx hb hX hbl hbA hS dL_law_20 ?_
  refine lv_tope (y := 6) (by decide) ?_
  refine lv_bipush (v := 6) hx hb dL_law_21 (by decide) ?_
  refine lv_isub hx hb dL_law_23 ?_
  refine lv_tope (y := 0) (by decide) ?_
  refine lv_icmp_gt (tgt := 1284) hx hb dL_law_24 (by decide) (fun _ => ?_) (fun c1006 => absurd (by decide) c1006)
  refine lv_iconst (v := 1) hx hb dL_law_1284 (by decide) ?_
  refine va_forget (fun q hq => hAl _ (hS.2.2 q hq)) ?_
  refine W.widen (k := 600000) (n := 7302250) (by omega) (by omega) ?_
  exact lw_ret hx hb hr hlocks dL_law_1285

set_option maxHeartbeats 40000000 in
set_option maxRecDepth 100000 in
theorem lc_4 {p : Program} {l : Launch} {e : Env} {s : State} {m : MethodId} {below : List Frame} {meth : Method} {c : Code} {g : Gx} {b : Nat} {xs : Nat → Int32} {A : Nat → Prop} {H : Heap} {locs : List Loc} {ls : Array Slot} {nc ns : Nat} {q1 : Nat} {q2 : Nat} {q3 : Nat} {q52 : Nat} {q73 : Nat} {q13 : Nat} {q67 : Nat} {q76 : Nat} {q11 : Nat} {q86 : Nat} {q84 : Nat} {q12 : Nat} {q85 : Nat} {q157 : Nat} {q40 : Nat} {q41 : Nat} {q42 : Nat} {q43 : Nat} {q158 : Nat} {q44 : Nat} {q75 : Nat} {q45 : Nat} {q74 : Nat} {q46 : Nat} {q49 : Nat} {q188 : Nat} {fs203 : List Value} {q189 : Nat} {q195 : Nat} {q200 : Nat} {q196 : Nat} {q197 : Nat} {q201 : Nat} {q198 : Nat} {q199 : Nat} {q190 : Nat} {q191 : Nat} {q192 : Nat} {q193 : Nat} {q194 : Nat} {q202 : Nat} {f215 : Nat → Int32} (hnc : nc ≤ 1000) (hns : ns ≤ 100000) (hcx : Cx p s m #[Value.ref b] meth c cL_law 4 ret RL meth.name g) (hX : va_X b 6 xs s s.heap) (hbl : b < s.heap.size) (hbA : ¬ A b) (hA : ∀ q : Nat, s.heap.size ≤ q → A q) (hAl : ∀ q : Nat, A q → s.heap.size ≤ q) (hf218 : fs203.length = 69) (hf219 : fs203[0]? = some (Value.ref q189)) (hf220 : fs203[11]? = some (Value.ref q195)) (hf221 : fs203[12]? = some (Value.ref q200)) (hf222 : fs203[13]? = some (Value.ref q196)) (hf223 : fs203[14]? = some (Value.ref q197)) (hf224 : fs203[15]? = some (Value.ref q201)) (hf225 : fs203[16]? = some (Value.ref q198)) (hf226 : fs203[46]? = some (Value.ref q199)) (hf227 : fs203[48]? = some (Value.ref q190)) (hf228 : fs203[51]? = some (Value.ref q191)) (hf229 : fs203[53]? = some (Value.ref q192)) (hf230 : fs203[56]? = some (Value.ref q193)) (hf231 : fs203[67]? = some (Value.ref q194)) (hf232 : fs203[68]? = some (Value.ref q202)) (hf233 : fs203[2]? = some (Value.int 0)) (hf234 : fs203[4]? = some (Value.int 0)) (hf235 : fs203[5]? = some (Value.int (-1))) (hf236 : fs203[34]? = some (Value.int 0)) (hf237 : fs203[49]? = some (Value.int 0)) (hf238 : fs203[50]? = some (Value.int 0)) (hf239 : fs203[54]? = some (Value.int 0)) (hf240 : fs203[65]? = some (Value.int 0)) (hf241 : fs203[66]? = some (Value.int 0)) (hf250 : f215 0 = 0) (hP : va_P g.1 vwCl [(q1, .inr (10, [.ref q2, .int 0, .ref q3, .ref q52, .ref q73, .ref q13, .ref q67, .ref q76, .ref q11, .ref q86, .ref q84, .ref q12, .ref q85, .int 0])), (q73, .inr (9, [.int 0, .int 0, .int 0, .int 0, .int 0, .ref q157, .ref q40, .ref q41, .ref q42, .ref q43, .ref q158, .ref q44, .ref q75, .ref q45, .ref q74, .ref q46, .ref q49])), (q188, .inr (11, fs203)), (q200, .inl (gI g, 2, .inl f215))] H) (hD : va_D A [(q1, .inr (10, [.ref q2, .int 0, .ref q3, .ref q52, .ref q73, .ref q13, .ref q67, .ref q76, .ref q11, .ref q86, .ref q84, .ref q12, .ref q85, .int 0])), (q73, .inr (9, [.int 0, .int 0, .int 0, .int 0, .int 0, .ref q157, .ref q40, .ref q41, .ref q42, .ref q43, .ref q158, .ref q44, .ref q75, .ref q45, .ref q74, .ref q46, .ref q49])), (q188, .inr (11, fs203)), (q200, .inl (gI g, 2, .inl f215))]) (hS : va_S A s.heap H locs) (hl : lv_has ls 4 [(3, .int 0), (2, .ref q188), (1, .ref q1), (0, .ref b)]) : W p l e room_1 s m #[Value.ref b] below meth c H locs nc ns (lw_Z below #[Value.ref b] s) (F0 m 338 ls []) := by
  obtain ⟨hx, hb, hml, hr, hlocks, hown, hts, hE, hnm⟩ := id hcx
  have hK := hE.1
  refine lv_aload_n hx hb dL_law_338 rfl (lv_at hl 2 rfl) ?_
  refine lv_aload_n hx hb dL_law_339 rfl (lv_at hl 3 rfl) ?_
  refine lv_iload_n hx hb dL_law_340 rfl (lv_at hl 0 rfl) ?_
  refine lv_iconst (v := 1) hx hb dL_law_341 (by decide) ?_
  refine lv_iadd hx hb dL_law_342 ?_
  refine lv_tope (y := 1) (by decide) ?_
  refine sc_ld hx hb hX hbl hbA hS 1 rfl (by decide) (by decide) dL_law_343 ?_
  refine lv_aload_n hx hb dL_law_344 rfl (lv_at hl 3 rfl) ?_
  refine lv_iload_n hx hb dL_law_345 rfl (lv_at hl 0 rfl) ?_
  refine lv_iconst (v := 2) hx hb dL_law_346 (by decide) ?_
  refine lv_iadd hx hb dL_law_347 ?_
  refine lv_tope (y := 2) (by decide) ?_
  refine sc_ld hx hb hX hbl hbA hS 2 rfl (by decide) (by decide) dL_law_348 ?_
  refine kI (wc := [(q1, .inr (10, [.ref q2, .int 0, .ref q3, .ref q52, .ref q73, .ref q13, .ref q67, .ref q76, .ref q11, .ref q86, .ref q84, .ref q12, .ref q85, .int 0])), (q73, .inr (9, [.int 0, .int 0, .int 0, .int 0, .int 0, .ref q157, .ref q40, .ref q41, .ref q42, .ref q43, .ref q158, .ref q44, .ref q75, .ref q45, .ref q74, .ref q46, .ref q49]))]) (wr := [(q188, .inr (11, fs203)), (q200, .inl (gI g, 2, .inl f215))]) (rV (As := [.int (xs 1), .int (xs 2)]) (rest := []) (meth2 := "") hcx (c_X10_guild H.size) (gdV q32_7 q32_8 q32_9 q1_2 q32_10) dvX10_guild ⟨Nat.le_of_ble_eq_true rfl, Nat.le_of_ble_eq_true rfl⟩ (hP.sub [0, 1] rfl) (hD.sub [0, 1] (by decide) rfl) (va_recv hK hP (ci := 10) (q0 := 0) rfl rfl) rfl hl.1 rfl (Nat.le_of_ble_eq_true rfl) dL_law_349 ⟨by show _ + 0 ≤ 600000; omega, by show _ + 0 ≤ 7302250; omega⟩) hP hD hS hA [0, 1] [2, 3] rfl rfl (by decide) (by decide) (fun r W' H locs hw hP hD hS => ?_)
  obtain ⟨rfl, rfl⟩ := hw
  have hP : va_P g.1 vwCl [(q188, .inr (11, fs203)), (q200, .inl (gI g, 2, .inl f215))] H := hP
  have hD : va_D A [(q188, .inr (11, fs203)), (q200, .inl (gI g, 2, .inl f215))] := hD
  refine lv_aload_n hx hb dL_law_352 rfl (lv_at hl 1 rfl) ?_
  refine lv_aload_n hx hb dL_law_353 rfl (lv_at hl 3 rfl) ?_
  refine lv_iload_n hx hb dL_law_354 rfl (lv_at hl 0 rfl) ?_
  refine lv_iconst (v := 1) hx hb dL_law_355 (by decide) ?_
  refine lv_iadd hx hb dL_law_356 ?_
  refine lv_tope (y := 1) (by decide) ?_
  refine sc_ld hx hb hX hbl hbA hS 1 rfl (by decide) (by decide) dL_law_357 ?_
  refine lv_aload_n hx hb dL_law_358 rfl (lv_at hl 3 rfl) ?_
  refine lv_iload_n hx hb dL_law_359 rfl (lv_at hl 0 rfl) ?_
  refine lv_iconst (v := 2) hx hb dL_law_360 (by decide) ?_
  refine lv_iadd hx hb dL_law_361 ?_
  refine lv_tope (y := 2) (by decide) ?_
  refine sc_ld hx hb hX hbl hbA hS 2 rfl (by decide) (by decide) dL_law_362 ?_
  refine kI (wc := [(q188, .inr (11, fs203)), (q200, .inl (gI g, 2, .inl f215))]) (wr := []) (rV (As := [.int (xs 1), .int (xs 2)]) (rest := [.int (-2)]) (meth2 := "") hcx (c_X11_guild (hf218) (hf221) (hf236) (hf250) H.size) (gdV q34_9 q34_10 q34_11 q1_5 q34_12) dvX11_guild ⟨Nat.le_of_ble_eq_true rfl, Nat.le_of_ble_eq_true rfl⟩ (hP.sub [0, 1] rfl) (hD.sub [0, 1] (by decide) rfl) (va_recv hK hP (ci := 11) (q0 := 0) rfl rfl) rfl hl.1 rfl (Nat.le_of_ble_eq_true rfl) dL_law_363 ⟨by show _ + 0 ≤ 600000; omega, by show _ + 0 ≤ 7302250; omega⟩) hP hD hS hA [0, 1] [] rfl rfl (by decide) (by decide) (fun r W' H locs hw hP hD hS => ?_)
  obtain ⟨rfl, rfl⟩ := hw
  have hP : va_P g.1 vwCl [] H := hP
  have hD : va_D A [] := hD
  refine lv_icmp_eq (tgt := 1278) hx hb dL_law_366 (by decide) (fun _ => ?_) (fun c1001 => absurd (by decide) c1001)
  refine lv_iinc (v := 6) (lv' := [(3, .int 6), (2, .ref q188), (1, .ref q1), (0, .ref b)]) hx hb dL_law_1278 hl (k := 0) rfl (by decide) (by decide) rfl (fun ls hl => ?_)
  refine lv_goto (tgt := 18) hx hb dL_law_1281 (by decide) ?_
  refine lv_iload_n hx hb dL_law_18 rfl (lv_at hl 0 rfl) ?_
  refine lv_aload_n hx hb dL_law_19 rfl (lv_at hl 3 rfl) ?_
  refine va_slen hx hb hX hbl hbA hS dL_law_20 ?_
  refine lv_tope (y := 6) (by decide) ?_
  refine lv_bipush (v := 6) hx hb dL_law_21 (by decide) ?_
  refine lv_isub hx hb dL_law_23 ?_
  refine lv_tope (y := 0) (by decide) ?_
  refine lv_icmp_gt (tgt := 1284) hx hb dL_law_24 (by decide) (fun _ => ?_) (fun c1002 => absurd (by decide) c1002)
  refine lv_iconst (v := 1) hx hb dL_law_1284 (by decide) ?_
  refine va_forget (fun q hq => hAl _ (hS.2.2 q hq)) ?_
  refine W.widen (k := 600000) (n := 7302250) (by omega) (by omega) ?_
  exact lw_ret hx hb hr hlocks dL_law_1285

set_option maxHeartbeats 40000000 in
set_option maxRecDepth 100000 in
theorem lc_5 {p : Program} {l : Launch} {e : Env} {s : State} {m : MethodId} {below : List Frame} {meth : Method} {c : Code} {g : Gx} {b : Nat} {xs : Nat → Int32} {A : Nat → Prop} {H : Heap} {locs : List Loc} {ls : Array Slot} {nc ns : Nat} {q1 : Nat} {q2 : Nat} {q3 : Nat} {q52 : Nat} {q73 : Nat} {q13 : Nat} {q67 : Nat} {q76 : Nat} {q11 : Nat} {q86 : Nat} {q84 : Nat} {q12 : Nat} {q85 : Nat} {q157 : Nat} {q40 : Nat} {q41 : Nat} {q42 : Nat} {q43 : Nat} {q158 : Nat} {q44 : Nat} {q75 : Nat} {q45 : Nat} {q74 : Nat} {q46 : Nat} {q49 : Nat} {q188 : Nat} {fs203 : List Value} {q189 : Nat} {q195 : Nat} {q200 : Nat} {q196 : Nat} {q197 : Nat} {q201 : Nat} {q198 : Nat} {q199 : Nat} {q190 : Nat} {q191 : Nat} {q192 : Nat} {q193 : Nat} {q194 : Nat} {q202 : Nat} {f210 : Nat → Int32} (hnc : nc ≤ 1000) (hns : ns ≤ 100000) (hcx : Cx p s m #[Value.ref b] meth c cL_law 4 ret RL meth.name g) (hX : va_X b 6 xs s s.heap) (hbl : b < s.heap.size) (hbA : ¬ A b) (hA : ∀ q : Nat, s.heap.size ≤ q → A q) (hAl : ∀ q : Nat, A q → s.heap.size ≤ q) (hf218 : fs203.length = 69) (hf219 : fs203[0]? = some (Value.ref q189)) (hf220 : fs203[11]? = some (Value.ref q195)) (hf221 : fs203[12]? = some (Value.ref q200)) (hf222 : fs203[13]? = some (Value.ref q196)) (hf223 : fs203[14]? = some (Value.ref q197)) (hf224 : fs203[15]? = some (Value.ref q201)) (hf225 : fs203[16]? = some (Value.ref q198)) (hf226 : fs203[46]? = some (Value.ref q199)) (hf227 : fs203[48]? = some (Value.ref q190)) (hf228 : fs203[51]? = some (Value.ref q191)) (hf229 : fs203[53]? = some (Value.ref q192)) (hf230 : fs203[56]? = some (Value.ref q193)) (hf231 : fs203[67]? = some (Value.ref q194)) (hf232 : fs203[68]? = some (Value.ref q202)) (hf233 : fs203[2]? = some (Value.int 0)) (hf234 : fs203[4]? = some (Value.int 0)) (hf235 : fs203[5]? = some (Value.int (-1))) (hf236 : fs203[34]? = some (Value.int 0)) (hf237 : fs203[49]? = some (Value.int 0)) (hf238 : fs203[50]? = some (Value.int 0)) (hf239 : fs203[54]? = some (Value.int 0)) (hf240 : fs203[65]? = some (Value.int 0)) (hf241 : fs203[66]? = some (Value.int 0)) (hf242 : f210 0 = 0) (hP : va_P g.1 vwCl [(q1, .inr (10, [.ref q2, .int 0, .ref q3, .ref q52, .ref q73, .ref q13, .ref q67, .ref q76, .ref q11, .ref q86, .ref q84, .ref q12, .ref q85, .int 0])), (q73, .inr (9, [.int 0, .int 0, .int 0, .int 0, .int 0, .ref q157, .ref q40, .ref q41, .ref q42, .ref q43, .ref q158, .ref q44, .ref q75, .ref q45, .ref q74, .ref q46, .ref q49])), (q188, .inr (11, fs203)), (q195, .inl (gI g, 2, .inl f210))] H) (hD : va_D A [(q1, .inr (10, [.ref q2, .int 0, .ref q3, .ref q52, .ref q73, .ref q13, .ref q67, .ref q76, .ref q11, .ref q86, .ref q84, .ref q12, .ref q85, .int 0])), (q73, .inr (9, [.int 0, .int 0, .int 0, .int 0, .int 0, .ref q157, .ref q40, .ref q41, .ref q42, .ref q43, .ref q158, .ref q44, .ref q75, .ref q45, .ref q74, .ref q46, .ref q49])), (q188, .inr (11, fs203)), (q195, .inl (gI g, 2, .inl f210))]) (hS : va_S A s.heap H locs) (hl : lv_has ls 4 [(3, .int 0), (2, .ref q188), (1, .ref q1), (0, .ref b)]) : W p l e room_1 s m #[Value.ref b] below meth c H locs nc ns (lw_Z below #[Value.ref b] s) (F0 m 371 ls []) := by
  obtain ⟨hx, hb, hml, hr, hlocks, hown, hts, hE, hnm⟩ := id hcx
  have hK := hE.1
  refine lv_aload_n hx hb dL_law_371 rfl (lv_at hl 2 rfl) ?_
  refine lv_aload_n hx hb dL_law_372 rfl (lv_at hl 3 rfl) ?_
  refine lv_iload_n hx hb dL_law_373 rfl (lv_at hl 0 rfl) ?_
  refine lv_iconst (v := 1) hx hb dL_law_374 (by decide) ?_
  refine lv_iadd hx hb dL_law_375 ?_
  refine lv_tope (y := 1) (by decide) ?_
  refine sc_ld hx hb hX hbl hbA hS 1 rfl (by decide) (by decide) dL_law_376 ?_
  refine lv_aload_n hx hb dL_law_377 rfl (lv_at hl 3 rfl) ?_
  refine lv_iload_n hx hb dL_law_378 rfl (lv_at hl 0 rfl) ?_
  refine lv_iconst (v := 2) hx hb dL_law_379 (by decide) ?_
  refine lv_iadd hx hb dL_law_380 ?_
  refine lv_tope (y := 2) (by decide) ?_
  refine sc_ld hx hb hX hbl hbA hS 2 rfl (by decide) (by decide) dL_law_381 ?_
  refine kI (wc := [(q1, .inr (10, [.ref q2, .int 0, .ref q3, .ref q52, .ref q73, .ref q13, .ref q67, .ref q76, .ref q11, .ref q86, .ref q84, .ref q12, .ref q85, .int 0])), (q73, .inr (9, [.int 0, .int 0, .int 0, .int 0, .int 0, .ref q157, .ref q40, .ref q41, .ref q42, .ref q43, .ref q158, .ref q44, .ref q75, .ref q45, .ref q74, .ref q46, .ref q49]))]) (wr := [(q188, .inr (11, fs203)), (q195, .inl (gI g, 2, .inl f210))]) (rV (As := [.int (xs 1), .int (xs 2)]) (rest := []) (meth2 := "") hcx (c_X10_corner H.size) (gdV q36_4 q36_5 q36_6 q1_2 q36_7) dvX10_corner ⟨Nat.le_of_ble_eq_true rfl, Nat.le_of_ble_eq_true rfl⟩ (hP.sub [0, 1] rfl) (hD.sub [0, 1] (by decide) rfl) (va_recv hK hP (ci := 10) (q0 := 0) rfl rfl) rfl hl.1 rfl (Nat.le_of_ble_eq_true rfl) dL_law_382 ⟨by show _ + 0 ≤ 600000; omega, by show _ + 0 ≤ 7302250; omega⟩) hP hD hS hA [0, 1] [2, 3] rfl rfl (by decide) (by decide) (fun r W' H locs hw hP hD hS => ?_)
  obtain ⟨rfl, rfl⟩ := hw
  have hP : va_P g.1 vwCl [(q188, .inr (11, fs203)), (q195, .inl (gI g, 2, .inl f210))] H := hP
  have hD : va_D A [(q188, .inr (11, fs203)), (q195, .inl (gI g, 2, .inl f210))] := hD
  refine lv_aload_n hx hb dL_law_385 rfl (lv_at hl 1 rfl) ?_
  refine lv_aload_n hx hb dL_law_386 rfl (lv_at hl 3 rfl) ?_
  refine lv_iload_n hx hb dL_law_387 rfl (lv_at hl 0 rfl) ?_
  refine lv_iconst (v := 1) hx hb dL_law_388 (by decide) ?_
  refine lv_iadd hx hb dL_law_389 ?_
  refine lv_tope (y := 1) (by decide) ?_
  refine sc_ld hx hb hX hbl hbA hS 1 rfl (by decide) (by decide) dL_law_390 ?_
  refine lv_aload_n hx hb dL_law_391 rfl (lv_at hl 3 rfl) ?_
  refine lv_iload_n hx hb dL_law_392 rfl (lv_at hl 0 rfl) ?_
  refine lv_iconst (v := 2) hx hb dL_law_393 (by decide) ?_
  refine lv_iadd hx hb dL_law_394 ?_
  refine lv_tope (y := 2) (by decide) ?_
  refine sc_ld hx hb hX hbl hbA hS 2 rfl (by decide) (by decide) dL_law_395 ?_
  refine kI (wc := [(q188, .inr (11, fs203)), (q195, .inl (gI g, 2, .inl f210))]) (wr := []) (rV (As := [.int (xs 1), .int (xs 2)]) (rest := [.int (-1)]) (meth2 := "") hcx (c_X11_corner (hf218) (hf220) (hf236) (hf242) H.size) (gdV q36_13 q36_14 q36_15 q1_5 q36_16) dvX11_corner ⟨Nat.le_of_ble_eq_true rfl, Nat.le_of_ble_eq_true rfl⟩ (hP.sub [0, 1] rfl) (hD.sub [0, 1] (by decide) rfl) (va_recv hK hP (ci := 11) (q0 := 0) rfl rfl) rfl hl.1 rfl (Nat.le_of_ble_eq_true rfl) dL_law_396 ⟨by show _ + 0 ≤ 600000; omega, by show _ + 0 ≤ 7302250; omega⟩) hP hD hS hA [0, 1] [] rfl rfl (by decide) (by decide) (fun r W' H locs hw hP hD hS => ?_)
  obtain ⟨rfl, rfl⟩ := hw
  have hP : va_P g.1 vwCl [] H := hP
  have hD : va_D A [] := hD
  refine lv_icmp_eq (tgt := 1278) hx hb dL_law_399 (by decide) (fun _ => ?_) (fun c1001 => absurd (by decide) c1001)
  refine lv_iinc (v := 6) (lv' := [(3, .int 6), (2, .ref q188), (1, .ref q1), (0, .ref b)]) hx hb dL_law_1278 hl (k := 0) rfl (by decide) (by decide) rfl (fun ls hl => ?_)
  refine lv_goto (tgt := 18) hx hb dL_law_1281 (by decide) ?_
  refine lv_iload_n hx hb dL_law_18 rfl (lv_at hl 0 rfl) ?_
  refine lv_aload_n hx hb dL_law_19 rfl (lv_at hl 3 rfl) ?_
  refine va_slen hx hb hX hbl hbA hS dL_law_20 ?_
  refine lv_tope (y := 6) (by decide) ?_
  refine lv_bipush (v := 6) hx hb dL_law_21 (by decide) ?_
  refine lv_isub hx hb dL_law_23 ?_
  refine lv_tope (y := 0) (by decide) ?_
  refine lv_icmp_gt (tgt := 1284) hx hb dL_law_24 (by decide) (fun _ => ?_) (fun c1002 => absurd (by decide) c1002)
  refine lv_iconst (v := 1) hx hb dL_law_1284 (by decide) ?_
  refine va_forget (fun q hq => hAl _ (hS.2.2 q hq)) ?_
  refine W.widen (k := 600000) (n := 7302250) (by omega) (by omega) ?_
  exact lw_ret hx hb hr hlocks dL_law_1285

set_option maxHeartbeats 40000000 in
set_option maxRecDepth 100000 in
theorem lc_6 {p : Program} {l : Launch} {e : Env} {s : State} {m : MethodId} {below : List Frame} {meth : Method} {c : Code} {g : Gx} {b : Nat} {xs : Nat → Int32} {A : Nat → Prop} {H : Heap} {locs : List Loc} {ls : Array Slot} {nc ns : Nat} {q1 : Nat} {q2 : Nat} {q3 : Nat} {q52 : Nat} {q73 : Nat} {q13 : Nat} {q67 : Nat} {q76 : Nat} {q11 : Nat} {q86 : Nat} {q84 : Nat} {q12 : Nat} {q85 : Nat} {q157 : Nat} {q40 : Nat} {q41 : Nat} {q42 : Nat} {q43 : Nat} {q158 : Nat} {q44 : Nat} {q75 : Nat} {q45 : Nat} {q74 : Nat} {q46 : Nat} {q49 : Nat} {q188 : Nat} {fs203 : List Value} {q189 : Nat} {q195 : Nat} {q200 : Nat} {q196 : Nat} {q197 : Nat} {q201 : Nat} {q198 : Nat} {q199 : Nat} {q190 : Nat} {q191 : Nat} {q192 : Nat} {q193 : Nat} {q194 : Nat} {q202 : Nat} {f215 : Nat → Int32} (hnc : nc ≤ 1000) (hns : ns ≤ 100000) (hcx : Cx p s m #[Value.ref b] meth c cL_law 4 ret RL meth.name g) (hX : va_X b 6 xs s s.heap) (hbl : b < s.heap.size) (hbA : ¬ A b) (hA : ∀ q : Nat, s.heap.size ≤ q → A q) (hAl : ∀ q : Nat, A q → s.heap.size ≤ q) (hf218 : fs203.length = 69) (hf219 : fs203[0]? = some (Value.ref q189)) (hf220 : fs203[11]? = some (Value.ref q195)) (hf221 : fs203[12]? = some (Value.ref q200)) (hf222 : fs203[13]? = some (Value.ref q196)) (hf223 : fs203[14]? = some (Value.ref q197)) (hf224 : fs203[15]? = some (Value.ref q201)) (hf225 : fs203[16]? = some (Value.ref q198)) (hf226 : fs203[46]? = some (Value.ref q199)) (hf227 : fs203[48]? = some (Value.ref q190)) (hf228 : fs203[51]? = some (Value.ref q191)) (hf229 : fs203[53]? = some (Value.ref q192)) (hf230 : fs203[56]? = some (Value.ref q193)) (hf231 : fs203[67]? = some (Value.ref q194)) (hf232 : fs203[68]? = some (Value.ref q202)) (hf233 : fs203[2]? = some (Value.int 0)) (hf234 : fs203[4]? = some (Value.int 0)) (hf235 : fs203[5]? = some (Value.int (-1))) (hf236 : fs203[34]? = some (Value.int 0)) (hf237 : fs203[49]? = some (Value.int 0)) (hf238 : fs203[50]? = some (Value.int 0)) (hf239 : fs203[54]? = some (Value.int 0)) (hf240 : fs203[65]? = some (Value.int 0)) (hf241 : fs203[66]? = some (Value.int 0)) (hf250 : f215 0 = 0) (hP : va_P g.1 vwCl [(q1, .inr (10, [.ref q2, .int 0, .ref q3, .ref q52, .ref q73, .ref q13, .ref q67, .ref q76, .ref q11, .ref q86, .ref q84, .ref q12, .ref q85, .int 0])), (q73, .inr (9, [.int 0, .int 0, .int 0, .int 0, .int 0, .ref q157, .ref q40, .ref q41, .ref q42, .ref q43, .ref q158, .ref q44, .ref q75, .ref q45, .ref q74, .ref q46, .ref q49])), (q188, .inr (11, fs203)), (q200, .inl (gI g, 2, .inl f215))] H) (hD : va_D A [(q1, .inr (10, [.ref q2, .int 0, .ref q3, .ref q52, .ref q73, .ref q13, .ref q67, .ref q76, .ref q11, .ref q86, .ref q84, .ref q12, .ref q85, .int 0])), (q73, .inr (9, [.int 0, .int 0, .int 0, .int 0, .int 0, .ref q157, .ref q40, .ref q41, .ref q42, .ref q43, .ref q158, .ref q44, .ref q75, .ref q45, .ref q74, .ref q46, .ref q49])), (q188, .inr (11, fs203)), (q200, .inl (gI g, 2, .inl f215))]) (hS : va_S A s.heap H locs) (hl : lv_has ls 4 [(3, .int 0), (2, .ref q188), (1, .ref q1), (0, .ref b)]) : W p l e room_1 s m #[Value.ref b] below meth c H locs nc ns (lw_Z below #[Value.ref b] s) (F0 m 404 ls []) := by
  obtain ⟨hx, hb, hml, hr, hlocks, hown, hts, hE, hnm⟩ := id hcx
  have hK := hE.1
  refine lv_aload_n hx hb dL_law_404 rfl (lv_at hl 2 rfl) ?_
  refine lv_aload_n hx hb dL_law_405 rfl (lv_at hl 3 rfl) ?_
  refine lv_iload_n hx hb dL_law_406 rfl (lv_at hl 0 rfl) ?_
  refine lv_iconst (v := 1) hx hb dL_law_407 (by decide) ?_
  refine lv_iadd hx hb dL_law_408 ?_
  refine lv_tope (y := 1) (by decide) ?_
  refine sc_ld hx hb hX hbl hbA hS 1 rfl (by decide) (by decide) dL_law_409 ?_
  refine kI (wc := [(q1, .inr (10, [.ref q2, .int 0, .ref q3, .ref q52, .ref q73, .ref q13, .ref q67, .ref q76, .ref q11, .ref q86, .ref q84, .ref q12, .ref q85, .int 0])), (q73, .inr (9, [.int 0, .int 0, .int 0, .int 0, .int 0, .ref q157, .ref q40, .ref q41, .ref q42, .ref q43, .ref q158, .ref q44, .ref q75, .ref q45, .ref q74, .ref q46, .ref q49]))]) (wr := [(q188, .inr (11, fs203)), (q200, .inl (gI g, 2, .inl f215))]) (rV (As := [.int (xs 1)]) (rest := []) (meth2 := "") hcx (c_X10_place H.size) (gdV q36_21 q36_22 q36_23 q1_2 q37_0) dvX10_place ⟨Nat.le_of_ble_eq_true rfl, Nat.le_of_ble_eq_true rfl⟩ (hP.sub [0, 1] rfl) (hD.sub [0, 1] (by decide) rfl) (va_recv hK hP (ci := 10) (q0 := 0) rfl rfl) rfl hl.1 rfl (Nat.le_of_ble_eq_true rfl) dL_law_410 ⟨by show _ + 0 ≤ 600000; omega, by show _ + 0 ≤ 7302250; omega⟩) hP hD hS hA [0, 1] [2, 3] rfl rfl (by decide) (by decide) (fun r W' H locs hw hP hD hS => ?_)
  obtain ⟨rfl, rfl⟩ := hw
  have hP : va_P g.1 vwCl [(q188, .inr (11, fs203)), (q200, .inl (gI g, 2, .inl f215))] H := hP
  have hD : va_D A [(q188, .inr (11, fs203)), (q200, .inl (gI g, 2, .inl f215))] := hD
  refine lv_aload_n hx hb dL_law_413 rfl (lv_at hl 1 rfl) ?_
  refine lv_aload_n hx hb dL_law_414 rfl (lv_at hl 3 rfl) ?_
  refine lv_iload_n hx hb dL_law_415 rfl (lv_at hl 0 rfl) ?_
  refine lv_iconst (v := 1) hx hb dL_law_416 (by decide) ?_
  refine lv_iadd hx hb dL_law_417 ?_
  refine lv_tope (y := 1) (by decide) ?_
  refine sc_ld hx hb hX hbl hbA hS 1 rfl (by decide) (by decide) dL_law_418 ?_
  refine kI (wc := [(q188, .inr (11, fs203)), (q200, .inl (gI g, 2, .inl f215))]) (wr := []) (rV (As := [.int (xs 1)]) (rest := [.int (-1)]) (meth2 := "") hcx (c_X11_place (hf218) (hf221) (hf236) (hf250) H.size) (gdV q37_2 q37_3 q37_4 q1_5 q37_5) dvX11_place ⟨Nat.le_of_ble_eq_true rfl, Nat.le_of_ble_eq_true rfl⟩ (hP.sub [0, 1] rfl) (hD.sub [0, 1] (by decide) rfl) (va_recv hK hP (ci := 11) (q0 := 0) rfl rfl) rfl hl.1 rfl (Nat.le_of_ble_eq_true rfl) dL_law_419 ⟨by show _ + 0 ≤ 600000; omega, by show _ + 0 ≤ 7302250; omega⟩) hP hD hS hA [0, 1] [] rfl rfl (by decide) (by decide) (fun r W' H locs hw hP hD hS => ?_)
  obtain ⟨rfl, rfl⟩ := hw
  have hP : va_P g.1 vwCl [] H := hP
  have hD : va_D A [] := hD
  refine lv_icmp_eq (tgt := 1278) hx hb dL_law_422 (by decide) (fun _ => ?_) (fun c1001 => absurd (by decide) c1001)
  refine lv_iinc (v := 6) (lv' := [(3, .int 6), (2, .ref q188), (1, .ref q1), (0, .ref b)]) hx hb dL_law_1278 hl (k := 0) rfl (by decide) (by decide) rfl (fun ls hl => ?_)
  refine lv_goto (tgt := 18) hx hb dL_law_1281 (by decide) ?_
  refine lv_iload_n hx hb dL_law_18 rfl (lv_at hl 0 rfl) ?_
  refine lv_aload_n hx hb dL_law_19 rfl (lv_at hl 3 rfl) ?_
  refine va_slen hx hb hX hbl hbA hS dL_law_20 ?_
  refine lv_tope (y := 6) (by decide) ?_
  refine lv_bipush (v := 6) hx hb dL_law_21 (by decide) ?_
  refine lv_isub hx hb dL_law_23 ?_
  refine lv_tope (y := 0) (by decide) ?_
  refine lv_icmp_gt (tgt := 1284) hx hb dL_law_24 (by decide) (fun _ => ?_) (fun c1002 => absurd (by decide) c1002)
  refine lv_iconst (v := 1) hx hb dL_law_1284 (by decide) ?_
  refine va_forget (fun q hq => hAl _ (hS.2.2 q hq)) ?_
  refine W.widen (k := 600000) (n := 7302250) (by omega) (by omega) ?_
  exact lw_ret hx hb hr hlocks dL_law_1285

set_option maxHeartbeats 40000000 in
set_option maxRecDepth 100000 in
theorem lc_7 {p : Program} {l : Launch} {e : Env} {s : State} {m : MethodId} {below : List Frame} {meth : Method} {c : Code} {g : Gx} {b : Nat} {xs : Nat → Int32} {A : Nat → Prop} {H : Heap} {locs : List Loc} {ls : Array Slot} {nc ns : Nat} {q1 : Nat} {q2 : Nat} {q3 : Nat} {q52 : Nat} {q73 : Nat} {q13 : Nat} {q67 : Nat} {q76 : Nat} {q11 : Nat} {q86 : Nat} {q84 : Nat} {q12 : Nat} {q85 : Nat} {q100 : Nat} {q68 : Nat} {q69 : Nat} {q70 : Nat} {q71 : Nat} {q72 : Nat} {x151 : Int32} {q157 : Nat} {q40 : Nat} {q41 : Nat} {q42 : Nat} {q43 : Nat} {q158 : Nat} {q44 : Nat} {q75 : Nat} {q45 : Nat} {q74 : Nat} {q46 : Nat} {q49 : Nat} {q188 : Nat} {fs203 : List Value} {q189 : Nat} {q195 : Nat} {q200 : Nat} {q196 : Nat} {q197 : Nat} {q201 : Nat} {q198 : Nat} {q199 : Nat} {q190 : Nat} {q191 : Nat} {q192 : Nat} {q193 : Nat} {q194 : Nat} {q202 : Nat} {f215 : Nat → Int32} (hnc : nc ≤ 1000) (hns : ns ≤ 100000) (hcx : Cx p s m #[Value.ref b] meth c cL_law 4 ret RL meth.name g) (hX : va_X b 6 xs s s.heap) (hbl : b < s.heap.size) (hbA : ¬ A b) (hA : ∀ q : Nat, s.heap.size ≤ q → A q) (hAl : ∀ q : Nat, A q → s.heap.size ≤ q) (hf218 : fs203.length = 69) (hf219 : fs203[0]? = some (Value.ref q189)) (hf220 : fs203[11]? = some (Value.ref q195)) (hf221 : fs203[12]? = some (Value.ref q200)) (hf222 : fs203[13]? = some (Value.ref q196)) (hf223 : fs203[14]? = some (Value.ref q197)) (hf224 : fs203[15]? = some (Value.ref q201)) (hf225 : fs203[16]? = some (Value.ref q198)) (hf226 : fs203[46]? = some (Value.ref q199)) (hf227 : fs203[48]? = some (Value.ref q190)) (hf228 : fs203[51]? = some (Value.ref q191)) (hf229 : fs203[53]? = some (Value.ref q192)) (hf230 : fs203[56]? = some (Value.ref q193)) (hf231 : fs203[67]? = some (Value.ref q194)) (hf232 : fs203[68]? = some (Value.ref q202)) (hf233 : fs203[2]? = some (Value.int 0)) (hf234 : fs203[4]? = some (Value.int 0)) (hf235 : fs203[5]? = some (Value.int (-1))) (hf236 : fs203[34]? = some (Value.int 0)) (hf237 : fs203[49]? = some (Value.int 0)) (hf238 : fs203[50]? = some (Value.int 0)) (hf239 : fs203[54]? = some (Value.int 0)) (hf240 : fs203[65]? = some (Value.int 0)) (hf241 : fs203[66]? = some (Value.int 0)) (hf250 : f215 0 = 0) (hP : va_P g.1 vwCl [(q1, .inr (10, [.ref q2, .int 0, .ref q3, .ref q52, .ref q73, .ref q13, .ref q67, .ref q76, .ref q11, .ref q86, .ref q84, .ref q12, .ref q85, .int 0])), (q13, .inr (0, [.ref q73, .ref q100, .int 0, .int 0])), (q67, .inr (7, [.ref q68, .ref q69, .ref q70, .ref q71, .ref q72, .int 0, .int 0, .int 0, .int 0, .int x151])), (q73, .inr (9, [.int 0, .int 0, .int 0, .int 0, .int 0, .ref q157, .ref q40, .ref q41, .ref q42, .ref q43, .ref q158, .ref q44, .ref q75, .ref q45, .ref q74, .ref q46, .ref q49])), (q188, .inr (11, fs203)), (q200, .inl (gI g, 2, .inl f215))] H) (hD : va_D A [(q1, .inr (10, [.ref q2, .int 0, .ref q3, .ref q52, .ref q73, .ref q13, .ref q67, .ref q76, .ref q11, .ref q86, .ref q84, .ref q12, .ref q85, .int 0])), (q13, .inr (0, [.ref q73, .ref q100, .int 0, .int 0])), (q67, .inr (7, [.ref q68, .ref q69, .ref q70, .ref q71, .ref q72, .int 0, .int 0, .int 0, .int 0, .int x151])), (q73, .inr (9, [.int 0, .int 0, .int 0, .int 0, .int 0, .ref q157, .ref q40, .ref q41, .ref q42, .ref q43, .ref q158, .ref q44, .ref q75, .ref q45, .ref q74, .ref q46, .ref q49])), (q188, .inr (11, fs203)), (q200, .inl (gI g, 2, .inl f215))]) (hS : va_S A s.heap H locs) (hl : lv_has ls 4 [(3, .int 0), (2, .ref q188), (1, .ref q1), (0, .ref b)]) : W p l e room_1 s m #[Value.ref b] below meth c H locs nc ns (lw_Z below #[Value.ref b] s) (F0 m 427 ls []) := by
  obtain ⟨hx, hb, hml, hr, hlocks, hown, hts, hE, hnm⟩ := id hcx
  have hK := hE.1
  refine lv_aload_n hx hb dL_law_427 rfl (lv_at hl 2 rfl) ?_
  refine lv_aload_n hx hb dL_law_428 rfl (lv_at hl 3 rfl) ?_
  refine lv_iload_n hx hb dL_law_429 rfl (lv_at hl 0 rfl) ?_
  refine lv_iconst (v := 1) hx hb dL_law_430 (by decide) ?_
  refine lv_iadd hx hb dL_law_431 ?_
  refine lv_tope (y := 1) (by decide) ?_
  refine sc_ld hx hb hX hbl hbA hS 1 rfl (by decide) (by decide) dL_law_432 ?_
  refine lv_aload_n hx hb dL_law_433 rfl (lv_at hl 3 rfl) ?_
  refine lv_iload_n hx hb dL_law_434 rfl (lv_at hl 0 rfl) ?_
  refine lv_iconst (v := 2) hx hb dL_law_435 (by decide) ?_
  refine lv_iadd hx hb dL_law_436 ?_
  refine lv_tope (y := 2) (by decide) ?_
  refine sc_ld hx hb hX hbl hbA hS 2 rfl (by decide) (by decide) dL_law_437 ?_
  refine kI (wc := [(q1, .inr (10, [.ref q2, .int 0, .ref q3, .ref q52, .ref q73, .ref q13, .ref q67, .ref q76, .ref q11, .ref q86, .ref q84, .ref q12, .ref q85, .int 0])), (q73, .inr (9, [.int 0, .int 0, .int 0, .int 0, .int 0, .ref q157, .ref q40, .ref q41, .ref q42, .ref q43, .ref q158, .ref q44, .ref q75, .ref q45, .ref q74, .ref q46, .ref q49])), (q13, .inr (0, [.ref q73, .ref q100, .int 0, .int 0])), (q67, .inr (7, [.ref q68, .ref q69, .ref q70, .ref q71, .ref q72, .int 0, .int 0, .int 0, .int 0, .int x151]))]) (wr := [(q188, .inr (11, fs203)), (q200, .inl (gI g, 2, .inl f215))]) (rV (As := [.int (xs 1), .int (xs 2)]) (rest := []) (meth2 := "") hcx (c_X10_strain H.size) (gdV q37_6 q37_7 q37_8 q1_2 q37_9) dvX10_strain ⟨Nat.le_of_ble_eq_true rfl, Nat.le_of_ble_eq_true rfl⟩ (hP.sub [0, 3, 1, 2] rfl) (hD.sub [0, 3, 1, 2] (by decide) rfl) (va_recv hK hP (ci := 10) (q0 := 0) rfl rfl) rfl hl.1 rfl (Nat.le_of_ble_eq_true rfl) dL_law_438 ⟨by show _ + 0 ≤ 600000; omega, by show _ + 0 ≤ 7302250; omega⟩) hP hD hS hA [0, 3, 1, 2] [4, 5] rfl rfl (by decide) (by decide) (fun r W' H locs hw hP hD hS => ?_)
  obtain ⟨rfl, rfl⟩ := hw
  have hP : va_P g.1 vwCl [(q188, .inr (11, fs203)), (q200, .inl (gI g, 2, .inl f215))] H := hP
  have hD : va_D A [(q188, .inr (11, fs203)), (q200, .inl (gI g, 2, .inl f215))] := hD
  refine lv_aload_n hx hb dL_law_441 rfl (lv_at hl 1 rfl) ?_
  refine lv_aload_n hx hb dL_law_442 rfl (lv_at hl 3 rfl) ?_
  refine lv_iload_n hx hb dL_law_443 rfl (lv_at hl 0 rfl) ?_
  refine lv_iconst (v := 1) hx hb dL_law_444 (by decide) ?_
  refine lv_iadd hx hb dL_law_445 ?_
  refine lv_tope (y := 1) (by decide) ?_
  refine sc_ld hx hb hX hbl hbA hS 1 rfl (by decide) (by decide) dL_law_446 ?_
  refine lv_aload_n hx hb dL_law_447 rfl (lv_at hl 3 rfl) ?_
  refine lv_iload_n hx hb dL_law_448 rfl (lv_at hl 0 rfl) ?_
  refine lv_iconst (v := 2) hx hb dL_law_449 (by decide) ?_
  refine lv_iadd hx hb dL_law_450 ?_
  refine lv_tope (y := 2) (by decide) ?_
  refine sc_ld hx hb hX hbl hbA hS 2 rfl (by decide) (by decide) dL_law_451 ?_
  refine kI (wc := [(q188, .inr (11, fs203)), (q200, .inl (gI g, 2, .inl f215))]) (wr := []) (rV (As := [.int (xs 1), .int (xs 2)]) (rest := [.int (-1000000000)]) (meth2 := "") hcx (c_X11_strain (hf218) (hf221) (hf236) (hf250) H.size) (gdV q39_9 q39_10 q39_11 q1_5 q39_12) dvX11_strain ⟨Nat.le_of_ble_eq_true rfl, Nat.le_of_ble_eq_true rfl⟩ (hP.sub [0, 1] rfl) (hD.sub [0, 1] (by decide) rfl) (va_recv hK hP (ci := 11) (q0 := 0) rfl rfl) rfl hl.1 rfl (Nat.le_of_ble_eq_true rfl) dL_law_452 ⟨by show _ + 0 ≤ 600000; omega, by show _ + 0 ≤ 7302250; omega⟩) hP hD hS hA [0, 1] [] rfl rfl (by decide) (by decide) (fun r W' H locs hw hP hD hS => ?_)
  obtain ⟨rfl, rfl⟩ := hw
  have hP : va_P g.1 vwCl [] H := hP
  have hD : va_D A [] := hD
  refine lv_icmp_eq (tgt := 1278) hx hb dL_law_455 (by decide) (fun _ => ?_) (fun c1001 => absurd (by decide) c1001)
  refine lv_iinc (v := 6) (lv' := [(3, .int 6), (2, .ref q188), (1, .ref q1), (0, .ref b)]) hx hb dL_law_1278 hl (k := 0) rfl (by decide) (by decide) rfl (fun ls hl => ?_)
  refine lv_goto (tgt := 18) hx hb dL_law_1281 (by decide) ?_
  refine lv_iload_n hx hb dL_law_18 rfl (lv_at hl 0 rfl) ?_
  refine lv_aload_n hx hb dL_law_19 rfl (lv_at hl 3 rfl) ?_
  refine va_slen hx hb hX hbl hbA hS dL_law_20 ?_
  refine lv_tope (y := 6) (by decide) ?_
  refine lv_bipush (v := 6) hx hb dL_law_21 (by decide) ?_
  refine lv_isub hx hb dL_law_23 ?_
  refine lv_tope (y := 0) (by decide) ?_
  refine lv_icmp_gt (tgt := 1284) hx hb dL_law_24 (by decide) (fun _ => ?_) (fun c1002 => absurd (by decide) c1002)
  refine lv_iconst (v := 1) hx hb dL_law_1284 (by decide) ?_
  refine va_forget (fun q hq => hAl _ (hS.2.2 q hq)) ?_
  refine W.widen (k := 600000) (n := 7302250) (by omega) (by omega) ?_
  exact lw_ret hx hb hr hlocks dL_law_1285

set_option maxHeartbeats 40000000 in
set_option maxRecDepth 100000 in
theorem lc_8 {p : Program} {l : Launch} {e : Env} {s : State} {m : MethodId} {below : List Frame} {meth : Method} {c : Code} {g : Gx} {b : Nat} {xs : Nat → Int32} {A : Nat → Prop} {H : Heap} {locs : List Loc} {ls : Array Slot} {nc ns : Nat} {q1 : Nat} {q2 : Nat} {q3 : Nat} {q52 : Nat} {q73 : Nat} {q13 : Nat} {q67 : Nat} {q76 : Nat} {q11 : Nat} {q86 : Nat} {q84 : Nat} {q12 : Nat} {q85 : Nat} {q100 : Nat} {q68 : Nat} {q69 : Nat} {q70 : Nat} {q71 : Nat} {q72 : Nat} {x151 : Int32} {q157 : Nat} {q40 : Nat} {q41 : Nat} {q42 : Nat} {q43 : Nat} {q158 : Nat} {q44 : Nat} {q75 : Nat} {q45 : Nat} {q74 : Nat} {q46 : Nat} {q49 : Nat} {q188 : Nat} {fs203 : List Value} {q189 : Nat} {q195 : Nat} {q200 : Nat} {q196 : Nat} {q197 : Nat} {q201 : Nat} {q198 : Nat} {q199 : Nat} {q190 : Nat} {q191 : Nat} {q192 : Nat} {q193 : Nat} {q194 : Nat} {q202 : Nat} {f210 : Nat → Int32} {f214 : Nat → Int32} (hnc : nc ≤ 1000) (hns : ns ≤ 100000) (hcx : Cx p s m #[Value.ref b] meth c cL_law 4 ret RL meth.name g) (hX : va_X b 6 xs s s.heap) (hbl : b < s.heap.size) (hbA : ¬ A b) (hA : ∀ q : Nat, s.heap.size ≤ q → A q) (hAl : ∀ q : Nat, A q → s.heap.size ≤ q) (hf218 : fs203.length = 69) (hf219 : fs203[0]? = some (Value.ref q189)) (hf220 : fs203[11]? = some (Value.ref q195)) (hf221 : fs203[12]? = some (Value.ref q200)) (hf222 : fs203[13]? = some (Value.ref q196)) (hf223 : fs203[14]? = some (Value.ref q197)) (hf224 : fs203[15]? = some (Value.ref q201)) (hf225 : fs203[16]? = some (Value.ref q198)) (hf226 : fs203[46]? = some (Value.ref q199)) (hf227 : fs203[48]? = some (Value.ref q190)) (hf228 : fs203[51]? = some (Value.ref q191)) (hf229 : fs203[53]? = some (Value.ref q192)) (hf230 : fs203[56]? = some (Value.ref q193)) (hf231 : fs203[67]? = some (Value.ref q194)) (hf232 : fs203[68]? = some (Value.ref q202)) (hf233 : fs203[2]? = some (Value.int 0)) (hf234 : fs203[4]? = some (Value.int 0)) (hf235 : fs203[5]? = some (Value.int (-1))) (hf236 : fs203[34]? = some (Value.int 0)) (hf237 : fs203[49]? = some (Value.int 0)) (hf238 : fs203[50]? = some (Value.int 0)) (hf239 : fs203[54]? = some (Value.int 0)) (hf240 : fs203[65]? = some (Value.int 0)) (hf241 : fs203[66]? = some (Value.int 0)) (hf242 : f210 0 = 0) (hf246 : f214 20 = 0) (hf247 : f214 21 = 0) (hf248 : f214 22 = 0) (hf249 : f214 23 = 0) (hP : va_P g.1 vwCl [(q1, .inr (10, [.ref q2, .int 0, .ref q3, .ref q52, .ref q73, .ref q13, .ref q67, .ref q76, .ref q11, .ref q86, .ref q84, .ref q12, .ref q85, .int 0])), (q13, .inr (0, [.ref q73, .ref q100, .int 0, .int 0])), (q67, .inr (7, [.ref q68, .ref q69, .ref q70, .ref q71, .ref q72, .int 0, .int 0, .int 0, .int 0, .int x151])), (q73, .inr (9, [.int 0, .int 0, .int 0, .int 0, .int 0, .ref q157, .ref q40, .ref q41, .ref q42, .ref q43, .ref q158, .ref q44, .ref q75, .ref q45, .ref q74, .ref q46, .ref q49])), (q188, .inr (11, fs203)), (q195, .inl (gI g, 2, .inl f210)), (q199, .inl (gI g, 24, .inl f214))] H) (hD : va_D A [(q1, .inr (10, [.ref q2, .int 0, .ref q3, .ref q52, .ref q73, .ref q13, .ref q67, .ref q76, .ref q11, .ref q86, .ref q84, .ref q12, .ref q85, .int 0])), (q13, .inr (0, [.ref q73, .ref q100, .int 0, .int 0])), (q67, .inr (7, [.ref q68, .ref q69, .ref q70, .ref q71, .ref q72, .int 0, .int 0, .int 0, .int 0, .int x151])), (q73, .inr (9, [.int 0, .int 0, .int 0, .int 0, .int 0, .ref q157, .ref q40, .ref q41, .ref q42, .ref q43, .ref q158, .ref q44, .ref q75, .ref q45, .ref q74, .ref q46, .ref q49])), (q188, .inr (11, fs203)), (q195, .inl (gI g, 2, .inl f210)), (q199, .inl (gI g, 24, .inl f214))]) (hS : va_S A s.heap H locs) (hl : lv_has ls 4 [(3, .int 0), (2, .ref q188), (1, .ref q1), (0, .ref b)]) : W p l e room_1 s m #[Value.ref b] below meth c H locs nc ns (lw_Z below #[Value.ref b] s) (F0 m 460 ls []) := by
  obtain ⟨hx, hb, hml, hr, hlocks, hown, hts, hE, hnm⟩ := id hcx
  have hK := hE.1
  refine lv_aload_n hx hb dL_law_460 rfl (lv_at hl 2 rfl) ?_
  refine kI (wc := [(q1, .inr (10, [.ref q2, .int 0, .ref q3, .ref q52, .ref q73, .ref q13, .ref q67, .ref q76, .ref q11, .ref q86, .ref q84, .ref q12, .ref q85, .int 0])), (q13, .inr (0, [.ref q73, .ref q100, .int 0, .int 0])), (q67, .inr (7, [.ref q68, .ref q69, .ref q70, .ref q71, .ref q72, .int 0, .int 0, .int 0, .int 0, .int x151])), (q73, .inr (9, [.int 0, .int 0, .int 0, .int 0, .int 0, .ref q157, .ref q40, .ref q41, .ref q42, .ref q43, .ref q158, .ref q44, .ref q75, .ref q45, .ref q74, .ref q46, .ref q49]))]) (wr := [(q188, .inr (11, fs203)), (q195, .inl (gI g, 2, .inl f210)), (q199, .inl (gI g, 24, .inl f214))]) (rV (As := []) (rest := []) (meth2 := "") hcx (c_X10_step H.size) (gdV q40_23 q41_0 q41_1 q1_2 q41_2) dvX10_step ⟨Nat.le_of_ble_eq_true rfl, Nat.le_of_ble_eq_true rfl⟩ (hP.sub [0, 1, 2, 3] rfl) (hD.sub [0, 1, 2, 3] (by decide) rfl) (va_recv hK hP (ci := 10) (q0 := 0) rfl rfl) rfl hl.1 rfl (Nat.le_of_ble_eq_true rfl) dL_law_461 ⟨by show _ + 0 ≤ 600000; omega, by show _ + 0 ≤ 7302250; omega⟩) hP hD hS hA [0, 1, 2, 3] [4, 5, 6] rfl rfl (by decide) (by decide) (fun r W' H locs hw hP hD hS => ?_)
  obtain ⟨rfl, rfl⟩ := hw
  have hP : va_P g.1 vwCl [(q188, .inr (11, fs203)), (q195, .inl (gI g, 2, .inl f210)), (q199, .inl (gI g, 24, .inl f214))] H := hP
  have hD : va_D A [(q188, .inr (11, fs203)), (q195, .inl (gI g, 2, .inl f210)), (q199, .inl (gI g, 24, .inl f214))] := hD
  refine lv_aload_n hx hb dL_law_464 rfl (lv_at hl 1 rfl) ?_
  refine kI (wc := [(q188, .inr (11, fs203)), (q199, .inl (gI g, 24, .inl f214)), (q195, .inl (gI g, 2, .inl f210))]) (wr := []) (rV (As := []) (rest := [.int (-1)]) (meth2 := "") hcx (c_X11_step (hf218) (hf226) (hf220) (hf236) (hf247) (hf242) H.size) (gdV q41_23 q42_0 q42_1 q1_5 q42_2) dvX11_step ⟨Nat.le_of_ble_eq_true rfl, Nat.le_of_ble_eq_true rfl⟩ (hP.sub [0, 2, 1] rfl) (hD.sub [0, 2, 1] (by decide) rfl) (va_recv hK hP (ci := 11) (q0 := 0) rfl rfl) rfl hl.1 rfl (Nat.le_of_ble_eq_true rfl) dL_law_465 ⟨by show _ + 0 ≤ 600000; omega, by show _ + 0 ≤ 7302250; omega⟩) hP hD hS hA [0, 2, 1] [] rfl rfl (by decide) (by decide) (fun r W' H locs hw hP hD hS => ?_)
  obtain ⟨rfl, rfl⟩ := hw
  have hP : va_P g.1 vwCl [] H := hP
  have hD : va_D A [] := hD
  refine lv_icmp_eq (tgt := 1278) hx hb dL_law_468 (by decide) (fun _ => ?_) (fun c1001 => absurd (by decide) c1001)
  refine lv_iinc (v := 6) (lv' := [(3, .int 6), (2, .ref q188), (1, .ref q1), (0, .ref b)]) hx hb dL_law_1278 hl (k := 0) rfl (by decide) (by decide) rfl (fun ls hl => ?_)
  refine lv_goto (tgt := 18) hx hb dL_law_1281 (by decide) ?_
  refine lv_iload_n hx hb dL_law_18 rfl (lv_at hl 0 rfl) ?_
  refine lv_aload_n hx hb dL_law_19 rfl (lv_at hl 3 rfl) ?_
  refine va_slen hx hb hX hbl hbA hS dL_law_20 ?_
  refine lv_tope (y := 6) (by decide) ?_
  refine lv_bipush (v := 6) hx hb dL_law_21 (by decide) ?_
  refine lv_isub hx hb dL_law_23 ?_
  refine lv_tope (y := 0) (by decide) ?_
  refine lv_icmp_gt (tgt := 1284) hx hb dL_law_24 (by decide) (fun _ => ?_) (fun c1002 => absurd (by decide) c1002)
  refine lv_iconst (v := 1) hx hb dL_law_1284 (by decide) ?_
  refine va_forget (fun q hq => hAl _ (hS.2.2 q hq)) ?_
  refine W.widen (k := 600000) (n := 7302250) (by omega) (by omega) ?_
  exact lw_ret hx hb hr hlocks dL_law_1285

set_option maxHeartbeats 40000000 in
set_option maxRecDepth 100000 in
theorem lc_9 {p : Program} {l : Launch} {e : Env} {s : State} {m : MethodId} {below : List Frame} {meth : Method} {c : Code} {g : Gx} {b : Nat} {xs : Nat → Int32} {A : Nat → Prop} {H : Heap} {locs : List Loc} {ls : Array Slot} {nc ns : Nat} {q1 : Nat} {q2 : Nat} {q3 : Nat} {q52 : Nat} {q73 : Nat} {q13 : Nat} {q67 : Nat} {q76 : Nat} {q11 : Nat} {q86 : Nat} {q84 : Nat} {q12 : Nat} {q85 : Nat} {q157 : Nat} {q40 : Nat} {q41 : Nat} {q42 : Nat} {q43 : Nat} {q158 : Nat} {q44 : Nat} {q75 : Nat} {q45 : Nat} {q74 : Nat} {q46 : Nat} {q49 : Nat} {q188 : Nat} {fs203 : List Value} {q189 : Nat} {q195 : Nat} {q200 : Nat} {q196 : Nat} {q197 : Nat} {q201 : Nat} {q198 : Nat} {q199 : Nat} {q190 : Nat} {q191 : Nat} {q192 : Nat} {q193 : Nat} {q194 : Nat} {q202 : Nat} {f215 : Nat → Int32} (hnc : nc ≤ 1000) (hns : ns ≤ 100000) (hcx : Cx p s m #[Value.ref b] meth c cL_law 4 ret RL meth.name g) (hX : va_X b 6 xs s s.heap) (hbl : b < s.heap.size) (hbA : ¬ A b) (hA : ∀ q : Nat, s.heap.size ≤ q → A q) (hAl : ∀ q : Nat, A q → s.heap.size ≤ q) (hf218 : fs203.length = 69) (hf219 : fs203[0]? = some (Value.ref q189)) (hf220 : fs203[11]? = some (Value.ref q195)) (hf221 : fs203[12]? = some (Value.ref q200)) (hf222 : fs203[13]? = some (Value.ref q196)) (hf223 : fs203[14]? = some (Value.ref q197)) (hf224 : fs203[15]? = some (Value.ref q201)) (hf225 : fs203[16]? = some (Value.ref q198)) (hf226 : fs203[46]? = some (Value.ref q199)) (hf227 : fs203[48]? = some (Value.ref q190)) (hf228 : fs203[51]? = some (Value.ref q191)) (hf229 : fs203[53]? = some (Value.ref q192)) (hf230 : fs203[56]? = some (Value.ref q193)) (hf231 : fs203[67]? = some (Value.ref q194)) (hf232 : fs203[68]? = some (Value.ref q202)) (hf233 : fs203[2]? = some (Value.int 0)) (hf234 : fs203[4]? = some (Value.int 0)) (hf235 : fs203[5]? = some (Value.int (-1))) (hf236 : fs203[34]? = some (Value.int 0)) (hf237 : fs203[49]? = some (Value.int 0)) (hf238 : fs203[50]? = some (Value.int 0)) (hf239 : fs203[54]? = some (Value.int 0)) (hf240 : fs203[65]? = some (Value.int 0)) (hf241 : fs203[66]? = some (Value.int 0)) (hf250 : f215 0 = 0) (hP : va_P g.1 vwCl [(q1, .inr (10, [.ref q2, .int 0, .ref q3, .ref q52, .ref q73, .ref q13, .ref q67, .ref q76, .ref q11, .ref q86, .ref q84, .ref q12, .ref q85, .int 0])), (q73, .inr (9, [.int 0, .int 0, .int 0, .int 0, .int 0, .ref q157, .ref q40, .ref q41, .ref q42, .ref q43, .ref q158, .ref q44, .ref q75, .ref q45, .ref q74, .ref q46, .ref q49])), (q188, .inr (11, fs203)), (q200, .inl (gI g, 2, .inl f215))] H) (hD : va_D A [(q1, .inr (10, [.ref q2, .int 0, .ref q3, .ref q52, .ref q73, .ref q13, .ref q67, .ref q76, .ref q11, .ref q86, .ref q84, .ref q12, .ref q85, .int 0])), (q73, .inr (9, [.int 0, .int 0, .int 0, .int 0, .int 0, .ref q157, .ref q40, .ref q41, .ref q42, .ref q43, .ref q158, .ref q44, .ref q75, .ref q45, .ref q74, .ref q46, .ref q49])), (q188, .inr (11, fs203)), (q200, .inl (gI g, 2, .inl f215))]) (hS : va_S A s.heap H locs) (hl : lv_has ls 4 [(3, .int 0), (2, .ref q188), (1, .ref q1), (0, .ref b)]) : W p l e room_1 s m #[Value.ref b] below meth c H locs nc ns (lw_Z below #[Value.ref b] s) (F0 m 473 ls []) := by
  obtain ⟨hx, hb, hml, hr, hlocks, hown, hts, hE, hnm⟩ := id hcx
  have hK := hE.1
  refine lv_aload_n hx hb dL_law_473 rfl (lv_at hl 2 rfl) ?_
  refine lv_aload_n hx hb dL_law_474 rfl (lv_at hl 3 rfl) ?_
  refine lv_iload_n hx hb dL_law_475 rfl (lv_at hl 0 rfl) ?_
  refine lv_iconst (v := 1) hx hb dL_law_476 (by decide) ?_
  refine lv_iadd hx hb dL_law_477 ?_
  refine lv_tope (y := 1) (by decide) ?_
  refine sc_ld hx hb hX hbl hbA hS 1 rfl (by decide) (by decide) dL_law_478 ?_
  refine lv_aload_n hx hb dL_law_479 rfl (lv_at hl 3 rfl) ?_
  refine lv_iload_n hx hb dL_law_480 rfl (lv_at hl 0 rfl) ?_
  refine lv_iconst (v := 2) hx hb dL_law_481 (by decide) ?_
  refine lv_iadd hx hb dL_law_482 ?_
  refine lv_tope (y := 2) (by decide) ?_
  refine sc_ld hx hb hX hbl hbA hS 2 rfl (by decide) (by decide) dL_law_483 ?_
  refine kI (wc := [(q1, .inr (10, [.ref q2, .int 0, .ref q3, .ref q52, .ref q73, .ref q13, .ref q67, .ref q76, .ref q11, .ref q86, .ref q84, .ref q12, .ref q85, .int 0])), (q73, .inr (9, [.int 0, .int 0, .int 0, .int 0, .int 0, .ref q157, .ref q40, .ref q41, .ref q42, .ref q43, .ref q158, .ref q44, .ref q75, .ref q45, .ref q74, .ref q46, .ref q49]))]) (wr := [(q188, .inr (11, fs203)), (q200, .inl (gI g, 2, .inl f215))]) (rV (As := [.int (xs 1), .int (xs 2)]) (rest := []) (meth2 := "") hcx (c_X10_reef H.size) (gdV q42_15 q42_16 q42_17 q1_2 q42_18) dvX10_reef ⟨Nat.le_of_ble_eq_true rfl, Nat.le_of_ble_eq_true rfl⟩ (hP.sub [0, 1] rfl) (hD.sub [0, 1] (by decide) rfl) (va_recv hK hP (ci := 10) (q0 := 0) rfl rfl) rfl hl.1 rfl (Nat.le_of_ble_eq_true rfl) dL_law_484 ⟨by show _ + 0 ≤ 600000; omega, by show _ + 0 ≤ 7302250; omega⟩) hP hD hS hA [0, 1] [2, 3] rfl rfl (by decide) (by decide) (fun r W' H locs hw hP hD hS => ?_)
  obtain ⟨rfl, rfl⟩ := hw
  have hP : va_P g.1 vwCl [(q188, .inr (11, fs203)), (q200, .inl (gI g, 2, .inl f215))] H := hP
  have hD : va_D A [(q188, .inr (11, fs203)), (q200, .inl (gI g, 2, .inl f215))] := hD
  refine lv_aload_n hx hb dL_law_487 rfl (lv_at hl 1 rfl) ?_
  refine lv_aload_n hx hb dL_law_488 rfl (lv_at hl 3 rfl) ?_
  refine lv_iload_n hx hb dL_law_489 rfl (lv_at hl 0 rfl) ?_
  refine lv_iconst (v := 1) hx hb dL_law_490 (by decide) ?_
  refine lv_iadd hx hb dL_law_491 ?_
  refine lv_tope (y := 1) (by decide) ?_
  refine sc_ld hx hb hX hbl hbA hS 1 rfl (by decide) (by decide) dL_law_492 ?_
  refine lv_aload_n hx hb dL_law_493 rfl (lv_at hl 3 rfl) ?_
  refine lv_iload_n hx hb dL_law_494 rfl (lv_at hl 0 rfl) ?_
  refine lv_iconst (v := 2) hx hb dL_law_495 (by decide) ?_
  refine lv_iadd hx hb dL_law_496 ?_
  refine lv_tope (y := 2) (by decide) ?_
  refine sc_ld hx hb hX hbl hbA hS 2 rfl (by decide) (by decide) dL_law_497 ?_
  refine kI (wc := [(q188, .inr (11, fs203)), (q200, .inl (gI g, 2, .inl f215))]) (wr := []) (rV (As := [.int (xs 1), .int (xs 2)]) (rest := [.int (-1)]) (meth2 := "") hcx (c_X11_reef (hf218) (hf221) (hf236) (hf250) H.size) (gdV q42_19 q42_20 q42_21 q1_5 q42_22) dvX11_reef ⟨Nat.le_of_ble_eq_true rfl, Nat.le_of_ble_eq_true rfl⟩ (hP.sub [0, 1] rfl) (hD.sub [0, 1] (by decide) rfl) (va_recv hK hP (ci := 11) (q0 := 0) rfl rfl) rfl hl.1 rfl (Nat.le_of_ble_eq_true rfl) dL_law_498 ⟨by show _ + 0 ≤ 600000; omega, by show _ + 0 ≤ 7302250; omega⟩) hP hD hS hA [0, 1] [] rfl rfl (by decide) (by decide) (fun r W' H locs hw hP hD hS => ?_)
  obtain ⟨rfl, rfl⟩ := hw
  have hP : va_P g.1 vwCl [] H := hP
  have hD : va_D A [] := hD
  refine lv_icmp_eq (tgt := 1278) hx hb dL_law_501 (by decide) (fun _ => ?_) (fun c1001 => absurd (by decide) c1001)
  refine lv_iinc (v := 6) (lv' := [(3, .int 6), (2, .ref q188), (1, .ref q1), (0, .ref b)]) hx hb dL_law_1278 hl (k := 0) rfl (by decide) (by decide) rfl (fun ls hl => ?_)
  refine lv_goto (tgt := 18) hx hb dL_law_1281 (by decide) ?_
  refine lv_iload_n hx hb dL_law_18 rfl (lv_at hl 0 rfl) ?_
  refine lv_aload_n hx hb dL_law_19 rfl (lv_at hl 3 rfl) ?_
  refine va_slen hx hb hX hbl hbA hS dL_law_20 ?_
  refine lv_tope (y := 6) (by decide) ?_
  refine lv_bipush (v := 6) hx hb dL_law_21 (by decide) ?_
  refine lv_isub hx hb dL_law_23 ?_
  refine lv_tope (y := 0) (by decide) ?_
  refine lv_icmp_gt (tgt := 1284) hx hb dL_law_24 (by decide) (fun _ => ?_) (fun c1002 => absurd (by decide) c1002)
  refine lv_iconst (v := 1) hx hb dL_law_1284 (by decide) ?_
  refine va_forget (fun q hq => hAl _ (hS.2.2 q hq)) ?_
  refine W.widen (k := 600000) (n := 7302250) (by omega) (by omega) ?_
  exact lw_ret hx hb hr hlocks dL_law_1285

set_option maxHeartbeats 40000000 in
set_option maxRecDepth 100000 in
theorem lc_10 {p : Program} {l : Launch} {e : Env} {s : State} {m : MethodId} {below : List Frame} {meth : Method} {c : Code} {g : Gx} {b : Nat} {xs : Nat → Int32} {A : Nat → Prop} {H : Heap} {locs : List Loc} {ls : Array Slot} {nc ns : Nat} {q1 : Nat} {q2 : Nat} {q3 : Nat} {q52 : Nat} {q73 : Nat} {q13 : Nat} {q67 : Nat} {q76 : Nat} {q11 : Nat} {q86 : Nat} {q84 : Nat} {q12 : Nat} {q85 : Nat} {q157 : Nat} {q40 : Nat} {q41 : Nat} {q42 : Nat} {q43 : Nat} {q158 : Nat} {q44 : Nat} {q75 : Nat} {q45 : Nat} {q74 : Nat} {q46 : Nat} {q49 : Nat} {q188 : Nat} {fs203 : List Value} {q189 : Nat} {q195 : Nat} {q200 : Nat} {q196 : Nat} {q197 : Nat} {q201 : Nat} {q198 : Nat} {q199 : Nat} {q190 : Nat} {q191 : Nat} {q192 : Nat} {q193 : Nat} {q194 : Nat} {q202 : Nat} {f215 : Nat → Int32} (hnc : nc ≤ 1000) (hns : ns ≤ 100000) (hcx : Cx p s m #[Value.ref b] meth c cL_law 4 ret RL meth.name g) (hX : va_X b 6 xs s s.heap) (hbl : b < s.heap.size) (hbA : ¬ A b) (hA : ∀ q : Nat, s.heap.size ≤ q → A q) (hAl : ∀ q : Nat, A q → s.heap.size ≤ q) (hf218 : fs203.length = 69) (hf219 : fs203[0]? = some (Value.ref q189)) (hf220 : fs203[11]? = some (Value.ref q195)) (hf221 : fs203[12]? = some (Value.ref q200)) (hf222 : fs203[13]? = some (Value.ref q196)) (hf223 : fs203[14]? = some (Value.ref q197)) (hf224 : fs203[15]? = some (Value.ref q201)) (hf225 : fs203[16]? = some (Value.ref q198)) (hf226 : fs203[46]? = some (Value.ref q199)) (hf227 : fs203[48]? = some (Value.ref q190)) (hf228 : fs203[51]? = some (Value.ref q191)) (hf229 : fs203[53]? = some (Value.ref q192)) (hf230 : fs203[56]? = some (Value.ref q193)) (hf231 : fs203[67]? = some (Value.ref q194)) (hf232 : fs203[68]? = some (Value.ref q202)) (hf233 : fs203[2]? = some (Value.int 0)) (hf234 : fs203[4]? = some (Value.int 0)) (hf235 : fs203[5]? = some (Value.int (-1))) (hf236 : fs203[34]? = some (Value.int 0)) (hf237 : fs203[49]? = some (Value.int 0)) (hf238 : fs203[50]? = some (Value.int 0)) (hf239 : fs203[54]? = some (Value.int 0)) (hf240 : fs203[65]? = some (Value.int 0)) (hf241 : fs203[66]? = some (Value.int 0)) (hf250 : f215 0 = 0) (hP : va_P g.1 vwCl [(q1, .inr (10, [.ref q2, .int 0, .ref q3, .ref q52, .ref q73, .ref q13, .ref q67, .ref q76, .ref q11, .ref q86, .ref q84, .ref q12, .ref q85, .int 0])), (q73, .inr (9, [.int 0, .int 0, .int 0, .int 0, .int 0, .ref q157, .ref q40, .ref q41, .ref q42, .ref q43, .ref q158, .ref q44, .ref q75, .ref q45, .ref q74, .ref q46, .ref q49])), (q188, .inr (11, fs203)), (q200, .inl (gI g, 2, .inl f215))] H) (hD : va_D A [(q1, .inr (10, [.ref q2, .int 0, .ref q3, .ref q52, .ref q73, .ref q13, .ref q67, .ref q76, .ref q11, .ref q86, .ref q84, .ref q12, .ref q85, .int 0])), (q73, .inr (9, [.int 0, .int 0, .int 0, .int 0, .int 0, .ref q157, .ref q40, .ref q41, .ref q42, .ref q43, .ref q158, .ref q44, .ref q75, .ref q45, .ref q74, .ref q46, .ref q49])), (q188, .inr (11, fs203)), (q200, .inl (gI g, 2, .inl f215))]) (hS : va_S A s.heap H locs) (hl : lv_has ls 4 [(3, .int 0), (2, .ref q188), (1, .ref q1), (0, .ref b)]) : W p l e room_1 s m #[Value.ref b] below meth c H locs nc ns (lw_Z below #[Value.ref b] s) (F0 m 506 ls []) := by
  obtain ⟨hx, hb, hml, hr, hlocks, hown, hts, hE, hnm⟩ := id hcx
  have hK := hE.1
  refine lv_aload_n hx hb dL_law_506 rfl (lv_at hl 2 rfl) ?_
  refine lv_aload_n hx hb dL_law_507 rfl (lv_at hl 3 rfl) ?_
  refine lv_iload_n hx hb dL_law_508 rfl (lv_at hl 0 rfl) ?_
  refine lv_iconst (v := 1) hx hb dL_law_509 (by decide) ?_
  refine lv_iadd hx hb dL_law_510 ?_
  refine lv_tope (y := 1) (by decide) ?_
  refine sc_ld hx hb hX hbl hbA hS 1 rfl (by decide) (by decide) dL_law_511 ?_
  refine lv_aload_n hx hb dL_law_512 rfl (lv_at hl 3 rfl) ?_
  refine lv_iload_n hx hb dL_law_513 rfl (lv_at hl 0 rfl) ?_
  refine lv_iconst (v := 2) hx hb dL_law_514 (by decide) ?_
  refine lv_iadd hx hb dL_law_515 ?_
  refine lv_tope (y := 2) (by decide) ?_
  refine sc_ld hx hb hX hbl hbA hS 2 rfl (by decide) (by decide) dL_law_516 ?_
  refine kI (wc := [(q1, .inr (10, [.ref q2, .int 0, .ref q3, .ref q52, .ref q73, .ref q13, .ref q67, .ref q76, .ref q11, .ref q86, .ref q84, .ref q12, .ref q85, .int 0])), (q73, .inr (9, [.int 0, .int 0, .int 0, .int 0, .int 0, .ref q157, .ref q40, .ref q41, .ref q42, .ref q43, .ref q158, .ref q44, .ref q75, .ref q45, .ref q74, .ref q46, .ref q49]))]) (wr := [(q188, .inr (11, fs203)), (q200, .inl (gI g, 2, .inl f215))]) (rV (As := [.int (xs 1), .int (xs 2)]) (rest := []) (meth2 := "") hcx (c_X10_child H.size) (gdV q42_23 q43_0 q43_1 q1_2 q43_2) dvX10_child ⟨Nat.le_of_ble_eq_true rfl, Nat.le_of_ble_eq_true rfl⟩ (hP.sub [0, 1] rfl) (hD.sub [0, 1] (by decide) rfl) (va_recv hK hP (ci := 10) (q0 := 0) rfl rfl) rfl hl.1 rfl (Nat.le_of_ble_eq_true rfl) dL_law_517 ⟨by show _ + 0 ≤ 600000; omega, by show _ + 0 ≤ 7302250; omega⟩) hP hD hS hA [0, 1] [2, 3] rfl rfl (by decide) (by decide) (fun r W' H locs hw hP hD hS => ?_)
  obtain ⟨rfl, rfl⟩ := hw
  have hP : va_P g.1 vwCl [(q188, .inr (11, fs203)), (q200, .inl (gI g, 2, .inl f215))] H := hP
  have hD : va_D A [(q188, .inr (11, fs203)), (q200, .inl (gI g, 2, .inl f215))] := hD
  refine lv_aload_n hx hb dL_law_520 rfl (lv_at hl 1 rfl) ?_
  refine lv_aload_n hx hb dL_law_521 rfl (lv_at hl 3 rfl) ?_
  refine lv_iload_n hx hb dL_law_522 rfl (lv_at hl 0 rfl) ?_
  refine lv_iconst (v := 1) hx hb dL_law_523 (by decide) ?_
  refine lv_iadd hx hb dL_law_524 ?_
  refine lv_tope (y := 1) (by decide) ?_
  refine sc_ld hx hb hX hbl hbA hS 1 rfl (by decide) (by decide) dL_law_525 ?_
  refine lv_aload_n hx hb dL_law_526 rfl (lv_at hl 3 rfl) ?_
  refine lv_iload_n hx hb dL_law_527 rfl (lv_at hl 0 rfl) ?_
  refine lv_iconst (v := 2) hx hb dL_law_528 (by decide) ?_
  refine lv_iadd hx hb dL_law_529 ?_
  refine lv_tope (y := 2) (by decide) ?_
  refine sc_ld hx hb hX hbl hbA hS 2 rfl (by decide) (by decide) dL_law_530 ?_
  refine kI (wc := [(q188, .inr (11, fs203)), (q200, .inl (gI g, 2, .inl f215))]) (wr := []) (rV (As := [.int (xs 1), .int (xs 2)]) (rest := [.int (-1)]) (meth2 := "") hcx (c_X11_child (hf218) (hf221) (hf236) (hf250) H.size) (gdV q43_3 q43_4 q43_5 q1_5 q43_6) dvX11_child ⟨Nat.le_of_ble_eq_true rfl, Nat.le_of_ble_eq_true rfl⟩ (hP.sub [0, 1] rfl) (hD.sub [0, 1] (by decide) rfl) (va_recv hK hP (ci := 11) (q0 := 0) rfl rfl) rfl hl.1 rfl (Nat.le_of_ble_eq_true rfl) dL_law_531 ⟨by show _ + 0 ≤ 600000; omega, by show _ + 0 ≤ 7302250; omega⟩) hP hD hS hA [0, 1] [] rfl rfl (by decide) (by decide) (fun r W' H locs hw hP hD hS => ?_)
  obtain ⟨rfl, rfl⟩ := hw
  have hP : va_P g.1 vwCl [] H := hP
  have hD : va_D A [] := hD
  refine lv_icmp_eq (tgt := 1278) hx hb dL_law_534 (by decide) (fun _ => ?_) (fun c1001 => absurd (by decide) c1001)
  refine lv_iinc (v := 6) (lv' := [(3, .int 6), (2, .ref q188), (1, .ref q1), (0, .ref b)]) hx hb dL_law_1278 hl (k := 0) rfl (by decide) (by decide) rfl (fun ls hl => ?_)
  refine lv_goto (tgt := 18) hx hb dL_law_1281 (by decide) ?_
  refine lv_iload_n hx hb dL_law_18 rfl (lv_at hl 0 rfl) ?_
  refine lv_aload_n hx hb dL_law_19 rfl (lv_at hl 3 rfl) ?_
  refine va_slen hx hb hX hbl hbA hS dL_law_20 ?_
  refine lv_tope (y := 6) (by decide) ?_
  refine lv_bipush (v := 6) hx hb dL_law_21 (by decide) ?_
  refine lv_isub hx hb dL_law_23 ?_
  refine lv_tope (y := 0) (by decide) ?_
  refine lv_icmp_gt (tgt := 1284) hx hb dL_law_24 (by decide) (fun _ => ?_) (fun c1002 => absurd (by decide) c1002)
  refine lv_iconst (v := 1) hx hb dL_law_1284 (by decide) ?_
  refine va_forget (fun q hq => hAl _ (hS.2.2 q hq)) ?_
  refine W.widen (k := 600000) (n := 7302250) (by omega) (by omega) ?_
  exact lw_ret hx hb hr hlocks dL_law_1285

set_option maxHeartbeats 40000000 in
set_option maxRecDepth 100000 in
theorem lc_11 {p : Program} {l : Launch} {e : Env} {s : State} {m : MethodId} {below : List Frame} {meth : Method} {c : Code} {g : Gx} {b : Nat} {xs : Nat → Int32} {A : Nat → Prop} {H : Heap} {locs : List Loc} {ls : Array Slot} {nc ns : Nat} {q1 : Nat} {q2 : Nat} {q3 : Nat} {q52 : Nat} {q73 : Nat} {q13 : Nat} {q67 : Nat} {q76 : Nat} {q11 : Nat} {q86 : Nat} {q84 : Nat} {q12 : Nat} {q85 : Nat} {q157 : Nat} {q40 : Nat} {q41 : Nat} {q42 : Nat} {q43 : Nat} {q158 : Nat} {q44 : Nat} {q75 : Nat} {q45 : Nat} {q74 : Nat} {q46 : Nat} {q49 : Nat} {q188 : Nat} {fs203 : List Value} {q189 : Nat} {q195 : Nat} {q200 : Nat} {q196 : Nat} {q197 : Nat} {q201 : Nat} {q198 : Nat} {q199 : Nat} {q190 : Nat} {q191 : Nat} {q192 : Nat} {q193 : Nat} {q194 : Nat} {q202 : Nat} {f215 : Nat → Int32} (hnc : nc ≤ 1000) (hns : ns ≤ 100000) (hcx : Cx p s m #[Value.ref b] meth c cL_law 4 ret RL meth.name g) (hX : va_X b 6 xs s s.heap) (hbl : b < s.heap.size) (hbA : ¬ A b) (hA : ∀ q : Nat, s.heap.size ≤ q → A q) (hAl : ∀ q : Nat, A q → s.heap.size ≤ q) (hf218 : fs203.length = 69) (hf219 : fs203[0]? = some (Value.ref q189)) (hf220 : fs203[11]? = some (Value.ref q195)) (hf221 : fs203[12]? = some (Value.ref q200)) (hf222 : fs203[13]? = some (Value.ref q196)) (hf223 : fs203[14]? = some (Value.ref q197)) (hf224 : fs203[15]? = some (Value.ref q201)) (hf225 : fs203[16]? = some (Value.ref q198)) (hf226 : fs203[46]? = some (Value.ref q199)) (hf227 : fs203[48]? = some (Value.ref q190)) (hf228 : fs203[51]? = some (Value.ref q191)) (hf229 : fs203[53]? = some (Value.ref q192)) (hf230 : fs203[56]? = some (Value.ref q193)) (hf231 : fs203[67]? = some (Value.ref q194)) (hf232 : fs203[68]? = some (Value.ref q202)) (hf233 : fs203[2]? = some (Value.int 0)) (hf234 : fs203[4]? = some (Value.int 0)) (hf235 : fs203[5]? = some (Value.int (-1))) (hf236 : fs203[34]? = some (Value.int 0)) (hf237 : fs203[49]? = some (Value.int 0)) (hf238 : fs203[50]? = some (Value.int 0)) (hf239 : fs203[54]? = some (Value.int 0)) (hf240 : fs203[65]? = some (Value.int 0)) (hf241 : fs203[66]? = some (Value.int 0)) (hf250 : f215 0 = 0) (hP : va_P g.1 vwCl [(q1, .inr (10, [.ref q2, .int 0, .ref q3, .ref q52, .ref q73, .ref q13, .ref q67, .ref q76, .ref q11, .ref q86, .ref q84, .ref q12, .ref q85, .int 0])), (q73, .inr (9, [.int 0, .int 0, .int 0, .int 0, .int 0, .ref q157, .ref q40, .ref q41, .ref q42, .ref q43, .ref q158, .ref q44, .ref q75, .ref q45, .ref q74, .ref q46, .ref q49])), (q188, .inr (11, fs203)), (q200, .inl (gI g, 2, .inl f215))] H) (hD : va_D A [(q1, .inr (10, [.ref q2, .int 0, .ref q3, .ref q52, .ref q73, .ref q13, .ref q67, .ref q76, .ref q11, .ref q86, .ref q84, .ref q12, .ref q85, .int 0])), (q73, .inr (9, [.int 0, .int 0, .int 0, .int 0, .int 0, .ref q157, .ref q40, .ref q41, .ref q42, .ref q43, .ref q158, .ref q44, .ref q75, .ref q45, .ref q74, .ref q46, .ref q49])), (q188, .inr (11, fs203)), (q200, .inl (gI g, 2, .inl f215))]) (hS : va_S A s.heap H locs) (hl : lv_has ls 4 [(3, .int 0), (2, .ref q188), (1, .ref q1), (0, .ref b)]) : W p l e room_1 s m #[Value.ref b] below meth c H locs nc ns (lw_Z below #[Value.ref b] s) (F0 m 539 ls []) := by
  obtain ⟨hx, hb, hml, hr, hlocks, hown, hts, hE, hnm⟩ := id hcx
  have hK := hE.1
  refine lv_aload_n hx hb dL_law_539 rfl (lv_at hl 2 rfl) ?_
  refine lv_aload_n hx hb dL_law_540 rfl (lv_at hl 3 rfl) ?_
  refine lv_iload_n hx hb dL_law_541 rfl (lv_at hl 0 rfl) ?_
  refine lv_iconst (v := 1) hx hb dL_law_542 (by decide) ?_
  refine lv_iadd hx hb dL_law_543 ?_
  refine lv_tope (y := 1) (by decide) ?_
  refine sc_ld hx hb hX hbl hbA hS 1 rfl (by decide) (by decide) dL_law_544 ?_
  refine lv_aload_n hx hb dL_law_545 rfl (lv_at hl 3 rfl) ?_
  refine lv_iload_n hx hb dL_law_546 rfl (lv_at hl 0 rfl) ?_
  refine lv_iconst (v := 2) hx hb dL_law_547 (by decide) ?_
  refine lv_iadd hx hb dL_law_548 ?_
  refine lv_tope (y := 2) (by decide) ?_
  refine sc_ld hx hb hX hbl hbA hS 2 rfl (by decide) (by decide) dL_law_549 ?_
  refine kI (wc := [(q1, .inr (10, [.ref q2, .int 0, .ref q3, .ref q52, .ref q73, .ref q13, .ref q67, .ref q76, .ref q11, .ref q86, .ref q84, .ref q12, .ref q85, .int 0])), (q73, .inr (9, [.int 0, .int 0, .int 0, .int 0, .int 0, .ref q157, .ref q40, .ref q41, .ref q42, .ref q43, .ref q158, .ref q44, .ref q75, .ref q45, .ref q74, .ref q46, .ref q49]))]) (wr := [(q188, .inr (11, fs203)), (q200, .inl (gI g, 2, .inl f215))]) (rV (As := [.int (xs 1), .int (xs 2)]) (rest := []) (meth2 := "") hcx (c_X10_swap H.size) (gdV q43_7 q43_8 q43_9 q1_2 q43_10) dvX10_swap ⟨Nat.le_of_ble_eq_true rfl, Nat.le_of_ble_eq_true rfl⟩ (hP.sub [0, 1] rfl) (hD.sub [0, 1] (by decide) rfl) (va_recv hK hP (ci := 10) (q0 := 0) rfl rfl) rfl hl.1 rfl (Nat.le_of_ble_eq_true rfl) dL_law_550 ⟨by show _ + 0 ≤ 600000; omega, by show _ + 0 ≤ 7302250; omega⟩) hP hD hS hA [0, 1] [2, 3] rfl rfl (by decide) (by decide) (fun r W' H locs hw hP hD hS => ?_)
  obtain ⟨rfl, rfl⟩ := hw
  have hP : va_P g.1 vwCl [(q188, .inr (11, fs203)), (q200, .inl (gI g, 2, .inl f215))] H := hP
  have hD : va_D A [(q188, .inr (11, fs203)), (q200, .inl (gI g, 2, .inl f215))] := hD
  refine lv_aload_n hx hb dL_law_553 rfl (lv_at hl 1 rfl) ?_
  refine lv_aload_n hx hb dL_law_554 rfl (lv_at hl 3 rfl) ?_
  refine lv_iload_n hx hb dL_law_555 rfl (lv_at hl 0 rfl) ?_
  refine lv_iconst (v := 1) hx hb dL_law_556 (by decide) ?_
  refine lv_iadd hx hb dL_law_557 ?_
  refine lv_tope (y := 1) (by decide) ?_
  refine sc_ld hx hb hX hbl hbA hS 1 rfl (by decide) (by decide) dL_law_558 ?_
  refine lv_aload_n hx hb dL_law_559 rfl (lv_at hl 3 rfl) ?_
  refine lv_iload_n hx hb dL_law_560 rfl (lv_at hl 0 rfl) ?_
  refine lv_iconst (v := 2) hx hb dL_law_561 (by decide) ?_
  refine lv_iadd hx hb dL_law_562 ?_
  refine lv_tope (y := 2) (by decide) ?_
  refine sc_ld hx hb hX hbl hbA hS 2 rfl (by decide) (by decide) dL_law_563 ?_
  refine kI (wc := [(q188, .inr (11, fs203)), (q200, .inl (gI g, 2, .inl f215))]) (wr := []) (rV (As := [.int (xs 1), .int (xs 2)]) (rest := [.int 0]) (meth2 := "") hcx (c_X11_swap (hf218) (hf221) (hf236) (hf250) H.size) (gdV q43_11 q43_12 q43_13 q1_5 q43_14) dvX11_swap ⟨Nat.le_of_ble_eq_true rfl, Nat.le_of_ble_eq_true rfl⟩ (hP.sub [0, 1] rfl) (hD.sub [0, 1] (by decide) rfl) (va_recv hK hP (ci := 11) (q0 := 0) rfl rfl) rfl hl.1 rfl (Nat.le_of_ble_eq_true rfl) dL_law_564 ⟨by show _ + 0 ≤ 600000; omega, by show _ + 0 ≤ 7302250; omega⟩) hP hD hS hA [0, 1] [] rfl rfl (by decide) (by decide) (fun r W' H locs hw hP hD hS => ?_)
  obtain ⟨rfl, rfl⟩ := hw
  have hP : va_P g.1 vwCl [] H := hP
  have hD : va_D A [] := hD
  refine lv_icmp_eq (tgt := 1278) hx hb dL_law_567 (by decide) (fun _ => ?_) (fun c1001 => absurd (by decide) c1001)
  refine lv_iinc (v := 6) (lv' := [(3, .int 6), (2, .ref q188), (1, .ref q1), (0, .ref b)]) hx hb dL_law_1278 hl (k := 0) rfl (by decide) (by decide) rfl (fun ls hl => ?_)
  refine lv_goto (tgt := 18) hx hb dL_law_1281 (by decide) ?_
  refine lv_iload_n hx hb dL_law_18 rfl (lv_at hl 0 rfl) ?_
  refine lv_aload_n hx hb dL_law_19 rfl (lv_at hl 3 rfl) ?_
  refine va_slen hx hb hX hbl hbA hS dL_law_20 ?_
  refine lv_tope (y := 6) (by decide) ?_
  refine lv_bipush (v := 6) hx hb dL_law_21 (by decide) ?_
  refine lv_isub hx hb dL_law_23 ?_
  refine lv_tope (y := 0) (by decide) ?_
  refine lv_icmp_gt (tgt := 1284) hx hb dL_law_24 (by decide) (fun _ => ?_) (fun c1002 => absurd (by decide) c1002)
  refine lv_iconst (v := 1) hx hb dL_law_1284 (by decide) ?_
  refine va_forget (fun q hq => hAl _ (hS.2.2 q hq)) ?_
  refine W.widen (k := 600000) (n := 7302250) (by omega) (by omega) ?_
  exact lw_ret hx hb hr hlocks dL_law_1285

set_option maxHeartbeats 40000000 in
set_option maxRecDepth 100000 in
theorem lc_12 {p : Program} {l : Launch} {e : Env} {s : State} {m : MethodId} {below : List Frame} {meth : Method} {c : Code} {g : Gx} {b : Nat} {xs : Nat → Int32} {A : Nat → Prop} {H : Heap} {locs : List Loc} {ls : Array Slot} {nc ns : Nat} {q1 : Nat} {q2 : Nat} {q3 : Nat} {q52 : Nat} {q73 : Nat} {q13 : Nat} {q67 : Nat} {q76 : Nat} {q11 : Nat} {q86 : Nat} {q84 : Nat} {q12 : Nat} {q85 : Nat} {q157 : Nat} {q40 : Nat} {q41 : Nat} {q42 : Nat} {q43 : Nat} {q158 : Nat} {q44 : Nat} {q75 : Nat} {q45 : Nat} {q74 : Nat} {q46 : Nat} {q49 : Nat} {q188 : Nat} {fs203 : List Value} {q189 : Nat} {q195 : Nat} {q200 : Nat} {q196 : Nat} {q197 : Nat} {q201 : Nat} {q198 : Nat} {q199 : Nat} {q190 : Nat} {q191 : Nat} {q192 : Nat} {q193 : Nat} {q194 : Nat} {q202 : Nat} {f215 : Nat → Int32} (hnc : nc ≤ 1000) (hns : ns ≤ 100000) (hcx : Cx p s m #[Value.ref b] meth c cL_law 4 ret RL meth.name g) (hX : va_X b 6 xs s s.heap) (hbl : b < s.heap.size) (hbA : ¬ A b) (hA : ∀ q : Nat, s.heap.size ≤ q → A q) (hAl : ∀ q : Nat, A q → s.heap.size ≤ q) (hf218 : fs203.length = 69) (hf219 : fs203[0]? = some (Value.ref q189)) (hf220 : fs203[11]? = some (Value.ref q195)) (hf221 : fs203[12]? = some (Value.ref q200)) (hf222 : fs203[13]? = some (Value.ref q196)) (hf223 : fs203[14]? = some (Value.ref q197)) (hf224 : fs203[15]? = some (Value.ref q201)) (hf225 : fs203[16]? = some (Value.ref q198)) (hf226 : fs203[46]? = some (Value.ref q199)) (hf227 : fs203[48]? = some (Value.ref q190)) (hf228 : fs203[51]? = some (Value.ref q191)) (hf229 : fs203[53]? = some (Value.ref q192)) (hf230 : fs203[56]? = some (Value.ref q193)) (hf231 : fs203[67]? = some (Value.ref q194)) (hf232 : fs203[68]? = some (Value.ref q202)) (hf233 : fs203[2]? = some (Value.int 0)) (hf234 : fs203[4]? = some (Value.int 0)) (hf235 : fs203[5]? = some (Value.int (-1))) (hf236 : fs203[34]? = some (Value.int 0)) (hf237 : fs203[49]? = some (Value.int 0)) (hf238 : fs203[50]? = some (Value.int 0)) (hf239 : fs203[54]? = some (Value.int 0)) (hf240 : fs203[65]? = some (Value.int 0)) (hf241 : fs203[66]? = some (Value.int 0)) (hf250 : f215 0 = 0) (hP : va_P g.1 vwCl [(q1, .inr (10, [.ref q2, .int 0, .ref q3, .ref q52, .ref q73, .ref q13, .ref q67, .ref q76, .ref q11, .ref q86, .ref q84, .ref q12, .ref q85, .int 0])), (q73, .inr (9, [.int 0, .int 0, .int 0, .int 0, .int 0, .ref q157, .ref q40, .ref q41, .ref q42, .ref q43, .ref q158, .ref q44, .ref q75, .ref q45, .ref q74, .ref q46, .ref q49])), (q188, .inr (11, fs203)), (q200, .inl (gI g, 2, .inl f215))] H) (hD : va_D A [(q1, .inr (10, [.ref q2, .int 0, .ref q3, .ref q52, .ref q73, .ref q13, .ref q67, .ref q76, .ref q11, .ref q86, .ref q84, .ref q12, .ref q85, .int 0])), (q73, .inr (9, [.int 0, .int 0, .int 0, .int 0, .int 0, .ref q157, .ref q40, .ref q41, .ref q42, .ref q43, .ref q158, .ref q44, .ref q75, .ref q45, .ref q74, .ref q46, .ref q49])), (q188, .inr (11, fs203)), (q200, .inl (gI g, 2, .inl f215))]) (hS : va_S A s.heap H locs) (hl : lv_has ls 4 [(3, .int 0), (2, .ref q188), (1, .ref q1), (0, .ref b)]) : W p l e room_1 s m #[Value.ref b] below meth c H locs nc ns (lw_Z below #[Value.ref b] s) (F0 m 572 ls []) := by
  obtain ⟨hx, hb, hml, hr, hlocks, hown, hts, hE, hnm⟩ := id hcx
  have hK := hE.1
  refine lv_aload_n hx hb dL_law_572 rfl (lv_at hl 2 rfl) ?_
  refine lv_aload_n hx hb dL_law_573 rfl (lv_at hl 3 rfl) ?_
  refine lv_iload_n hx hb dL_law_574 rfl (lv_at hl 0 rfl) ?_
  refine lv_iconst (v := 1) hx hb dL_law_575 (by decide) ?_
  refine lv_iadd hx hb dL_law_576 ?_
  refine lv_tope (y := 1) (by decide) ?_
  refine sc_ld hx hb hX hbl hbA hS 1 rfl (by decide) (by decide) dL_law_577 ?_
  refine lv_aload_n hx hb dL_law_578 rfl (lv_at hl 3 rfl) ?_
  refine lv_iload_n hx hb dL_law_579 rfl (lv_at hl 0 rfl) ?_
  refine lv_iconst (v := 2) hx hb dL_law_580 (by decide) ?_
  refine lv_iadd hx hb dL_law_581 ?_
  refine lv_tope (y := 2) (by decide) ?_
  refine sc_ld hx hb hX hbl hbA hS 2 rfl (by decide) (by decide) dL_law_582 ?_
  refine kI (wc := [(q1, .inr (10, [.ref q2, .int 0, .ref q3, .ref q52, .ref q73, .ref q13, .ref q67, .ref q76, .ref q11, .ref q86, .ref q84, .ref q12, .ref q85, .int 0])), (q73, .inr (9, [.int 0, .int 0, .int 0, .int 0, .int 0, .ref q157, .ref q40, .ref q41, .ref q42, .ref q43, .ref q158, .ref q44, .ref q75, .ref q45, .ref q74, .ref q46, .ref q49]))]) (wr := [(q188, .inr (11, fs203)), (q200, .inl (gI g, 2, .inl f215))]) (rV (As := [.int (xs 1), .int (xs 2)]) (rest := []) (meth2 := "") hcx (c_X10_under H.size) (gdV q43_15 q43_16 q43_17 q1_2 q43_18) dvX10_under ⟨Nat.le_of_ble_eq_true rfl, Nat.le_of_ble_eq_true rfl⟩ (hP.sub [0, 1] rfl) (hD.sub [0, 1] (by decide) rfl) (va_recv hK hP (ci := 10) (q0 := 0) rfl rfl) rfl hl.1 rfl (Nat.le_of_ble_eq_true rfl) dL_law_583 ⟨by show _ + 0 ≤ 600000; omega, by show _ + 0 ≤ 7302250; omega⟩) hP hD hS hA [0, 1] [2, 3] rfl rfl (by decide) (by decide) (fun r W' H locs hw hP hD hS => ?_)
  obtain ⟨rfl, rfl⟩ := hw
  have hP : va_P g.1 vwCl [(q188, .inr (11, fs203)), (q200, .inl (gI g, 2, .inl f215))] H := hP
  have hD : va_D A [(q188, .inr (11, fs203)), (q200, .inl (gI g, 2, .inl f215))] := hD
  refine lv_aload_n hx hb dL_law_586 rfl (lv_at hl 1 rfl) ?_
  refine lv_aload_n hx hb dL_law_587 rfl (lv_at hl 3 rfl) ?_
  refine lv_iload_n hx hb dL_law_588 rfl (lv_at hl 0 rfl) ?_
  refine lv_iconst (v := 1) hx hb dL_law_589 (by decide) ?_
  refine lv_iadd hx hb dL_law_590 ?_
  refine lv_tope (y := 1) (by decide) ?_
  refine sc_ld hx hb hX hbl hbA hS 1 rfl (by decide) (by decide) dL_law_591 ?_
  refine lv_aload_n hx hb dL_law_592 rfl (lv_at hl 3 rfl) ?_
  refine lv_iload_n hx hb dL_law_593 rfl (lv_at hl 0 rfl) ?_
  refine lv_iconst (v := 2) hx hb dL_law_594 (by decide) ?_
  refine lv_iadd hx hb dL_law_595 ?_
  refine lv_tope (y := 2) (by decide) ?_
  refine sc_ld hx hb hX hbl hbA hS 2 rfl (by decide) (by decide) dL_law_596 ?_
  refine kI (wc := [(q188, .inr (11, fs203)), (q200, .inl (gI g, 2, .inl f215))]) (wr := []) (rV (As := [.int (xs 1), .int (xs 2)]) (rest := [.int (-1)]) (meth2 := "") hcx (c_X11_under (hf218) (hf221) (hf236) (hf250) H.size) (gdV q44_4 q44_5 q44_6 q1_5 q44_7) dvX11_under ⟨Nat.le_of_ble_eq_true rfl, Nat.le_of_ble_eq_true rfl⟩ (hP.sub [0, 1] rfl) (hD.sub [0, 1] (by decide) rfl) (va_recv hK hP (ci := 11) (q0 := 0) rfl rfl) rfl hl.1 rfl (Nat.le_of_ble_eq_true rfl) dL_law_597 ⟨by show _ + 0 ≤ 600000; omega, by show _ + 0 ≤ 7302250; omega⟩) hP hD hS hA [0, 1] [] rfl rfl (by decide) (by decide) (fun r W' H locs hw hP hD hS => ?_)
  obtain ⟨rfl, rfl⟩ := hw
  have hP : va_P g.1 vwCl [] H := hP
  have hD : va_D A [] := hD
  refine lv_icmp_eq (tgt := 1278) hx hb dL_law_600 (by decide) (fun _ => ?_) (fun c1001 => absurd (by decide) c1001)
  refine lv_iinc (v := 6) (lv' := [(3, .int 6), (2, .ref q188), (1, .ref q1), (0, .ref b)]) hx hb dL_law_1278 hl (k := 0) rfl (by decide) (by decide) rfl (fun ls hl => ?_)
  refine lv_goto (tgt := 18) hx hb dL_law_1281 (by decide) ?_
  refine lv_iload_n hx hb dL_law_18 rfl (lv_at hl 0 rfl) ?_
  refine lv_aload_n hx hb dL_law_19 rfl (lv_at hl 3 rfl) ?_
  refine va_slen hx hb hX hbl hbA hS dL_law_20 ?_
  refine lv_tope (y := 6) (by decide) ?_
  refine lv_bipush (v := 6) hx hb dL_law_21 (by decide) ?_
  refine lv_isub hx hb dL_law_23 ?_
  refine lv_tope (y := 0) (by decide) ?_
  refine lv_icmp_gt (tgt := 1284) hx hb dL_law_24 (by decide) (fun _ => ?_) (fun c1002 => absurd (by decide) c1002)
  refine lv_iconst (v := 1) hx hb dL_law_1284 (by decide) ?_
  refine va_forget (fun q hq => hAl _ (hS.2.2 q hq)) ?_
  refine W.widen (k := 600000) (n := 7302250) (by omega) (by omega) ?_
  exact lw_ret hx hb hr hlocks dL_law_1285

set_option maxHeartbeats 40000000 in
set_option maxRecDepth 100000 in
theorem lc_13 {p : Program} {l : Launch} {e : Env} {s : State} {m : MethodId} {below : List Frame} {meth : Method} {c : Code} {g : Gx} {b : Nat} {xs : Nat → Int32} {A : Nat → Prop} {H : Heap} {locs : List Loc} {ls : Array Slot} {nc ns : Nat} {q1 : Nat} {q2 : Nat} {q3 : Nat} {q52 : Nat} {q73 : Nat} {q13 : Nat} {q67 : Nat} {q76 : Nat} {q11 : Nat} {q86 : Nat} {q84 : Nat} {q12 : Nat} {q85 : Nat} {q157 : Nat} {q40 : Nat} {q41 : Nat} {q42 : Nat} {q43 : Nat} {q158 : Nat} {q44 : Nat} {q75 : Nat} {q45 : Nat} {q74 : Nat} {q46 : Nat} {q49 : Nat} {q188 : Nat} {fs203 : List Value} {q189 : Nat} {q195 : Nat} {q200 : Nat} {q196 : Nat} {q197 : Nat} {q201 : Nat} {q198 : Nat} {q199 : Nat} {q190 : Nat} {q191 : Nat} {q192 : Nat} {q193 : Nat} {q194 : Nat} {q202 : Nat} {f215 : Nat → Int32} (hnc : nc ≤ 1000) (hns : ns ≤ 100000) (hcx : Cx p s m #[Value.ref b] meth c cL_law 4 ret RL meth.name g) (hX : va_X b 6 xs s s.heap) (hbl : b < s.heap.size) (hbA : ¬ A b) (hA : ∀ q : Nat, s.heap.size ≤ q → A q) (hAl : ∀ q : Nat, A q → s.heap.size ≤ q) (hf218 : fs203.length = 69) (hf219 : fs203[0]? = some (Value.ref q189)) (hf220 : fs203[11]? = some (Value.ref q195)) (hf221 : fs203[12]? = some (Value.ref q200)) (hf222 : fs203[13]? = some (Value.ref q196)) (hf223 : fs203[14]? = some (Value.ref q197)) (hf224 : fs203[15]? = some (Value.ref q201)) (hf225 : fs203[16]? = some (Value.ref q198)) (hf226 : fs203[46]? = some (Value.ref q199)) (hf227 : fs203[48]? = some (Value.ref q190)) (hf228 : fs203[51]? = some (Value.ref q191)) (hf229 : fs203[53]? = some (Value.ref q192)) (hf230 : fs203[56]? = some (Value.ref q193)) (hf231 : fs203[67]? = some (Value.ref q194)) (hf232 : fs203[68]? = some (Value.ref q202)) (hf233 : fs203[2]? = some (Value.int 0)) (hf234 : fs203[4]? = some (Value.int 0)) (hf235 : fs203[5]? = some (Value.int (-1))) (hf236 : fs203[34]? = some (Value.int 0)) (hf237 : fs203[49]? = some (Value.int 0)) (hf238 : fs203[50]? = some (Value.int 0)) (hf239 : fs203[54]? = some (Value.int 0)) (hf240 : fs203[65]? = some (Value.int 0)) (hf241 : fs203[66]? = some (Value.int 0)) (hf250 : f215 0 = 0) (hP : va_P g.1 vwCl [(q1, .inr (10, [.ref q2, .int 0, .ref q3, .ref q52, .ref q73, .ref q13, .ref q67, .ref q76, .ref q11, .ref q86, .ref q84, .ref q12, .ref q85, .int 0])), (q73, .inr (9, [.int 0, .int 0, .int 0, .int 0, .int 0, .ref q157, .ref q40, .ref q41, .ref q42, .ref q43, .ref q158, .ref q44, .ref q75, .ref q45, .ref q74, .ref q46, .ref q49])), (q188, .inr (11, fs203)), (q200, .inl (gI g, 2, .inl f215))] H) (hD : va_D A [(q1, .inr (10, [.ref q2, .int 0, .ref q3, .ref q52, .ref q73, .ref q13, .ref q67, .ref q76, .ref q11, .ref q86, .ref q84, .ref q12, .ref q85, .int 0])), (q73, .inr (9, [.int 0, .int 0, .int 0, .int 0, .int 0, .ref q157, .ref q40, .ref q41, .ref q42, .ref q43, .ref q158, .ref q44, .ref q75, .ref q45, .ref q74, .ref q46, .ref q49])), (q188, .inr (11, fs203)), (q200, .inl (gI g, 2, .inl f215))]) (hS : va_S A s.heap H locs) (hl : lv_has ls 4 [(3, .int 0), (2, .ref q188), (1, .ref q1), (0, .ref b)]) : W p l e room_1 s m #[Value.ref b] below meth c H locs nc ns (lw_Z below #[Value.ref b] s) (F0 m 605 ls []) := by
  obtain ⟨hx, hb, hml, hr, hlocks, hown, hts, hE, hnm⟩ := id hcx
  have hK := hE.1
  refine lv_aload_n hx hb dL_law_605 rfl (lv_at hl 2 rfl) ?_
  refine lv_aload_n hx hb dL_law_606 rfl (lv_at hl 3 rfl) ?_
  refine lv_iload_n hx hb dL_law_607 rfl (lv_at hl 0 rfl) ?_
  refine lv_iconst (v := 1) hx hb dL_law_608 (by decide) ?_
  refine lv_iadd hx hb dL_law_609 ?_
  refine lv_tope (y := 1) (by decide) ?_
  refine sc_ld hx hb hX hbl hbA hS 1 rfl (by decide) (by decide) dL_law_610 ?_
  refine kI (wc := [(q1, .inr (10, [.ref q2, .int 0, .ref q3, .ref q52, .ref q73, .ref q13, .ref q67, .ref q76, .ref q11, .ref q86, .ref q84, .ref q12, .ref q85, .int 0])), (q73, .inr (9, [.int 0, .int 0, .int 0, .int 0, .int 0, .ref q157, .ref q40, .ref q41, .ref q42, .ref q43, .ref q158, .ref q44, .ref q75, .ref q45, .ref q74, .ref q46, .ref q49]))]) (wr := [(q188, .inr (11, fs203)), (q200, .inl (gI g, 2, .inl f215))]) (rV (As := [.int (xs 1)]) (rest := []) (meth2 := "") hcx (c_X10_part H.size) (gdV q44_12 q44_13 q44_14 q1_2 q44_15) dvX10_part ⟨Nat.le_of_ble_eq_true rfl, Nat.le_of_ble_eq_true rfl⟩ (hP.sub [0, 1] rfl) (hD.sub [0, 1] (by decide) rfl) (va_recv hK hP (ci := 10) (q0 := 0) rfl rfl) rfl hl.1 rfl (Nat.le_of_ble_eq_true rfl) dL_law_611 ⟨by show _ + 0 ≤ 600000; omega, by show _ + 0 ≤ 7302250; omega⟩) hP hD hS hA [0, 1] [2, 3] rfl rfl (by decide) (by decide) (fun r W' H locs hw hP hD hS => ?_)
  obtain ⟨rfl, rfl⟩ := hw
  have hP : va_P g.1 vwCl [(q188, .inr (11, fs203)), (q200, .inl (gI g, 2, .inl f215))] H := hP
  have hD : va_D A [(q188, .inr (11, fs203)), (q200, .inl (gI g, 2, .inl f215))] := hD
  refine lv_aload_n hx hb dL_law_614 rfl (lv_at hl 1 rfl) ?_
  refine lv_aload_n hx hb dL_law_615 rfl (lv_at hl 3 rfl) ?_
  refine lv_iload_n hx hb dL_law_616 rfl (lv_at hl 0 rfl) ?_
  refine lv_iconst (v := 1) hx hb dL_law_617 (by decide) ?_
  refine lv_iadd hx hb dL_law_618 ?_
  refine lv_tope (y := 1) (by decide) ?_
  refine sc_ld hx hb hX hbl hbA hS 1 rfl (by decide) (by decide) dL_law_619 ?_
  refine kI (wc := [(q188, .inr (11, fs203)), (q200, .inl (gI g, 2, .inl f215))]) (wr := []) (rV (As := [.int (xs 1)]) (rest := [.int (-1)]) (meth2 := "") hcx (c_X11_part (hf218) (hf221) (hf236) (hf250) H.size) (gdV q44_20 q44_21 q44_22 q1_5 q44_23) dvX11_part ⟨Nat.le_of_ble_eq_true rfl, Nat.le_of_ble_eq_true rfl⟩ (hP.sub [0, 1] rfl) (hD.sub [0, 1] (by decide) rfl) (va_recv hK hP (ci := 11) (q0 := 0) rfl rfl) rfl hl.1 rfl (Nat.le_of_ble_eq_true rfl) dL_law_620 ⟨by show _ + 0 ≤ 600000; omega, by show _ + 0 ≤ 7302250; omega⟩) hP hD hS hA [0, 1] [] rfl rfl (by decide) (by decide) (fun r W' H locs hw hP hD hS => ?_)
  obtain ⟨rfl, rfl⟩ := hw
  have hP : va_P g.1 vwCl [] H := hP
  have hD : va_D A [] := hD
  refine lv_icmp_eq (tgt := 1278) hx hb dL_law_623 (by decide) (fun _ => ?_) (fun c1001 => absurd (by decide) c1001)
  refine lv_iinc (v := 6) (lv' := [(3, .int 6), (2, .ref q188), (1, .ref q1), (0, .ref b)]) hx hb dL_law_1278 hl (k := 0) rfl (by decide) (by decide) rfl (fun ls hl => ?_)
  refine lv_goto (tgt := 18) hx hb dL_law_1281 (by decide) ?_
  refine lv_iload_n hx hb dL_law_18 rfl (lv_at hl 0 rfl) ?_
  refine lv_aload_n hx hb dL_law_19 rfl (lv_at hl 3 rfl) ?_
  refine va_slen hx hb hX hbl hbA hS dL_law_20 ?_
  refine lv_tope (y := 6) (by decide) ?_
  refine lv_bipush (v := 6) hx hb dL_law_21 (by decide) ?_
  refine lv_isub hx hb dL_law_23 ?_
  refine lv_tope (y := 0) (by decide) ?_
  refine lv_icmp_gt (tgt := 1284) hx hb dL_law_24 (by decide) (fun _ => ?_) (fun c1002 => absurd (by decide) c1002)
  refine lv_iconst (v := 1) hx hb dL_law_1284 (by decide) ?_
  refine va_forget (fun q hq => hAl _ (hS.2.2 q hq)) ?_
  refine W.widen (k := 600000) (n := 7302250) (by omega) (by omega) ?_
  exact lw_ret hx hb hr hlocks dL_law_1285

set_option maxHeartbeats 40000000 in
set_option maxRecDepth 100000 in
theorem lc_14 {p : Program} {l : Launch} {e : Env} {s : State} {m : MethodId} {below : List Frame} {meth : Method} {c : Code} {g : Gx} {b : Nat} {xs : Nat → Int32} {A : Nat → Prop} {H : Heap} {locs : List Loc} {ls : Array Slot} {nc ns : Nat} {q1 : Nat} {q2 : Nat} {q3 : Nat} {q52 : Nat} {q73 : Nat} {q13 : Nat} {q67 : Nat} {q76 : Nat} {q11 : Nat} {q86 : Nat} {q84 : Nat} {q12 : Nat} {q85 : Nat} {q5 : Nat} {q6 : Nat} {q7 : Nat} {q8 : Nat} {q9 : Nat} {q10 : Nat} {f90 : Nat → Int32} {f91 : Nat → Int32} {f92 : Nat → Int32} {f93 : Nat → Int32} {f94 : Nat → Int32} {q68 : Nat} {q69 : Nat} {q70 : Nat} {q71 : Nat} {q72 : Nat} {x151 : Int32} {f152 : Nat → Int32} {f153 : Nat → Int32} {f154 : Nat → Int32} {f155 : Nat → Int32} {f156 : Nat → Int32} {q157 : Nat} {q40 : Nat} {q41 : Nat} {q42 : Nat} {q43 : Nat} {q158 : Nat} {q44 : Nat} {q75 : Nat} {q45 : Nat} {q74 : Nat} {q46 : Nat} {q49 : Nat} {q77 : Nat} {f161 : Nat → Option Nat} {q78 : Nat} {q188 : Nat} {fs203 : List Value} {q189 : Nat} {q195 : Nat} {q200 : Nat} {q196 : Nat} {q197 : Nat} {q201 : Nat} {q198 : Nat} {q199 : Nat} {q190 : Nat} {q191 : Nat} {q192 : Nat} {q193 : Nat} {q194 : Nat} {q202 : Nat} {f205 : Nat → Int32} {f214 : Nat → Int32} {f215 : Nat → Int32} (hnc : nc ≤ 1000) (hns : ns ≤ 100000) (hcx : Cx p s m #[Value.ref b] meth c cL_law 4 ret RL meth.name g) (hX : va_X b 6 xs s s.heap) (hbl : b < s.heap.size) (hbA : ¬ A b) (hA : ∀ q : Nat, s.heap.size ≤ q → A q) (hAl : ∀ q : Nat, A q → s.heap.size ≤ q) (hf183 : f161 0 = some q78) (hf184 : f161 1 = some q5) (hf218 : fs203.length = 69) (hf219 : fs203[0]? = some (Value.ref q189)) (hf220 : fs203[11]? = some (Value.ref q195)) (hf221 : fs203[12]? = some (Value.ref q200)) (hf222 : fs203[13]? = some (Value.ref q196)) (hf223 : fs203[14]? = some (Value.ref q197)) (hf224 : fs203[15]? = some (Value.ref q201)) (hf225 : fs203[16]? = some (Value.ref q198)) (hf226 : fs203[46]? = some (Value.ref q199)) (hf227 : fs203[48]? = some (Value.ref q190)) (hf228 : fs203[51]? = some (Value.ref q191)) (hf229 : fs203[53]? = some (Value.ref q192)) (hf230 : fs203[56]? = some (Value.ref q193)) (hf231 : fs203[67]? = some (Value.ref q194)) (hf232 : fs203[68]? = some (Value.ref q202)) (hf233 : fs203[2]? = some (Value.int 0)) (hf234 : fs203[4]? = some (Value.int 0)) (hf235 : fs203[5]? = some (Value.int (-1))) (hf236 : fs203[34]? = some (Value.int 0)) (hf237 : fs203[49]? = some (Value.int 0)) (hf238 : fs203[50]? = some (Value.int 0)) (hf239 : fs203[54]? = some (Value.int 0)) (hf240 : fs203[65]? = some (Value.int 0)) (hf241 : fs203[66]? = some (Value.int 0)) (hf246 : f214 20 = 0) (hf247 : f214 21 = 0) (hf248 : f214 22 = 0) (hf249 : f214 23 = 0) (hf250 : f215 0 = 0) (hP : va_P g.1 vwCl [(q1, .inr (10, [.ref q2, .int 0, .ref q3, .ref q52, .ref q73, .ref q13, .ref q67, .ref q76, .ref q11, .ref q86, .ref q84, .ref q12, .ref q85, .int 0])), (q5, .inr (7, [.ref q6, .ref q7, .ref q8, .ref q9, .ref q10, .int 0, .int 0, .int 0, .int 0, .int 0])), (q6, .inl (gI g, 5, .inl f90)), (q7, .inl (gI g, 5, .inl f91)), (q8, .inl (gI g, 5, .inl f92)), (q9, .inl (gI g, 5, .inl f93)), (q10, .inl (gI g, 5, .inl f94)), (q67, .inr (7, [.ref q68, .ref q69, .ref q70, .ref q71, .ref q72, .int 0, .int 0, .int 0, .int 0, .int x151])), (q68, .inl (gI g, 5, .inl f152)), (q69, .inl (gI g, 5, .inl f153)), (q70, .inl (gI g, 5, .inl f154)), (q71, .inl (gI g, 5, .inl f155)), (q72, .inl (gI g, 5, .inl f156)), (q73, .inr (9, [.int 0, .int 0, .int 0, .int 0, .int 0, .ref q157, .ref q40, .ref q41, .ref q42, .ref q43, .ref q158, .ref q44, .ref q75, .ref q45, .ref q74, .ref q46, .ref q49])), (q76, .inr (2, [.ref q77, .int 0, .int 0, .int 0])), (q77, .inl (gO g, 41, .inr (.inr (.inr (.inr f161))))), (q188, .inr (11, fs203)), (q190, .inl (gI g, 984, .inl f205)), (q199, .inl (gI g, 24, .inl f214)), (q200, .inl (gI g, 2, .inl f215))] H) (hD : va_D A [(q1, .inr (10, [.ref q2, .int 0, .ref q3, .ref q52, .ref q73, .ref q13, .ref q67, .ref q76, .ref q11, .ref q86, .ref q84, .ref q12, .ref q85, .int 0])), (q5, .inr (7, [.ref q6, .ref q7, .ref q8, .ref q9, .ref q10, .int 0, .int 0, .int 0, .int 0, .int 0])), (q6, .inl (gI g, 5, .inl f90)), (q7, .inl (gI g, 5, .inl f91)), (q8, .inl (gI g, 5, .inl f92)), (q9, .inl (gI g, 5, .inl f93)), (q10, .inl (gI g, 5, .inl f94)), (q67, .inr (7, [.ref q68, .ref q69, .ref q70, .ref q71, .ref q72, .int 0, .int 0, .int 0, .int 0, .int x151])), (q68, .inl (gI g, 5, .inl f152)), (q69, .inl (gI g, 5, .inl f153)), (q70, .inl (gI g, 5, .inl f154)), (q71, .inl (gI g, 5, .inl f155)), (q72, .inl (gI g, 5, .inl f156)), (q73, .inr (9, [.int 0, .int 0, .int 0, .int 0, .int 0, .ref q157, .ref q40, .ref q41, .ref q42, .ref q43, .ref q158, .ref q44, .ref q75, .ref q45, .ref q74, .ref q46, .ref q49])), (q76, .inr (2, [.ref q77, .int 0, .int 0, .int 0])), (q77, .inl (gO g, 41, .inr (.inr (.inr (.inr f161))))), (q188, .inr (11, fs203)), (q190, .inl (gI g, 984, .inl f205)), (q199, .inl (gI g, 24, .inl f214)), (q200, .inl (gI g, 2, .inl f215))]) (hS : va_S A s.heap H locs) (hl : lv_has ls 4 [(3, .int 0), (2, .ref q188), (1, .ref q1), (0, .ref b)]) : W p l e room_1 s m #[Value.ref b] below meth c H locs nc ns (lw_Z below #[Value.ref b] s) (F0 m 628 ls []) := by
  obtain ⟨hx, hb, hml, hr, hlocks, hown, hts, hE, hnm⟩ := id hcx
  have hK := hE.1
  refine lv_aload_n hx hb dL_law_628 rfl (lv_at hl 2 rfl) ?_
  refine kI (wc := [(q1, .inr (10, [.ref q2, .int 0, .ref q3, .ref q52, .ref q73, .ref q13, .ref q67, .ref q76, .ref q11, .ref q86, .ref q84, .ref q12, .ref q85, .int 0])), (q67, .inr (7, [.ref q68, .ref q69, .ref q70, .ref q71, .ref q72, .int 0, .int 0, .int 0, .int 0, .int x151])), (q68, .inl (gI g, 5, .inl f152)), (q69, .inl (gI g, 5, .inl f153)), (q70, .inl (gI g, 5, .inl f154)), (q71, .inl (gI g, 5, .inl f155)), (q72, .inl (gI g, 5, .inl f156)), (q73, .inr (9, [.int 0, .int 0, .int 0, .int 0, .int 0, .ref q157, .ref q40, .ref q41, .ref q42, .ref q43, .ref q158, .ref q44, .ref q75, .ref q45, .ref q74, .ref q46, .ref q49])), (q76, .inr (2, [.ref q77, .int 0, .int 0, .int 0])), (q77, .inl (gO g, 41, .inr (.inr (.inr (.inr f161))))), (q5, .inr (7, [.ref q6, .ref q7, .ref q8, .ref q9, .ref q10, .int 0, .int 0, .int 0, .int 0, .int 0])), (q6, .inl (gI g, 5, .inl f90)), (q7, .inl (gI g, 5, .inl f91)), (q8, .inl (gI g, 5, .inl f92)), (q9, .inl (gI g, 5, .inl f93)), (q10, .inl (gI g, 5, .inl f94))]) (wr := [(q188, .inr (11, fs203)), (q190, .inl (gI g, 984, .inl f205)), (q199, .inl (gI g, 24, .inl f214)), (q200, .inl (gI g, 2, .inl f215))]) (rV (As := []) (rest := []) (meth2 := "") hcx (c_X10_day (hf184) H.size) (gdV q45_0 q45_1 q45_2 q1_2 q45_3) dvX10_day ⟨Nat.le_of_ble_eq_true rfl, Nat.le_of_ble_eq_true rfl⟩ (hP.sub [0, 7, 8, 9, 10, 11, 12, 13, 14, 15, 1, 2, 3, 4, 5, 6] rfl) (hD.sub [0, 7, 8, 9, 10, 11, 12, 13, 14, 15, 1, 2, 3, 4, 5, 6] (by decide) rfl) (va_recv hK hP (ci := 10) (q0 := 0) rfl rfl) rfl hl.1 rfl (Nat.le_of_ble_eq_true rfl) dL_law_629 ⟨by show _ + 0 ≤ 600000; omega, by show _ + 0 ≤ 7302250; omega⟩) hP hD hS hA [0, 7, 8, 9, 10, 11, 12, 13, 14, 15, 1, 2, 3, 4, 5, 6] [16, 17, 18, 19] rfl rfl (by decide) (by decide) (fun r W' H locs hw hP hD hS => ?_)
  obtain ⟨rfl, rfl⟩ := hw
  have hP : va_P g.1 vwCl [(q188, .inr (11, fs203)), (q190, .inl (gI g, 984, .inl f205)), (q199, .inl (gI g, 24, .inl f214)), (q200, .inl (gI g, 2, .inl f215))] H := hP
  have hD : va_D A [(q188, .inr (11, fs203)), (q190, .inl (gI g, 984, .inl f205)), (q199, .inl (gI g, 24, .inl f214)), (q200, .inl (gI g, 2, .inl f215))] := hD
  refine lv_aload_n hx hb dL_law_632 rfl (lv_at hl 1 rfl) ?_
  refine kI (wc := [(q188, .inr (11, fs203)), (q199, .inl (gI g, 24, .inl f214)), (q190, .inl (gI g, 984, .inl f205)), (q200, .inl (gI g, 2, .inl f215))]) (wr := []) (rV (As := []) (rest := [.int 0]) (meth2 := "") hcx (c_X11_day (hf218) (hf226) (hf227) (hf237) (hf221) (hf236) (hf246) (hf247) (hf248) (hf250) H.size) (gdV q45_8 q45_9 q45_10 q1_5 q45_11) dvX11_day ⟨Nat.le_of_ble_eq_true rfl, Nat.le_of_ble_eq_true rfl⟩ (hP.sub [0, 2, 1, 3] rfl) (hD.sub [0, 2, 1, 3] (by decide) rfl) (va_recv hK hP (ci := 11) (q0 := 0) rfl rfl) rfl hl.1 rfl (Nat.le_of_ble_eq_true rfl) dL_law_633 ⟨by show _ + 0 ≤ 600000; omega, by show _ + 0 ≤ 7302250; omega⟩) hP hD hS hA [0, 2, 1, 3] [] rfl rfl (by decide) (by decide) (fun r W' H locs hw hP hD hS => ?_)
  obtain ⟨rfl, rfl⟩ := hw
  have hP : va_P g.1 vwCl [] H := hP
  have hD : va_D A [] := hD
  refine lv_icmp_eq (tgt := 1278) hx hb dL_law_636 (by decide) (fun _ => ?_) (fun c1001 => absurd (by decide) c1001)
  refine lv_iinc (v := 6) (lv' := [(3, .int 6), (2, .ref q188), (1, .ref q1), (0, .ref b)]) hx hb dL_law_1278 hl (k := 0) rfl (by decide) (by decide) rfl (fun ls hl => ?_)
  refine lv_goto (tgt := 18) hx hb dL_law_1281 (by decide) ?_
  refine lv_iload_n hx hb dL_law_18 rfl (lv_at hl 0 rfl) ?_
  refine lv_aload_n hx hb dL_law_19 rfl (lv_at hl 3 rfl) ?_
  refine va_slen hx hb hX hbl hbA hS dL_law_20 ?_
  refine lv_tope (y := 6) (by decide) ?_
  refine lv_bipush (v := 6) hx hb dL_law_21 (by decide) ?_
  refine lv_isub hx hb dL_law_23 ?_
  refine lv_tope (y := 0) (by decide) ?_
  refine lv_icmp_gt (tgt := 1284) hx hb dL_law_24 (by decide) (fun _ => ?_) (fun c1002 => absurd (by decide) c1002)
  refine lv_iconst (v := 1) hx hb dL_law_1284 (by decide) ?_
  refine va_forget (fun q hq => hAl _ (hS.2.2 q hq)) ?_
  refine W.widen (k := 600000) (n := 7302250) (by omega) (by omega) ?_
  exact lw_ret hx hb hr hlocks dL_law_1285

set_option maxHeartbeats 40000000 in
set_option maxRecDepth 100000 in
theorem lc_15 {p : Program} {l : Launch} {e : Env} {s : State} {m : MethodId} {below : List Frame} {meth : Method} {c : Code} {g : Gx} {b : Nat} {xs : Nat → Int32} {A : Nat → Prop} {H : Heap} {locs : List Loc} {ls : Array Slot} {nc ns : Nat} {q1 : Nat} {q2 : Nat} {q3 : Nat} {q52 : Nat} {q73 : Nat} {q13 : Nat} {q67 : Nat} {q76 : Nat} {q11 : Nat} {q86 : Nat} {q84 : Nat} {q12 : Nat} {q85 : Nat} {q77 : Nat} {q188 : Nat} {fs203 : List Value} {q189 : Nat} {q195 : Nat} {q200 : Nat} {q196 : Nat} {q197 : Nat} {q201 : Nat} {q198 : Nat} {q199 : Nat} {q190 : Nat} {q191 : Nat} {q192 : Nat} {q193 : Nat} {q194 : Nat} {q202 : Nat} (hnc : nc ≤ 1000) (hns : ns ≤ 100000) (hcx : Cx p s m #[Value.ref b] meth c cL_law 4 ret RL meth.name g) (hX : va_X b 6 xs s s.heap) (hbl : b < s.heap.size) (hbA : ¬ A b) (hA : ∀ q : Nat, s.heap.size ≤ q → A q) (hAl : ∀ q : Nat, A q → s.heap.size ≤ q) (hf218 : fs203.length = 69) (hf219 : fs203[0]? = some (Value.ref q189)) (hf220 : fs203[11]? = some (Value.ref q195)) (hf221 : fs203[12]? = some (Value.ref q200)) (hf222 : fs203[13]? = some (Value.ref q196)) (hf223 : fs203[14]? = some (Value.ref q197)) (hf224 : fs203[15]? = some (Value.ref q201)) (hf225 : fs203[16]? = some (Value.ref q198)) (hf226 : fs203[46]? = some (Value.ref q199)) (hf227 : fs203[48]? = some (Value.ref q190)) (hf228 : fs203[51]? = some (Value.ref q191)) (hf229 : fs203[53]? = some (Value.ref q192)) (hf230 : fs203[56]? = some (Value.ref q193)) (hf231 : fs203[67]? = some (Value.ref q194)) (hf232 : fs203[68]? = some (Value.ref q202)) (hf233 : fs203[2]? = some (Value.int 0)) (hf234 : fs203[4]? = some (Value.int 0)) (hf235 : fs203[5]? = some (Value.int (-1))) (hf236 : fs203[34]? = some (Value.int 0)) (hf237 : fs203[49]? = some (Value.int 0)) (hf238 : fs203[50]? = some (Value.int 0)) (hf239 : fs203[54]? = some (Value.int 0)) (hf240 : fs203[65]? = some (Value.int 0)) (hf241 : fs203[66]? = some (Value.int 0)) (hP : va_P g.1 vwCl [(q1, .inr (10, [.ref q2, .int 0, .ref q3, .ref q52, .ref q73, .ref q13, .ref q67, .ref q76, .ref q11, .ref q86, .ref q84, .ref q12, .ref q85, .int 0])), (q76, .inr (2, [.ref q77, .int 0, .int 0, .int 0])), (q188, .inr (11, fs203))] H) (hD : va_D A [(q1, .inr (10, [.ref q2, .int 0, .ref q3, .ref q52, .ref q73, .ref q13, .ref q67, .ref q76, .ref q11, .ref q86, .ref q84, .ref q12, .ref q85, .int 0])), (q76, .inr (2, [.ref q77, .int 0, .int 0, .int 0])), (q188, .inr (11, fs203))]) (hS : va_S A s.heap H locs) (hl : lv_has ls 4 [(3, .int 0), (2, .ref q188), (1, .ref q1), (0, .ref b)]) : W p l e room_1 s m #[Value.ref b] below meth c H locs nc ns (lw_Z below #[Value.ref b] s) (F0 m 641 ls []) := by
  obtain ⟨hx, hb, hml, hr, hlocks, hown, hts, hE, hnm⟩ := id hcx
  have hK := hE.1
  refine lv_aload_n hx hb dL_law_641 rfl (lv_at hl 2 rfl) ?_
  refine kI (wc := [(q1, .inr (10, [.ref q2, .int 0, .ref q3, .ref q52, .ref q73, .ref q13, .ref q67, .ref q76, .ref q11, .ref q86, .ref q84, .ref q12, .ref q85, .int 0])), (q76, .inr (2, [.ref q77, .int 0, .int 0, .int 0]))]) (wr := [(q188, .inr (11, fs203))]) (rV (As := []) (rest := []) (meth2 := "") hcx (c_X10_undo H.size) (gdV q45_12 q45_13 q45_14 q1_2 q45_15) dvX10_undo ⟨Nat.le_of_ble_eq_true rfl, Nat.le_of_ble_eq_true rfl⟩ (hP.sub [0, 1] rfl) (hD.sub [0, 1] (by decide) rfl) (va_recv hK hP (ci := 10) (q0 := 0) rfl rfl) rfl hl.1 rfl (Nat.le_of_ble_eq_true rfl) dL_law_642 ⟨by show _ + 0 ≤ 600000; omega, by show _ + 0 ≤ 7302250; omega⟩) hP hD hS hA [0, 1] [2] rfl rfl (by decide) (by decide) (fun r W' H locs hw hP hD hS => ?_)
  obtain ⟨rfl, rfl⟩ := hw
  have hP : va_P g.1 vwCl [(q188, .inr (11, fs203))] H := hP
  have hD : va_D A [(q188, .inr (11, fs203))] := hD
  refine lv_aload_n hx hb dL_law_645 rfl (lv_at hl 1 rfl) ?_
  refine kI (wc := [(q188, .inr (11, fs203))]) (wr := []) (rV (As := []) (rest := [.int 0]) (meth2 := "") hcx (c_X11_undo (hf218) (hf237) H.size) (gdV q45_20 q45_21 q45_22 q1_5 q45_23) dvX11_undo ⟨Nat.le_of_ble_eq_true rfl, Nat.le_of_ble_eq_true rfl⟩ (hP.sub [0] rfl) (hD.sub [0] (by decide) rfl) (va_recv hK hP (ci := 11) (q0 := 0) rfl rfl) rfl hl.1 rfl (Nat.le_of_ble_eq_true rfl) dL_law_646 ⟨by show _ + 0 ≤ 600000; omega, by show _ + 0 ≤ 7302250; omega⟩) hP hD hS hA [0] [] rfl rfl (by decide) (by decide) (fun r W' H locs hw hP hD hS => ?_)
  obtain ⟨rfl, rfl⟩ := hw
  have hP : va_P g.1 vwCl [] H := hP
  have hD : va_D A [] := hD
  refine lv_icmp_eq (tgt := 1278) hx hb dL_law_649 (by decide) (fun _ => ?_) (fun c1001 => absurd (by decide) c1001)
  refine lv_iinc (v := 6) (lv' := [(3, .int 6), (2, .ref q188), (1, .ref q1), (0, .ref b)]) hx hb dL_law_1278 hl (k := 0) rfl (by decide) (by decide) rfl (fun ls hl => ?_)
  refine lv_goto (tgt := 18) hx hb dL_law_1281 (by decide) ?_
  refine lv_iload_n hx hb dL_law_18 rfl (lv_at hl 0 rfl) ?_
  refine lv_aload_n hx hb dL_law_19 rfl (lv_at hl 3 rfl) ?_
  refine va_slen hx hb hX hbl hbA hS dL_law_20 ?_
  refine lv_tope (y := 6) (by decide) ?_
  refine lv_bipush (v := 6) hx hb dL_law_21 (by decide) ?_
  refine lv_isub hx hb dL_law_23 ?_
  refine lv_tope (y := 0) (by decide) ?_
  refine lv_icmp_gt (tgt := 1284) hx hb dL_law_24 (by decide) (fun _ => ?_) (fun c1002 => absurd (by decide) c1002)
  refine lv_iconst (v := 1) hx hb dL_law_1284 (by decide) ?_
  refine va_forget (fun q hq => hAl _ (hS.2.2 q hq)) ?_
  refine W.widen (k := 600000) (n := 7302250) (by omega) (by omega) ?_
  exact lw_ret hx hb hr hlocks dL_law_1285

set_option maxHeartbeats 40000000 in
set_option maxRecDepth 100000 in
theorem lc_16 {p : Program} {l : Launch} {e : Env} {s : State} {m : MethodId} {below : List Frame} {meth : Method} {c : Code} {g : Gx} {b : Nat} {xs : Nat → Int32} {A : Nat → Prop} {H : Heap} {locs : List Loc} {ls : Array Slot} {nc ns : Nat} {q1 : Nat} {q2 : Nat} {q3 : Nat} {q52 : Nat} {q73 : Nat} {q13 : Nat} {q67 : Nat} {q76 : Nat} {q11 : Nat} {q86 : Nat} {q84 : Nat} {q12 : Nat} {q85 : Nat} {q77 : Nat} {q188 : Nat} {fs203 : List Value} {q189 : Nat} {q195 : Nat} {q200 : Nat} {q196 : Nat} {q197 : Nat} {q201 : Nat} {q198 : Nat} {q199 : Nat} {q190 : Nat} {q191 : Nat} {q192 : Nat} {q193 : Nat} {q194 : Nat} {q202 : Nat} (hnc : nc ≤ 1000) (hns : ns ≤ 100000) (hcx : Cx p s m #[Value.ref b] meth c cL_law 4 ret RL meth.name g) (hX : va_X b 6 xs s s.heap) (hbl : b < s.heap.size) (hbA : ¬ A b) (hA : ∀ q : Nat, s.heap.size ≤ q → A q) (hAl : ∀ q : Nat, A q → s.heap.size ≤ q) (hf218 : fs203.length = 69) (hf219 : fs203[0]? = some (Value.ref q189)) (hf220 : fs203[11]? = some (Value.ref q195)) (hf221 : fs203[12]? = some (Value.ref q200)) (hf222 : fs203[13]? = some (Value.ref q196)) (hf223 : fs203[14]? = some (Value.ref q197)) (hf224 : fs203[15]? = some (Value.ref q201)) (hf225 : fs203[16]? = some (Value.ref q198)) (hf226 : fs203[46]? = some (Value.ref q199)) (hf227 : fs203[48]? = some (Value.ref q190)) (hf228 : fs203[51]? = some (Value.ref q191)) (hf229 : fs203[53]? = some (Value.ref q192)) (hf230 : fs203[56]? = some (Value.ref q193)) (hf231 : fs203[67]? = some (Value.ref q194)) (hf232 : fs203[68]? = some (Value.ref q202)) (hf233 : fs203[2]? = some (Value.int 0)) (hf234 : fs203[4]? = some (Value.int 0)) (hf235 : fs203[5]? = some (Value.int (-1))) (hf236 : fs203[34]? = some (Value.int 0)) (hf237 : fs203[49]? = some (Value.int 0)) (hf238 : fs203[50]? = some (Value.int 0)) (hf239 : fs203[54]? = some (Value.int 0)) (hf240 : fs203[65]? = some (Value.int 0)) (hf241 : fs203[66]? = some (Value.int 0)) (hP : va_P g.1 vwCl [(q1, .inr (10, [.ref q2, .int 0, .ref q3, .ref q52, .ref q73, .ref q13, .ref q67, .ref q76, .ref q11, .ref q86, .ref q84, .ref q12, .ref q85, .int 0])), (q76, .inr (2, [.ref q77, .int 0, .int 0, .int 0])), (q188, .inr (11, fs203))] H) (hD : va_D A [(q1, .inr (10, [.ref q2, .int 0, .ref q3, .ref q52, .ref q73, .ref q13, .ref q67, .ref q76, .ref q11, .ref q86, .ref q84, .ref q12, .ref q85, .int 0])), (q76, .inr (2, [.ref q77, .int 0, .int 0, .int 0])), (q188, .inr (11, fs203))]) (hS : va_S A s.heap H locs) (hl : lv_has ls 4 [(3, .int 0), (2, .ref q188), (1, .ref q1), (0, .ref b)]) : W p l e room_1 s m #[Value.ref b] below meth c H locs nc ns (lw_Z below #[Value.ref b] s) (F0 m 654 ls []) := by
  obtain ⟨hx, hb, hml, hr, hlocks, hown, hts, hE, hnm⟩ := id hcx
  have hK := hE.1
  refine lv_aload_n hx hb dL_law_654 rfl (lv_at hl 2 rfl) ?_
  refine kI (wc := [(q1, .inr (10, [.ref q2, .int 0, .ref q3, .ref q52, .ref q73, .ref q13, .ref q67, .ref q76, .ref q11, .ref q86, .ref q84, .ref q12, .ref q85, .int 0])), (q76, .inr (2, [.ref q77, .int 0, .int 0, .int 0]))]) (wr := [(q188, .inr (11, fs203))]) (rV (As := []) (rest := []) (meth2 := "") hcx (c_X10_redo H.size) (gdV q46_4 q46_5 q46_6 q1_2 q46_7) dvX10_redo ⟨Nat.le_of_ble_eq_true rfl, Nat.le_of_ble_eq_true rfl⟩ (hP.sub [0, 1] rfl) (hD.sub [0, 1] (by decide) rfl) (va_recv hK hP (ci := 10) (q0 := 0) rfl rfl) rfl hl.1 rfl (Nat.le_of_ble_eq_true rfl) dL_law_655 ⟨by show _ + 0 ≤ 600000; omega, by show _ + 0 ≤ 7302250; omega⟩) hP hD hS hA [0, 1] [2] rfl rfl (by decide) (by decide) (fun r W' H locs hw hP hD hS => ?_)
  obtain ⟨rfl, rfl⟩ := hw
  have hP : va_P g.1 vwCl [(q188, .inr (11, fs203))] H := hP
  have hD : va_D A [(q188, .inr (11, fs203))] := hD
  refine lv_aload_n hx hb dL_law_658 rfl (lv_at hl 1 rfl) ?_
  refine kI (wc := [(q188, .inr (11, fs203))]) (wr := []) (rV (As := []) (rest := [.int 0]) (meth2 := "") hcx (c_X11_redo (hf218) (hf238) H.size) (gdV q46_12 q46_13 q46_14 q1_5 q46_15) dvX11_redo ⟨Nat.le_of_ble_eq_true rfl, Nat.le_of_ble_eq_true rfl⟩ (hP.sub [0] rfl) (hD.sub [0] (by decide) rfl) (va_recv hK hP (ci := 11) (q0 := 0) rfl rfl) rfl hl.1 rfl (Nat.le_of_ble_eq_true rfl) dL_law_659 ⟨by show _ + 0 ≤ 600000; omega, by show _ + 0 ≤ 7302250; omega⟩) hP hD hS hA [0] [] rfl rfl (by decide) (by decide) (fun r W' H locs hw hP hD hS => ?_)
  obtain ⟨rfl, rfl⟩ := hw
  have hP : va_P g.1 vwCl [] H := hP
  have hD : va_D A [] := hD
  refine lv_icmp_eq (tgt := 1278) hx hb dL_law_662 (by decide) (fun _ => ?_) (fun c1001 => absurd (by decide) c1001)
  refine lv_iinc (v := 6) (lv' := [(3, .int 6), (2, .ref q188), (1, .ref q1), (0, .ref b)]) hx hb dL_law_1278 hl (k := 0) rfl (by decide) (by decide) rfl (fun ls hl => ?_)
  refine lv_goto (tgt := 18) hx hb dL_law_1281 (by decide) ?_
  refine lv_iload_n hx hb dL_law_18 rfl (lv_at hl 0 rfl) ?_
  refine lv_aload_n hx hb dL_law_19 rfl (lv_at hl 3 rfl) ?_
  refine va_slen hx hb hX hbl hbA hS dL_law_20 ?_
  refine lv_tope (y := 6) (by decide) ?_
  refine lv_bipush (v := 6) hx hb dL_law_21 (by decide) ?_
  refine lv_isub hx hb dL_law_23 ?_
  refine lv_tope (y := 0) (by decide) ?_
  refine lv_icmp_gt (tgt := 1284) hx hb dL_law_24 (by decide) (fun _ => ?_) (fun c1002 => absurd (by decide) c1002)
  refine lv_iconst (v := 1) hx hb dL_law_1284 (by decide) ?_
  refine va_forget (fun q hq => hAl _ (hS.2.2 q hq)) ?_
  refine W.widen (k := 600000) (n := 7302250) (by omega) (by omega) ?_
  exact lw_ret hx hb hr hlocks dL_law_1285

set_option maxHeartbeats 40000000 in
set_option maxRecDepth 100000 in
theorem lc_17 {p : Program} {l : Launch} {e : Env} {s : State} {m : MethodId} {below : List Frame} {meth : Method} {c : Code} {g : Gx} {b : Nat} {xs : Nat → Int32} {A : Nat → Prop} {H : Heap} {locs : List Loc} {ls : Array Slot} {nc ns : Nat} {q1 : Nat} {q2 : Nat} {q3 : Nat} {q52 : Nat} {q73 : Nat} {q13 : Nat} {q67 : Nat} {q76 : Nat} {q11 : Nat} {q86 : Nat} {q84 : Nat} {q12 : Nat} {q85 : Nat} {q14 : Nat} {q96 : Nat} {q97 : Nat} {q98 : Nat} {q99 : Nat} {q20 : Nat} {q21 : Nat} {q100 : Nat} {q15 : Nat} {q16 : Nat} {q17 : Nat} {q18 : Nat} {q19 : Nat} {f101 : Nat → Int32} {f102 : Nat → Int32} {f103 : Nat → Int32} {f104 : Nat → Int32} {f105 : Nat → Int32} {q68 : Nat} {q69 : Nat} {q70 : Nat} {q71 : Nat} {q72 : Nat} {x151 : Int32} {f152 : Nat → Int32} {f153 : Nat → Int32} {f154 : Nat → Int32} {f155 : Nat → Int32} {f156 : Nat → Int32} {q157 : Nat} {q40 : Nat} {q41 : Nat} {q42 : Nat} {q43 : Nat} {q158 : Nat} {q44 : Nat} {q75 : Nat} {q45 : Nat} {q74 : Nat} {q46 : Nat} {q49 : Nat} {q188 : Nat} {fs203 : List Value} {q189 : Nat} {q195 : Nat} {q200 : Nat} {q196 : Nat} {q197 : Nat} {q201 : Nat} {q198 : Nat} {q199 : Nat} {q190 : Nat} {q191 : Nat} {q192 : Nat} {q193 : Nat} {q194 : Nat} {q202 : Nat} {f206 : Nat → Int32} {f210 : Nat → Int32} {f214 : Nat → Int32} (hnc : nc ≤ 1000) (hns : ns ≤ 100000) (hcx : Cx p s m #[Value.ref b] meth c cL_law 4 ret RL meth.name g) (hX : va_X b 6 xs s s.heap) (hbl : b < s.heap.size) (hbA : ¬ A b) (hA : ∀ q : Nat, s.heap.size ≤ q → A q) (hAl : ∀ q : Nat, A q → s.heap.size ≤ q) (hf218 : fs203.length = 69) (hf219 : fs203[0]? = some (Value.ref q189)) (hf220 : fs203[11]? = some (Value.ref q195)) (hf221 : fs203[12]? = some (Value.ref q200)) (hf222 : fs203[13]? = some (Value.ref q196)) (hf223 : fs203[14]? = some (Value.ref q197)) (hf224 : fs203[15]? = some (Value.ref q201)) (hf225 : fs203[16]? = some (Value.ref q198)) (hf226 : fs203[46]? = some (Value.ref q199)) (hf227 : fs203[48]? = some (Value.ref q190)) (hf228 : fs203[51]? = some (Value.ref q191)) (hf229 : fs203[53]? = some (Value.ref q192)) (hf230 : fs203[56]? = some (Value.ref q193)) (hf231 : fs203[67]? = some (Value.ref q194)) (hf232 : fs203[68]? = some (Value.ref q202)) (hf233 : fs203[2]? = some (Value.int 0)) (hf234 : fs203[4]? = some (Value.int 0)) (hf235 : fs203[5]? = some (Value.int (-1))) (hf236 : fs203[34]? = some (Value.int 0)) (hf237 : fs203[49]? = some (Value.int 0)) (hf238 : fs203[50]? = some (Value.int 0)) (hf239 : fs203[54]? = some (Value.int 0)) (hf240 : fs203[65]? = some (Value.int 0)) (hf241 : fs203[66]? = some (Value.int 0)) (hf242 : f210 0 = 0) (hf246 : f214 20 = 0) (hf247 : f214 21 = 0) (hf248 : f214 22 = 0) (hf249 : f214 23 = 0) (hP : va_P g.1 vwCl [(q1, .inr (10, [.ref q2, .int 0, .ref q3, .ref q52, .ref q73, .ref q13, .ref q67, .ref q76, .ref q11, .ref q86, .ref q84, .ref q12, .ref q85, .int 0])), (q12, .inr (4, [.ref q13, .ref q73, .ref q67, .ref q84, .ref q14, .ref q96, .ref q97, .ref q98, .ref q99, .ref q20, .ref q21, .int 0])), (q13, .inr (0, [.ref q73, .ref q100, .int 0, .int 0])), (q14, .inr (7, [.ref q15, .ref q16, .ref q17, .ref q18, .ref q19, .int 0, .int 0, .int 0, .int 0, .int 0])), (q15, .inl (gI g, 5, .inl f101)), (q16, .inl (gI g, 5, .inl f102)), (q17, .inl (gI g, 5, .inl f103)), (q18, .inl (gI g, 5, .inl f104)), (q19, .inl (gI g, 5, .inl f105)), (q67, .inr (7, [.ref q68, .ref q69, .ref q70, .ref q71, .ref q72, .int 0, .int 0, .int 0, .int 0, .int x151])), (q68, .inl (gI g, 5, .inl f152)), (q69, .inl (gI g, 5, .inl f153)), (q70, .inl (gI g, 5, .inl f154)), (q71, .inl (gI g, 5, .inl f155)), (q72, .inl (gI g, 5, .inl f156)), (q73, .inr (9, [.int 0, .int 0, .int 0, .int 0, .int 0, .ref q157, .ref q40, .ref q41, .ref q42, .ref q43, .ref q158, .ref q44, .ref q75, .ref q45, .ref q74, .ref q46, .ref q49])), (q188, .inr (11, fs203)), (q191, .inl (gI g, 24, .inl f206)), (q195, .inl (gI g, 2, .inl f210)), (q199, .inl (gI g, 24, .inl f214))] H) (hD : va_D A [(q1, .inr (10, [.ref q2, .int 0, .ref q3, .ref q52, .ref q73, .ref q13, .ref q67, .ref q76, .ref q11, .ref q86, .ref q84, .ref q12, .ref q85, .int 0])), (q12, .inr (4, [.ref q13, .ref q73, .ref q67, .ref q84, .ref q14, .ref q96, .ref q97, .ref q98, .ref q99, .ref q20, .ref q21, .int 0])), (q13, .inr (0, [.ref q73, .ref q100, .int 0, .int 0])), (q14, .inr (7, [.ref q15, .ref q16, .ref q17, .ref q18, .ref q19, .int 0, .int 0, .int 0, .int 0, .int 0])), (q15, .inl (gI g, 5, .inl f101)), (q16, .inl (gI g, 5, .inl f102)), (q17, .inl (gI g, 5, .inl f103)), (q18, .inl (gI g, 5, .inl f104)), (q19, .inl (gI g, 5, .inl f105)), (q67, .inr (7, [.ref q68, .ref q69, .ref q70, .ref q71, .ref q72, .int 0, .int 0, .int 0, .int 0, .int x151])), (q68, .inl (gI g, 5, .inl f152)), (q69, .inl (gI g, 5, .inl f153)), (q70, .inl (gI g, 5, .inl f154)), (q71, .inl (gI g, 5, .inl f155)), (q72, .inl (gI g, 5, .inl f156)), (q73, .inr (9, [.int 0, .int 0, .int 0, .int 0, .int 0, .ref q157, .ref q40, .ref q41, .ref q42, .ref q43, .ref q158, .ref q44, .ref q75, .ref q45, .ref q74, .ref q46, .ref q49])), (q188, .inr (11, fs203)), (q191, .inl (gI g, 24, .inl f206)), (q195, .inl (gI g, 2, .inl f210)), (q199, .inl (gI g, 24, .inl f214))]) (hS : va_S A s.heap H locs) (hl : lv_has ls 4 [(3, .int 0), (2, .ref q188), (1, .ref q1), (0, .ref b)]) : W p l e room_1 s m #[Value.ref b] below meth c H locs nc ns (lw_Z below #[Value.ref b] s) (F0 m 667 ls []) := by
  obtain ⟨hx, hb, hml, hr, hlocks, hown, hts, hE, hnm⟩ := id hcx
  have hK := hE.1
  refine lv_aload_n hx hb dL_law_667 rfl (lv_at hl 2 rfl) ?_
  refine lv_aload_n hx hb dL_law_668 rfl (lv_at hl 3 rfl) ?_
  refine lv_iload_n hx hb dL_law_669 rfl (lv_at hl 0 rfl) ?_
  refine lv_iconst (v := 1) hx hb dL_law_670 (by decide) ?_
  refine lv_iadd hx hb dL_law_671 ?_
  refine lv_tope (y := 1) (by decide) ?_
  refine sc_ld hx hb hX hbl hbA hS 1 rfl (by decide) (by decide) dL_law_672 ?_
  refine lv_aload_n hx hb dL_law_673 rfl (lv_at hl 3 rfl) ?_
  refine lv_iload_n hx hb dL_law_674 rfl (lv_at hl 0 rfl) ?_
  refine lv_iconst (v := 2) hx hb dL_law_675 (by decide) ?_
  refine lv_iadd hx hb dL_law_676 ?_
  refine lv_tope (y := 2) (by decide) ?_
  refine sc_ld hx hb hX hbl hbA hS 2 rfl (by decide) (by decide) dL_law_677 ?_
  refine kI (wc := [(q1, .inr (10, [.ref q2, .int 0, .ref q3, .ref q52, .ref q73, .ref q13, .ref q67, .ref q76, .ref q11, .ref q86, .ref q84, .ref q12, .ref q85, .int 0])), (q12, .inr (4, [.ref q13, .ref q73, .ref q67, .ref q84, .ref q14, .ref q96, .ref q97, .ref q98, .ref q99, .ref q20, .ref q21, .int 0])), (q14, .inr (7, [.ref q15, .ref q16, .ref q17, .ref q18, .ref q19, .int 0, .int 0, .int 0, .int 0, .int 0])), (q15, .inl (gI g, 5, .inl f101)), (q16, .inl (gI g, 5, .inl f102)), (q17, .inl (gI g, 5, .inl f103)), (q18, .inl (gI g, 5, .inl f104)), (q19, .inl (gI g, 5, .inl f105)), (q67, .inr (7, [.ref q68, .ref q69, .ref q70, .ref q71, .ref q72, .int 0, .int 0, .int 0, .int 0, .int x151])), (q68, .inl (gI g, 5, .inl f152)), (q69, .inl (gI g, 5, .inl f153)), (q70, .inl (gI g, 5, .inl f154)), (q71, .inl (gI g, 5, .inl f155)), (q72, .inl (gI g, 5, .inl f156)), (q13, .inr (0, [.ref q73, .ref q100, .int 0, .int 0])), (q73, .inr (9, [.int 0, .int 0, .int 0, .int 0, .int 0, .ref q157, .ref q40, .ref q41, .ref q42, .ref q43, .ref q158, .ref q44, .ref q75, .ref q45, .ref q74, .ref q46, .ref q49]))]) (wr := [(q188, .inr (11, fs203)), (q191, .inl (gI g, 24, .inl f206)), (q195, .inl (gI g, 2, .inl f210)), (q199, .inl (gI g, 24, .inl f214))]) (rV (As := [.int (xs 1), .int (xs 2)]) (rest := []) (meth2 := "") hcx (c_X10_will H.size) (gdV q46_16 q46_17 q46_18 q1_2 q46_19) dvX10_will ⟨Nat.le_of_ble_eq_true rfl, Nat.le_of_ble_eq_true rfl⟩ (hP.sub [0, 1, 3, 4, 5, 6, 7, 8, 9, 10, 11, 12, 13, 14, 2, 15] rfl) (hD.sub [0, 1, 3, 4, 5, 6, 7, 8, 9, 10, 11, 12, 13, 14, 2, 15] (by decide) rfl) (va_recv hK hP (ci := 10) (q0 := 0) rfl rfl) rfl hl.1 rfl (Nat.le_of_ble_eq_true rfl) dL_law_678 ⟨by show _ + 0 ≤ 600000; omega, by show _ + 0 ≤ 7302250; omega⟩) hP hD hS hA [0, 1, 3, 4, 5, 6, 7, 8, 9, 10, 11, 12, 13, 14, 2, 15] [16, 17, 18, 19] rfl rfl (by decide) (by decide) (fun r1001 W' H locs hw hP hD hS => ?_)
  obtain ⟨hr1002, rfl⟩ := hw
  have hP : va_P g.1 vwCl [(q188, .inr (11, fs203)), (q191, .inl (gI g, 24, .inl f206)), (q195, .inl (gI g, 2, .inl f210)), (q199, .inl (gI g, 24, .inl f214))] H := hP
  have hD : va_D A [(q188, .inr (11, fs203)), (q191, .inl (gI g, 24, .inl f206)), (q195, .inl (gI g, 2, .inl f210)), (q199, .inl (gI g, 24, .inl f214))] := hD
  refine lv_aload_n hx hb dL_law_681 rfl (lv_at hl 1 rfl) ?_
  refine lv_aload_n hx hb dL_law_682 rfl (lv_at hl 3 rfl) ?_
  refine lv_iload_n hx hb dL_law_683 rfl (lv_at hl 0 rfl) ?_
  refine lv_iconst (v := 1) hx hb dL_law_684 (by decide) ?_
  refine lv_iadd hx hb dL_law_685 ?_
  refine lv_tope (y := 1) (by decide) ?_
  refine sc_ld hx hb hX hbl hbA hS 1 rfl (by decide) (by decide) dL_law_686 ?_
  refine lv_aload_n hx hb dL_law_687 rfl (lv_at hl 3 rfl) ?_
  refine lv_iload_n hx hb dL_law_688 rfl (lv_at hl 0 rfl) ?_
  refine lv_iconst (v := 2) hx hb dL_law_689 (by decide) ?_
  refine lv_iadd hx hb dL_law_690 ?_
  refine lv_tope (y := 2) (by decide) ?_
  refine sc_ld hx hb hX hbl hbA hS 2 rfl (by decide) (by decide) dL_law_691 ?_
  refine kI (wc := [(q188, .inr (11, fs203)), (q199, .inl (gI g, 24, .inl f214)), (q191, .inl (gI g, 24, .inl f206)), (q195, .inl (gI g, 2, .inl f210))]) (wr := []) (rV (As := [.int (xs 1), .int (xs 2)]) (rest := [.int r1001]) (meth2 := "") hcx (c_X11_will (hf218) (hf226) (hf228) (hf220) (hf236) (hf246) (hf247) (hf242) H.size) (gdV q47_5 q47_6 q47_7 q1_5 q47_8) dvX11_will ⟨Nat.le_of_ble_eq_true rfl, Nat.le_of_ble_eq_true rfl⟩ (hP.sub [0, 3, 1, 2] rfl) (hD.sub [0, 3, 1, 2] (by decide) rfl) (va_recv hK hP (ci := 11) (q0 := 0) rfl rfl) rfl hl.1 rfl (Nat.le_of_ble_eq_true rfl) dL_law_692 ⟨by show _ + 0 ≤ 600000; omega, by show _ + 0 ≤ 7302250; omega⟩) hP hD hS hA [0, 3, 1, 2] [] rfl rfl (by decide) (by decide) (fun r1003 W' H locs hw hP hD hS => ?_)
  obtain ⟨hr1004, rfl⟩ := hw
  have hP : va_P g.1 vwCl [] H := hP
  have hD : va_D A [] := hD
  refine lv_icmp_eq (tgt := 1278) hx hb dL_law_695 (by decide) (fun _ => ?_) (fun c1005 => absurd (hr1002.trans hr1004.symm) c1005)
  refine lv_iinc (v := 6) (lv' := [(3, .int 6), (2, .ref q188), (1, .ref q1), (0, .ref b)]) hx hb dL_law_1278 hl (k := 0) rfl (by decide) (by decide) rfl (fun ls hl => ?_)
  refine lv_goto (tgt := 18) hx hb dL_law_1281 (by decide) ?_
  refine lv_iload_n hx hb dL_law_18 rfl (lv_at hl 0 rfl) ?_
  refine lv_aload_n hx hb dL_law_19 rfl (lv_at hl 3 rfl) ?_
  refine va_slen hx hb hX hbl hbA hS dL_law_20 ?_
  refine lv_tope (y := 6) (by decide) ?_
  refine lv_bipush (v := 6) hx hb dL_law_21 (by decide) ?_
  refine lv_isub hx hb dL_law_23 ?_
  refine lv_tope (y := 0) (by decide) ?_
  refine lv_icmp_gt (tgt := 1284) hx hb dL_law_24 (by decide) (fun _ => ?_) (fun c1006 => absurd (by decide) c1006)
  refine lv_iconst (v := 1) hx hb dL_law_1284 (by decide) ?_
  refine va_forget (fun q hq => hAl _ (hS.2.2 q hq)) ?_
  refine W.widen (k := 600000) (n := 7302250) (by omega) (by omega) ?_
  exact lw_ret hx hb hr hlocks dL_law_1285

set_option maxHeartbeats 40000000 in
set_option maxRecDepth 100000 in
theorem lc_18 {p : Program} {l : Launch} {e : Env} {s : State} {m : MethodId} {below : List Frame} {meth : Method} {c : Code} {g : Gx} {b : Nat} {xs : Nat → Int32} {A : Nat → Prop} {H : Heap} {locs : List Loc} {ls : Array Slot} {nc ns : Nat} {q1 : Nat} {q2 : Nat} {q3 : Nat} {q52 : Nat} {q73 : Nat} {q13 : Nat} {q67 : Nat} {q76 : Nat} {q11 : Nat} {q86 : Nat} {q84 : Nat} {q12 : Nat} {q85 : Nat} {q157 : Nat} {q40 : Nat} {q41 : Nat} {q42 : Nat} {q43 : Nat} {q158 : Nat} {q44 : Nat} {q75 : Nat} {q45 : Nat} {q74 : Nat} {q46 : Nat} {q49 : Nat} {q188 : Nat} {fs203 : List Value} {q189 : Nat} {q195 : Nat} {q200 : Nat} {q196 : Nat} {q197 : Nat} {q201 : Nat} {q198 : Nat} {q199 : Nat} {q190 : Nat} {q191 : Nat} {q192 : Nat} {q193 : Nat} {q194 : Nat} {q202 : Nat} {f215 : Nat → Int32} (hnc : nc ≤ 1000) (hns : ns ≤ 100000) (hcx : Cx p s m #[Value.ref b] meth c cL_law 4 ret RL meth.name g) (hX : va_X b 6 xs s s.heap) (hbl : b < s.heap.size) (hbA : ¬ A b) (hA : ∀ q : Nat, s.heap.size ≤ q → A q) (hAl : ∀ q : Nat, A q → s.heap.size ≤ q) (hf218 : fs203.length = 69) (hf219 : fs203[0]? = some (Value.ref q189)) (hf220 : fs203[11]? = some (Value.ref q195)) (hf221 : fs203[12]? = some (Value.ref q200)) (hf222 : fs203[13]? = some (Value.ref q196)) (hf223 : fs203[14]? = some (Value.ref q197)) (hf224 : fs203[15]? = some (Value.ref q201)) (hf225 : fs203[16]? = some (Value.ref q198)) (hf226 : fs203[46]? = some (Value.ref q199)) (hf227 : fs203[48]? = some (Value.ref q190)) (hf228 : fs203[51]? = some (Value.ref q191)) (hf229 : fs203[53]? = some (Value.ref q192)) (hf230 : fs203[56]? = some (Value.ref q193)) (hf231 : fs203[67]? = some (Value.ref q194)) (hf232 : fs203[68]? = some (Value.ref q202)) (hf233 : fs203[2]? = some (Value.int 0)) (hf234 : fs203[4]? = some (Value.int 0)) (hf235 : fs203[5]? = some (Value.int (-1))) (hf236 : fs203[34]? = some (Value.int 0)) (hf237 : fs203[49]? = some (Value.int 0)) (hf238 : fs203[50]? = some (Value.int 0)) (hf239 : fs203[54]? = some (Value.int 0)) (hf240 : fs203[65]? = some (Value.int 0)) (hf241 : fs203[66]? = some (Value.int 0)) (hf250 : f215 0 = 0) (hP : va_P g.1 vwCl [(q1, .inr (10, [.ref q2, .int 0, .ref q3, .ref q52, .ref q73, .ref q13, .ref q67, .ref q76, .ref q11, .ref q86, .ref q84, .ref q12, .ref q85, .int 0])), (q73, .inr (9, [.int 0, .int 0, .int 0, .int 0, .int 0, .ref q157, .ref q40, .ref q41, .ref q42, .ref q43, .ref q158, .ref q44, .ref q75, .ref q45, .ref q74, .ref q46, .ref q49])), (q188, .inr (11, fs203)), (q200, .inl (gI g, 2, .inl f215))] H) (hD : va_D A [(q1, .inr (10, [.ref q2, .int 0, .ref q3, .ref q52, .ref q73, .ref q13, .ref q67, .ref q76, .ref q11, .ref q86, .ref q84, .ref q12, .ref q85, .int 0])), (q73, .inr (9, [.int 0, .int 0, .int 0, .int 0, .int 0, .ref q157, .ref q40, .ref q41, .ref q42, .ref q43, .ref q158, .ref q44, .ref q75, .ref q45, .ref q74, .ref q46, .ref q49])), (q188, .inr (11, fs203)), (q200, .inl (gI g, 2, .inl f215))]) (hS : va_S A s.heap H locs) (hl : lv_has ls 4 [(3, .int 0), (2, .ref q188), (1, .ref q1), (0, .ref b)]) : W p l e room_1 s m #[Value.ref b] below meth c H locs nc ns (lw_Z below #[Value.ref b] s) (F0 m 700 ls []) := by
  obtain ⟨hx, hb, hml, hr, hlocks, hown, hts, hE, hnm⟩ := id hcx
  have hK := hE.1
  refine lv_aload_n hx hb dL_law_700 rfl (lv_at hl 2 rfl) ?_
  refine lv_aload_n hx hb dL_law_701 rfl (lv_at hl 3 rfl) ?_
  refine lv_iload_n hx hb dL_law_702 rfl (lv_at hl 0 rfl) ?_
  refine lv_iconst (v := 1) hx hb dL_law_703 (by decide) ?_
  refine lv_iadd hx hb dL_law_704 ?_
  refine lv_tope (y := 1) (by decide) ?_
  refine sc_ld hx hb hX hbl hbA hS 1 rfl (by decide) (by decide) dL_law_705 ?_
  refine kI (wc := [(q1, .inr (10, [.ref q2, .int 0, .ref q3, .ref q52, .ref q73, .ref q13, .ref q67, .ref q76, .ref q11, .ref q86, .ref q84, .ref q12, .ref q85, .int 0])), (q73, .inr (9, [.int 0, .int 0, .int 0, .int 0, .int 0, .ref q157, .ref q40, .ref q41, .ref q42, .ref q43, .ref q158, .ref q44, .ref q75, .ref q45, .ref q74, .ref q46, .ref q49]))]) (wr := [(q188, .inr (11, fs203)), (q200, .inl (gI g, 2, .inl f215))]) (rV (As := [.int (xs 1)]) (rest := []) (meth2 := "") hcx (c_X10_far H.size) (gdV q47_17 q47_18 q47_19 q1_2 q47_20) dvX10_far ⟨Nat.le_of_ble_eq_true rfl, Nat.le_of_ble_eq_true rfl⟩ (hP.sub [0, 1] rfl) (hD.sub [0, 1] (by decide) rfl) (va_recv hK hP (ci := 10) (q0 := 0) rfl rfl) rfl hl.1 rfl (Nat.le_of_ble_eq_true rfl) dL_law_706 ⟨by show _ + 0 ≤ 600000; omega, by show _ + 0 ≤ 7302250; omega⟩) hP hD hS hA [0, 1] [2, 3] rfl rfl (by decide) (by decide) (fun r W' H locs hw hP hD hS => ?_)
  obtain ⟨rfl, rfl⟩ := hw
  have hP : va_P g.1 vwCl [(q188, .inr (11, fs203)), (q200, .inl (gI g, 2, .inl f215))] H := hP
  have hD : va_D A [(q188, .inr (11, fs203)), (q200, .inl (gI g, 2, .inl f215))] := hD
  refine lv_aload_n hx hb dL_law_709 rfl (lv_at hl 1 rfl) ?_
  refine lv_aload_n hx hb dL_law_710 rfl (lv_at hl 3 rfl) ?_
  refine lv_iload_n hx hb dL_law_711 rfl (lv_at hl 0 rfl) ?_
  refine lv_iconst (v := 1) hx hb dL_law_712 (by decide) ?_
  refine lv_iadd hx hb dL_law_713 ?_
  refine lv_tope (y := 1) (by decide) ?_
  refine sc_ld hx hb hX hbl hbA hS 1 rfl (by decide) (by decide) dL_law_714 ?_
  refine kI (wc := [(q188, .inr (11, fs203)), (q200, .inl (gI g, 2, .inl f215))]) (wr := []) (rV (As := [.int (xs 1)]) (rest := [.int (-1)]) (meth2 := "") hcx (c_X11_far (hf218) (hf221) (hf236) (hf250) H.size) (gdV q48_4 q48_5 q48_6 q1_5 q48_7) dvX11_far ⟨Nat.le_of_ble_eq_true rfl, Nat.le_of_ble_eq_true rfl⟩ (hP.sub [0, 1] rfl) (hD.sub [0, 1] (by decide) rfl) (va_recv hK hP (ci := 11) (q0 := 0) rfl rfl) rfl hl.1 rfl (Nat.le_of_ble_eq_true rfl) dL_law_715 ⟨by show _ + 0 ≤ 600000; omega, by show _ + 0 ≤ 7302250; omega⟩) hP hD hS hA [0, 1] [] rfl rfl (by decide) (by decide) (fun r W' H locs hw hP hD hS => ?_)
  obtain ⟨rfl, rfl⟩ := hw
  have hP : va_P g.1 vwCl [] H := hP
  have hD : va_D A [] := hD
  refine lv_icmp_eq (tgt := 1278) hx hb dL_law_718 (by decide) (fun _ => ?_) (fun c1001 => absurd (by decide) c1001)
  refine lv_iinc (v := 6) (lv' := [(3, .int 6), (2, .ref q188), (1, .ref q1), (0, .ref b)]) hx hb dL_law_1278 hl (k := 0) rfl (by decide) (by decide) rfl (fun ls hl => ?_)
  refine lv_goto (tgt := 18) hx hb dL_law_1281 (by decide) ?_
  refine lv_iload_n hx hb dL_law_18 rfl (lv_at hl 0 rfl) ?_
  refine lv_aload_n hx hb dL_law_19 rfl (lv_at hl 3 rfl) ?_
  refine va_slen hx hb hX hbl hbA hS dL_law_20 ?_
  refine lv_tope (y := 6) (by decide) ?_
  refine lv_bipush (v := 6) hx hb dL_law_21 (by decide) ?_
  refine lv_isub hx hb dL_law_23 ?_
  refine lv_tope (y := 0) (by decide) ?_
  refine lv_icmp_gt (tgt := 1284) hx hb dL_law_24 (by decide) (fun _ => ?_) (fun c1002 => absurd (by decide) c1002)
  refine lv_iconst (v := 1) hx hb dL_law_1284 (by decide) ?_
  refine va_forget (fun q hq => hAl _ (hS.2.2 q hq)) ?_
  refine W.widen (k := 600000) (n := 7302250) (by omega) (by omega) ?_
  exact lw_ret hx hb hr hlocks dL_law_1285

set_option maxHeartbeats 40000000 in
set_option maxRecDepth 100000 in
theorem lc_19 {p : Program} {l : Launch} {e : Env} {s : State} {m : MethodId} {below : List Frame} {meth : Method} {c : Code} {g : Gx} {b : Nat} {xs : Nat → Int32} {A : Nat → Prop} {H : Heap} {locs : List Loc} {ls : Array Slot} {nc ns : Nat} {q1 : Nat} {q2 : Nat} {q3 : Nat} {q52 : Nat} {q73 : Nat} {q13 : Nat} {q67 : Nat} {q76 : Nat} {q11 : Nat} {q86 : Nat} {q84 : Nat} {q12 : Nat} {q85 : Nat} {q157 : Nat} {q40 : Nat} {q41 : Nat} {q42 : Nat} {q43 : Nat} {q158 : Nat} {q44 : Nat} {q75 : Nat} {q45 : Nat} {q74 : Nat} {q46 : Nat} {q49 : Nat} {q188 : Nat} {fs203 : List Value} {q189 : Nat} {q195 : Nat} {q200 : Nat} {q196 : Nat} {q197 : Nat} {q201 : Nat} {q198 : Nat} {q199 : Nat} {q190 : Nat} {q191 : Nat} {q192 : Nat} {q193 : Nat} {q194 : Nat} {q202 : Nat} {f215 : Nat → Int32} (hnc : nc ≤ 1000) (hns : ns ≤ 100000) (hcx : Cx p s m #[Value.ref b] meth c cL_law 4 ret RL meth.name g) (hX : va_X b 6 xs s s.heap) (hbl : b < s.heap.size) (hbA : ¬ A b) (hA : ∀ q : Nat, s.heap.size ≤ q → A q) (hAl : ∀ q : Nat, A q → s.heap.size ≤ q) (hf218 : fs203.length = 69) (hf219 : fs203[0]? = some (Value.ref q189)) (hf220 : fs203[11]? = some (Value.ref q195)) (hf221 : fs203[12]? = some (Value.ref q200)) (hf222 : fs203[13]? = some (Value.ref q196)) (hf223 : fs203[14]? = some (Value.ref q197)) (hf224 : fs203[15]? = some (Value.ref q201)) (hf225 : fs203[16]? = some (Value.ref q198)) (hf226 : fs203[46]? = some (Value.ref q199)) (hf227 : fs203[48]? = some (Value.ref q190)) (hf228 : fs203[51]? = some (Value.ref q191)) (hf229 : fs203[53]? = some (Value.ref q192)) (hf230 : fs203[56]? = some (Value.ref q193)) (hf231 : fs203[67]? = some (Value.ref q194)) (hf232 : fs203[68]? = some (Value.ref q202)) (hf233 : fs203[2]? = some (Value.int 0)) (hf234 : fs203[4]? = some (Value.int 0)) (hf235 : fs203[5]? = some (Value.int (-1))) (hf236 : fs203[34]? = some (Value.int 0)) (hf237 : fs203[49]? = some (Value.int 0)) (hf238 : fs203[50]? = some (Value.int 0)) (hf239 : fs203[54]? = some (Value.int 0)) (hf240 : fs203[65]? = some (Value.int 0)) (hf241 : fs203[66]? = some (Value.int 0)) (hf250 : f215 0 = 0) (hP : va_P g.1 vwCl [(q1, .inr (10, [.ref q2, .int 0, .ref q3, .ref q52, .ref q73, .ref q13, .ref q67, .ref q76, .ref q11, .ref q86, .ref q84, .ref q12, .ref q85, .int 0])), (q73, .inr (9, [.int 0, .int 0, .int 0, .int 0, .int 0, .ref q157, .ref q40, .ref q41, .ref q42, .ref q43, .ref q158, .ref q44, .ref q75, .ref q45, .ref q74, .ref q46, .ref q49])), (q188, .inr (11, fs203)), (q200, .inl (gI g, 2, .inl f215))] H) (hD : va_D A [(q1, .inr (10, [.ref q2, .int 0, .ref q3, .ref q52, .ref q73, .ref q13, .ref q67, .ref q76, .ref q11, .ref q86, .ref q84, .ref q12, .ref q85, .int 0])), (q73, .inr (9, [.int 0, .int 0, .int 0, .int 0, .int 0, .ref q157, .ref q40, .ref q41, .ref q42, .ref q43, .ref q158, .ref q44, .ref q75, .ref q45, .ref q74, .ref q46, .ref q49])), (q188, .inr (11, fs203)), (q200, .inl (gI g, 2, .inl f215))]) (hS : va_S A s.heap H locs) (hl : lv_has ls 4 [(3, .int 0), (2, .ref q188), (1, .ref q1), (0, .ref b)]) : W p l e room_1 s m #[Value.ref b] below meth c H locs nc ns (lw_Z below #[Value.ref b] s) (F0 m 723 ls []) := by
  obtain ⟨hx, hb, hml, hr, hlocks, hown, hts, hE, hnm⟩ := id hcx
  have hK := hE.1
  refine lv_aload_n hx hb dL_law_723 rfl (lv_at hl 2 rfl) ?_
  refine lv_aload_n hx hb dL_law_724 rfl (lv_at hl 3 rfl) ?_
  refine lv_iload_n hx hb dL_law_725 rfl (lv_at hl 0 rfl) ?_
  refine lv_iconst (v := 1) hx hb dL_law_726 (by decide) ?_
  refine lv_iadd hx hb dL_law_727 ?_
  refine lv_tope (y := 1) (by decide) ?_
  refine sc_ld hx hb hX hbl hbA hS 1 rfl (by decide) (by decide) dL_law_728 ?_
  refine kI (wc := [(q1, .inr (10, [.ref q2, .int 0, .ref q3, .ref q52, .ref q73, .ref q13, .ref q67, .ref q76, .ref q11, .ref q86, .ref q84, .ref q12, .ref q85, .int 0])), (q73, .inr (9, [.int 0, .int 0, .int 0, .int 0, .int 0, .ref q157, .ref q40, .ref q41, .ref q42, .ref q43, .ref q158, .ref q44, .ref q75, .ref q45, .ref q74, .ref q46, .ref q49]))]) (wr := [(q188, .inr (11, fs203)), (q200, .inl (gI g, 2, .inl f215))]) (rV (As := [.int (xs 1)]) (rest := []) (meth2 := "") hcx (c_X10_least H.size) (gdV q48_16 q48_17 q48_18 q1_2 q48_19) dvX10_least ⟨Nat.le_of_ble_eq_true rfl, Nat.le_of_ble_eq_true rfl⟩ (hP.sub [0, 1] rfl) (hD.sub [0, 1] (by decide) rfl) (va_recv hK hP (ci := 10) (q0 := 0) rfl rfl) rfl hl.1 rfl (Nat.le_of_ble_eq_true rfl) dL_law_729 ⟨by show _ + 0 ≤ 600000; omega, by show _ + 0 ≤ 7302250; omega⟩) hP hD hS hA [0, 1] [2, 3] rfl rfl (by decide) (by decide) (fun r W' H locs hw hP hD hS => ?_)
  obtain ⟨rfl, rfl⟩ := hw
  have hP : va_P g.1 vwCl [(q188, .inr (11, fs203)), (q200, .inl (gI g, 2, .inl f215))] H := hP
  have hD : va_D A [(q188, .inr (11, fs203)), (q200, .inl (gI g, 2, .inl f215))] := hD
  refine lv_aload_n hx hb dL_law_732 rfl (lv_at hl 1 rfl) ?_
  refine lv_aload_n hx hb dL_law_733 rfl (lv_at hl 3 rfl) ?_
  refine lv_iload_n hx hb dL_law_734 rfl (lv_at hl 0 rfl) ?_
  refine lv_iconst (v := 1) hx hb dL_law_735 (by decide) ?_
  refine lv_iadd hx hb dL_law_736 ?_
  refine lv_tope (y := 1) (by decide) ?_
  refine sc_ld hx hb hX hbl hbA hS 1 rfl (by decide) (by decide) dL_law_737 ?_
  refine kI (wc := [(q188, .inr (11, fs203)), (q200, .inl (gI g, 2, .inl f215))]) (wr := []) (rV (As := [.int (xs 1)]) (rest := [.int (-1)]) (meth2 := "") hcx (c_X11_least (hf218) (hf221) (hf236) (hf250) H.size) (gdV q49_7 q49_8 q49_9 q1_5 q49_10) dvX11_least ⟨Nat.le_of_ble_eq_true rfl, Nat.le_of_ble_eq_true rfl⟩ (hP.sub [0, 1] rfl) (hD.sub [0, 1] (by decide) rfl) (va_recv hK hP (ci := 11) (q0 := 0) rfl rfl) rfl hl.1 rfl (Nat.le_of_ble_eq_true rfl) dL_law_738 ⟨by show _ + 0 ≤ 600000; omega, by show _ + 0 ≤ 7302250; omega⟩) hP hD hS hA [0, 1] [] rfl rfl (by decide) (by decide) (fun r W' H locs hw hP hD hS => ?_)
  obtain ⟨rfl, rfl⟩ := hw
  have hP : va_P g.1 vwCl [] H := hP
  have hD : va_D A [] := hD
  refine lv_icmp_eq (tgt := 1278) hx hb dL_law_741 (by decide) (fun _ => ?_) (fun c1001 => absurd (by decide) c1001)
  refine lv_iinc (v := 6) (lv' := [(3, .int 6), (2, .ref q188), (1, .ref q1), (0, .ref b)]) hx hb dL_law_1278 hl (k := 0) rfl (by decide) (by decide) rfl (fun ls hl => ?_)
  refine lv_goto (tgt := 18) hx hb dL_law_1281 (by decide) ?_
  refine lv_iload_n hx hb dL_law_18 rfl (lv_at hl 0 rfl) ?_
  refine lv_aload_n hx hb dL_law_19 rfl (lv_at hl 3 rfl) ?_
  refine va_slen hx hb hX hbl hbA hS dL_law_20 ?_
  refine lv_tope (y := 6) (by decide) ?_
  refine lv_bipush (v := 6) hx hb dL_law_21 (by decide) ?_
  refine lv_isub hx hb dL_law_23 ?_
  refine lv_tope (y := 0) (by decide) ?_
  refine lv_icmp_gt (tgt := 1284) hx hb dL_law_24 (by decide) (fun _ => ?_) (fun c1002 => absurd (by decide) c1002)
  refine lv_iconst (v := 1) hx hb dL_law_1284 (by decide) ?_
  refine va_forget (fun q hq => hAl _ (hS.2.2 q hq)) ?_
  refine W.widen (k := 600000) (n := 7302250) (by omega) (by omega) ?_
  exact lw_ret hx hb hr hlocks dL_law_1285

set_option maxHeartbeats 40000000 in
set_option maxRecDepth 100000 in
theorem lc_20 {p : Program} {l : Launch} {e : Env} {s : State} {m : MethodId} {below : List Frame} {meth : Method} {c : Code} {g : Gx} {b : Nat} {xs : Nat → Int32} {A : Nat → Prop} {H : Heap} {locs : List Loc} {ls : Array Slot} {nc ns : Nat} {q1 : Nat} {q2 : Nat} {q3 : Nat} {q52 : Nat} {q73 : Nat} {q13 : Nat} {q67 : Nat} {q76 : Nat} {q11 : Nat} {q86 : Nat} {q84 : Nat} {q12 : Nat} {q85 : Nat} {q14 : Nat} {q96 : Nat} {q97 : Nat} {q98 : Nat} {q99 : Nat} {q20 : Nat} {q21 : Nat} {f106 : Nat → Int32} {f107 : Nat → Int32} {q157 : Nat} {q40 : Nat} {q41 : Nat} {q42 : Nat} {q43 : Nat} {q158 : Nat} {q44 : Nat} {q75 : Nat} {q45 : Nat} {q74 : Nat} {q46 : Nat} {q49 : Nat} {q168 : Nat} {q188 : Nat} {fs203 : List Value} {q189 : Nat} {q195 : Nat} {q200 : Nat} {q196 : Nat} {q197 : Nat} {q201 : Nat} {q198 : Nat} {q199 : Nat} {q190 : Nat} {q191 : Nat} {q192 : Nat} {q193 : Nat} {q194 : Nat} {q202 : Nat} {f206 : Nat → Int32} {f207 : Nat → Int32} {f210 : Nat → Int32} {f214 : Nat → Int32} {f215 : Nat → Int32} (hnc : nc ≤ 1000) (hns : ns ≤ 100000) (hcx : Cx p s m #[Value.ref b] meth c cL_law 4 ret RL meth.name g) (hX : va_X b 6 xs s s.heap) (hbl : b < s.heap.size) (hbA : ¬ A b) (hA : ∀ q : Nat, s.heap.size ≤ q → A q) (hAl : ∀ q : Nat, A q → s.heap.size ≤ q) (hf218 : fs203.length = 69) (hf219 : fs203[0]? = some (Value.ref q189)) (hf220 : fs203[11]? = some (Value.ref q195)) (hf221 : fs203[12]? = some (Value.ref q200)) (hf222 : fs203[13]? = some (Value.ref q196)) (hf223 : fs203[14]? = some (Value.ref q197)) (hf224 : fs203[15]? = some (Value.ref q201)) (hf225 : fs203[16]? = some (Value.ref q198)) (hf226 : fs203[46]? = some (Value.ref q199)) (hf227 : fs203[48]? = some (Value.ref q190)) (hf228 : fs203[51]? = some (Value.ref q191)) (hf229 : fs203[53]? = some (Value.ref q192)) (hf230 : fs203[56]? = some (Value.ref q193)) (hf231 : fs203[67]? = some (Value.ref q194)) (hf232 : fs203[68]? = some (Value.ref q202)) (hf233 : fs203[2]? = some (Value.int 0)) (hf234 : fs203[4]? = some (Value.int 0)) (hf235 : fs203[5]? = some (Value.int (-1))) (hf236 : fs203[34]? = some (Value.int 0)) (hf237 : fs203[49]? = some (Value.int 0)) (hf238 : fs203[50]? = some (Value.int 0)) (hf239 : fs203[54]? = some (Value.int 0)) (hf240 : fs203[65]? = some (Value.int 0)) (hf241 : fs203[66]? = some (Value.int 0)) (hf242 : f210 0 = 0) (hf246 : f214 20 = 0) (hf247 : f214 21 = 0) (hf248 : f214 22 = 0) (hf249 : f214 23 = 0) (hf250 : f215 0 = 0) (hP : va_P g.1 vwCl [(q1, .inr (10, [.ref q2, .int 0, .ref q3, .ref q52, .ref q73, .ref q13, .ref q67, .ref q76, .ref q11, .ref q86, .ref q84, .ref q12, .ref q85, .int 0])), (q12, .inr (4, [.ref q13, .ref q73, .ref q67, .ref q84, .ref q14, .ref q96, .ref q97, .ref q98, .ref q99, .ref q20, .ref q21, .int 0])), (q20, .inl (gI g, 5, .inl f106)), (q21, .inl (gI g, 5, .inl f107)), (q73, .inr (9, [.int 0, .int 0, .int 0, .int 0, .int 0, .ref q157, .ref q40, .ref q41, .ref q42, .ref q43, .ref q158, .ref q44, .ref q75, .ref q45, .ref q74, .ref q46, .ref q49])), (q84, .inr (3, [.ref q168, .int 0])), (q188, .inr (11, fs203)), (q191, .inl (gI g, 24, .inl f206)), (q192, .inl (gI g, 8, .inl f207)), (q195, .inl (gI g, 2, .inl f210)), (q199, .inl (gI g, 24, .inl f214)), (q200, .inl (gI g, 2, .inl f215))] H) (hD : va_D A [(q1, .inr (10, [.ref q2, .int 0, .ref q3, .ref q52, .ref q73, .ref q13, .ref q67, .ref q76, .ref q11, .ref q86, .ref q84, .ref q12, .ref q85, .int 0])), (q12, .inr (4, [.ref q13, .ref q73, .ref q67, .ref q84, .ref q14, .ref q96, .ref q97, .ref q98, .ref q99, .ref q20, .ref q21, .int 0])), (q20, .inl (gI g, 5, .inl f106)), (q21, .inl (gI g, 5, .inl f107)), (q73, .inr (9, [.int 0, .int 0, .int 0, .int 0, .int 0, .ref q157, .ref q40, .ref q41, .ref q42, .ref q43, .ref q158, .ref q44, .ref q75, .ref q45, .ref q74, .ref q46, .ref q49])), (q84, .inr (3, [.ref q168, .int 0])), (q188, .inr (11, fs203)), (q191, .inl (gI g, 24, .inl f206)), (q192, .inl (gI g, 8, .inl f207)), (q195, .inl (gI g, 2, .inl f210)), (q199, .inl (gI g, 24, .inl f214)), (q200, .inl (gI g, 2, .inl f215))]) (hS : va_S A s.heap H locs) (hl : lv_has ls 4 [(3, .int 0), (2, .ref q188), (1, .ref q1), (0, .ref b)]) : W p l e room_1 s m #[Value.ref b] below meth c H locs nc ns (lw_Z below #[Value.ref b] s) (F0 m 746 ls []) := by
  obtain ⟨hx, hb, hml, hr, hlocks, hown, hts, hE, hnm⟩ := id hcx
  have hK := hE.1
  refine lv_aload_n hx hb dL_law_746 rfl (lv_at hl 2 rfl) ?_
  refine kI (wc := [(q1, .inr (10, [.ref q2, .int 0, .ref q3, .ref q52, .ref q73, .ref q13, .ref q67, .ref q76, .ref q11, .ref q86, .ref q84, .ref q12, .ref q85, .int 0])), (q12, .inr (4, [.ref q13, .ref q73, .ref q67, .ref q84, .ref q14, .ref q96, .ref q97, .ref q98, .ref q99, .ref q20, .ref q21, .int 0])), (q84, .inr (3, [.ref q168, .int 0])), (q73, .inr (9, [.int 0, .int 0, .int 0, .int 0, .int 0, .ref q157, .ref q40, .ref q41, .ref q42, .ref q43, .ref q158, .ref q44, .ref q75, .ref q45, .ref q74, .ref q46, .ref q49])), (q20, .inl (gI g, 5, .inl f106)), (q21, .inl (gI g, 5, .inl f107))]) (wr := [(q188, .inr (11, fs203)), (q191, .inl (gI g, 24, .inl f206)), (q192, .inl (gI g, 8, .inl f207)), (q195, .inl (gI g, 2, .inl f210)), (q199, .inl (gI g, 24, .inl f214)), (q200, .inl (gI g, 2, .inl f215))]) (rV (As := []) (rest := []) (meth2 := "") hcx (c_X10_largest H.size) (gdV q49_15 q49_16 q49_17 q1_2 q49_18) dvX10_largest ⟨Nat.le_of_ble_eq_true rfl, Nat.le_of_ble_eq_true rfl⟩ (hP.sub [0, 1, 5, 4, 2, 3] rfl) (hD.sub [0, 1, 5, 4, 2, 3] (by decide) rfl) (va_recv hK hP (ci := 10) (q0 := 0) rfl rfl) rfl hl.1 rfl (Nat.le_of_ble_eq_true rfl) dL_law_747 ⟨by show _ + 0 ≤ 600000; omega, by show _ + 0 ≤ 7302250; omega⟩) hP hD hS hA [0, 1, 5, 4, 2, 3] [6, 7, 8, 9, 10, 11] rfl rfl (by decide) (by decide) (fun r W' H locs hw hP hD hS => ?_)
  obtain ⟨rfl, rfl⟩ := hw
  have hP : va_P g.1 vwCl [(q188, .inr (11, fs203)), (q191, .inl (gI g, 24, .inl f206)), (q192, .inl (gI g, 8, .inl f207)), (q195, .inl (gI g, 2, .inl f210)), (q199, .inl (gI g, 24, .inl f214)), (q200, .inl (gI g, 2, .inl f215))] H := hP
  have hD : va_D A [(q188, .inr (11, fs203)), (q191, .inl (gI g, 24, .inl f206)), (q192, .inl (gI g, 8, .inl f207)), (q195, .inl (gI g, 2, .inl f210)), (q199, .inl (gI g, 24, .inl f214)), (q200, .inl (gI g, 2, .inl f215))] := hD
  refine lv_aload_n hx hb dL_law_750 rfl (lv_at hl 1 rfl) ?_
  refine kI (wc := [(q188, .inr (11, fs203)), (q199, .inl (gI g, 24, .inl f214)), (q191, .inl (gI g, 24, .inl f206)), (q192, .inl (gI g, 8, .inl f207)), (q195, .inl (gI g, 2, .inl f210)), (q200, .inl (gI g, 2, .inl f215))]) (wr := []) (rV (As := []) (rest := [.int 0]) (meth2 := "") hcx (c_X11_largest (hf218) (hf226) (hf228) (hf229) (hf220) (hf221) (hf236) (hf246) (hf247) (hf242) (hf250) H.size) (gdV q51_10 q51_11 q51_12 q1_5 q51_13) dvX11_largest ⟨Nat.le_of_ble_eq_true rfl, Nat.le_of_ble_eq_true rfl⟩ (hP.sub [0, 4, 1, 2, 3, 5] rfl) (hD.sub [0, 4, 1, 2, 3, 5] (by decide) rfl) (va_recv hK hP (ci := 11) (q0 := 0) rfl rfl) rfl hl.1 rfl (Nat.le_of_ble_eq_true rfl) dL_law_751 ⟨by show _ + 0 ≤ 600000; omega, by show _ + 0 ≤ 7302250; omega⟩) hP hD hS hA [0, 4, 1, 2, 3, 5] [] rfl rfl (by decide) (by decide) (fun r W' H locs hw hP hD hS => ?_)
  obtain ⟨rfl, rfl⟩ := hw
  have hP : va_P g.1 vwCl [] H := hP
  have hD : va_D A [] := hD
  refine lv_icmp_eq (tgt := 1278) hx hb dL_law_754 (by decide) (fun _ => ?_) (fun c1001 => absurd (by decide) c1001)
  refine lv_iinc (v := 6) (lv' := [(3, .int 6), (2, .ref q188), (1, .ref q1), (0, .ref b)]) hx hb dL_law_1278 hl (k := 0) rfl (by decide) (by decide) rfl (fun ls hl => ?_)
  refine lv_goto (tgt := 18) hx hb dL_law_1281 (by decide) ?_
  refine lv_iload_n hx hb dL_law_18 rfl (lv_at hl 0 rfl) ?_
  refine lv_aload_n hx hb dL_law_19 rfl (lv_at hl 3 rfl) ?_
  refine va_slen hx hb hX hbl hbA hS dL_law_20 ?_
  refine lv_tope (y := 6) (by decide) ?_
  refine lv_bipush (v := 6) hx hb dL_law_21 (by decide) ?_
  refine lv_isub hx hb dL_law_23 ?_
  refine lv_tope (y := 0) (by decide) ?_
  refine lv_icmp_gt (tgt := 1284) hx hb dL_law_24 (by decide) (fun _ => ?_) (fun c1002 => absurd (by decide) c1002)
  refine lv_iconst (v := 1) hx hb dL_law_1284 (by decide) ?_
  refine va_forget (fun q hq => hAl _ (hS.2.2 q hq)) ?_
  refine W.widen (k := 600000) (n := 7302250) (by omega) (by omega) ?_
  exact lw_ret hx hb hr hlocks dL_law_1285

set_option maxHeartbeats 40000000 in
set_option maxRecDepth 100000 in
theorem lc_21 {p : Program} {l : Launch} {e : Env} {s : State} {m : MethodId} {below : List Frame} {meth : Method} {c : Code} {g : Gx} {b : Nat} {xs : Nat → Int32} {A : Nat → Prop} {H : Heap} {locs : List Loc} {ls : Array Slot} {nc ns : Nat} {q1 : Nat} {q2 : Nat} {q3 : Nat} {q52 : Nat} {q73 : Nat} {q13 : Nat} {q67 : Nat} {q76 : Nat} {q11 : Nat} {q86 : Nat} {q84 : Nat} {q12 : Nat} {q85 : Nat} {q14 : Nat} {q96 : Nat} {q97 : Nat} {q98 : Nat} {q99 : Nat} {q20 : Nat} {q21 : Nat} {q100 : Nat} {q15 : Nat} {q16 : Nat} {q17 : Nat} {q18 : Nat} {q19 : Nat} {f101 : Nat → Int32} {f102 : Nat → Int32} {f103 : Nat → Int32} {f104 : Nat → Int32} {f105 : Nat → Int32} {f106 : Nat → Int32} {f107 : Nat → Int32} {q68 : Nat} {q69 : Nat} {q70 : Nat} {q71 : Nat} {q72 : Nat} {x151 : Int32} {f152 : Nat → Int32} {f153 : Nat → Int32} {f154 : Nat → Int32} {f155 : Nat → Int32} {f156 : Nat → Int32} {q157 : Nat} {q40 : Nat} {q41 : Nat} {q42 : Nat} {q43 : Nat} {q158 : Nat} {q44 : Nat} {q75 : Nat} {q45 : Nat} {q74 : Nat} {q46 : Nat} {q49 : Nat} {q168 : Nat} {q188 : Nat} {fs203 : List Value} {q189 : Nat} {q195 : Nat} {q200 : Nat} {q196 : Nat} {q197 : Nat} {q201 : Nat} {q198 : Nat} {q199 : Nat} {q190 : Nat} {q191 : Nat} {q192 : Nat} {q193 : Nat} {q194 : Nat} {q202 : Nat} {f206 : Nat → Int32} {f207 : Nat → Int32} {f210 : Nat → Int32} {f214 : Nat → Int32} {f215 : Nat → Int32} (hnc : nc ≤ 1000) (hns : ns ≤ 100000) (hcx : Cx p s m #[Value.ref b] meth c cL_law 4 ret RL meth.name g) (hX : va_X b 6 xs s s.heap) (hbl : b < s.heap.size) (hbA : ¬ A b) (hA : ∀ q : Nat, s.heap.size ≤ q → A q) (hAl : ∀ q : Nat, A q → s.heap.size ≤ q) (hf218 : fs203.length = 69) (hf219 : fs203[0]? = some (Value.ref q189)) (hf220 : fs203[11]? = some (Value.ref q195)) (hf221 : fs203[12]? = some (Value.ref q200)) (hf222 : fs203[13]? = some (Value.ref q196)) (hf223 : fs203[14]? = some (Value.ref q197)) (hf224 : fs203[15]? = some (Value.ref q201)) (hf225 : fs203[16]? = some (Value.ref q198)) (hf226 : fs203[46]? = some (Value.ref q199)) (hf227 : fs203[48]? = some (Value.ref q190)) (hf228 : fs203[51]? = some (Value.ref q191)) (hf229 : fs203[53]? = some (Value.ref q192)) (hf230 : fs203[56]? = some (Value.ref q193)) (hf231 : fs203[67]? = some (Value.ref q194)) (hf232 : fs203[68]? = some (Value.ref q202)) (hf233 : fs203[2]? = some (Value.int 0)) (hf234 : fs203[4]? = some (Value.int 0)) (hf235 : fs203[5]? = some (Value.int (-1))) (hf236 : fs203[34]? = some (Value.int 0)) (hf237 : fs203[49]? = some (Value.int 0)) (hf238 : fs203[50]? = some (Value.int 0)) (hf239 : fs203[54]? = some (Value.int 0)) (hf240 : fs203[65]? = some (Value.int 0)) (hf241 : fs203[66]? = some (Value.int 0)) (hf242 : f210 0 = 0) (hf246 : f214 20 = 0) (hf247 : f214 21 = 0) (hf248 : f214 22 = 0) (hf249 : f214 23 = 0) (hf250 : f215 0 = 0) (hP : va_P g.1 vwCl [(q1, .inr (10, [.ref q2, .int 0, .ref q3, .ref q52, .ref q73, .ref q13, .ref q67, .ref q76, .ref q11, .ref q86, .ref q84, .ref q12, .ref q85, .int 0])), (q12, .inr (4, [.ref q13, .ref q73, .ref q67, .ref q84, .ref q14, .ref q96, .ref q97, .ref q98, .ref q99, .ref q20, .ref q21, .int 0])), (q13, .inr (0, [.ref q73, .ref q100, .int 0, .int 0])), (q14, .inr (7, [.ref q15, .ref q16, .ref q17, .ref q18, .ref q19, .int 0, .int 0, .int 0, .int 0, .int 0])), (q15, .inl (gI g, 5, .inl f101)), (q16, .inl (gI g, 5, .inl f102)), (q17, .inl (gI g, 5, .inl f103)), (q18, .inl (gI g, 5, .inl f104)), (q19, .inl (gI g, 5, .inl f105)), (q20, .inl (gI g, 5, .inl f106)), (q21, .inl (gI g, 5, .inl f107)), (q67, .inr (7, [.ref q68, .ref q69, .ref q70, .ref q71, .ref q72, .int 0, .int 0, .int 0, .int 0, .int x151])), (q68, .inl (gI g, 5, .inl f152)), (q69, .inl (gI g, 5, .inl f153)), (q70, .inl (gI g, 5, .inl f154)), (q71, .inl (gI g, 5, .inl f155)), (q72, .inl (gI g, 5, .inl f156)), (q73, .inr (9, [.int 0, .int 0, .int 0, .int 0, .int 0, .ref q157, .ref q40, .ref q41, .ref q42, .ref q43, .ref q158, .ref q44, .ref q75, .ref q45, .ref q74, .ref q46, .ref q49])), (q84, .inr (3, [.ref q168, .int 0])), (q188, .inr (11, fs203)), (q191, .inl (gI g, 24, .inl f206)), (q192, .inl (gI g, 8, .inl f207)), (q195, .inl (gI g, 2, .inl f210)), (q199, .inl (gI g, 24, .inl f214)), (q200, .inl (gI g, 2, .inl f215))] H) (hD : va_D A [(q1, .inr (10, [.ref q2, .int 0, .ref q3, .ref q52, .ref q73, .ref q13, .ref q67, .ref q76, .ref q11, .ref q86, .ref q84, .ref q12, .ref q85, .int 0])), (q12, .inr (4, [.ref q13, .ref q73, .ref q67, .ref q84, .ref q14, .ref q96, .ref q97, .ref q98, .ref q99, .ref q20, .ref q21, .int 0])), (q13, .inr (0, [.ref q73, .ref q100, .int 0, .int 0])), (q14, .inr (7, [.ref q15, .ref q16, .ref q17, .ref q18, .ref q19, .int 0, .int 0, .int 0, .int 0, .int 0])), (q15, .inl (gI g, 5, .inl f101)), (q16, .inl (gI g, 5, .inl f102)), (q17, .inl (gI g, 5, .inl f103)), (q18, .inl (gI g, 5, .inl f104)), (q19, .inl (gI g, 5, .inl f105)), (q20, .inl (gI g, 5, .inl f106)), (q21, .inl (gI g, 5, .inl f107)), (q67, .inr (7, [.ref q68, .ref q69, .ref q70, .ref q71, .ref q72, .int 0, .int 0, .int 0, .int 0, .int x151])), (q68, .inl (gI g, 5, .inl f152)), (q69, .inl (gI g, 5, .inl f153)), (q70, .inl (gI g, 5, .inl f154)), (q71, .inl (gI g, 5, .inl f155)), (q72, .inl (gI g, 5, .inl f156)), (q73, .inr (9, [.int 0, .int 0, .int 0, .int 0, .int 0, .ref q157, .ref q40, .ref q41, .ref q42, .ref q43, .ref q158, .ref q44, .ref q75, .ref q45, .ref q74, .ref q46, .ref q49])), (q84, .inr (3, [.ref q168, .int 0])), (q188, .inr (11, fs203)), (q191, .inl (gI g, 24, .inl f206)), (q192, .inl (gI g, 8, .inl f207)), (q195, .inl (gI g, 2, .inl f210)), (q199, .inl (gI g, 24, .inl f214)), (q200, .inl (gI g, 2, .inl f215))]) (hS : va_S A s.heap H locs) (hl : lv_has ls 4 [(3, .int 0), (2, .ref q188), (1, .ref q1), (0, .ref b)]) : W p l e room_1 s m #[Value.ref b] below meth c H locs nc ns (lw_Z below #[Value.ref b] s) (F0 m 759 ls []) := by
  obtain ⟨hx, hb, hml, hr, hlocks, hown, hts, hE, hnm⟩ := id hcx
  have hK := hE.1
  refine lv_aload_n hx hb dL_law_759 rfl (lv_at hl 2 rfl) ?_
  refine kI (wc := [(q1, .inr (10, [.ref q2, .int 0, .ref q3, .ref q52, .ref q73, .ref q13, .ref q67, .ref q76, .ref q11, .ref q86, .ref q84, .ref q12, .ref q85, .int 0])), (q12, .inr (4, [.ref q13, .ref q73, .ref q67, .ref q84, .ref q14, .ref q96, .ref q97, .ref q98, .ref q99, .ref q20, .ref q21, .int 0])), (q84, .inr (3, [.ref q168, .int 0])), (q73, .inr (9, [.int 0, .int 0, .int 0, .int 0, .int 0, .ref q157, .ref q40, .ref q41, .ref q42, .ref q43, .ref q158, .ref q44, .ref q75, .ref q45, .ref q74, .ref q46, .ref q49])), (q20, .inl (gI g, 5, .inl f106)), (q21, .inl (gI g, 5, .inl f107)), (q14, .inr (7, [.ref q15, .ref q16, .ref q17, .ref q18, .ref q19, .int 0, .int 0, .int 0, .int 0, .int 0])), (q15, .inl (gI g, 5, .inl f101)), (q16, .inl (gI g, 5, .inl f102)), (q17, .inl (gI g, 5, .inl f103)), (q18, .inl (gI g, 5, .inl f104)), (q19, .inl (gI g, 5, .inl f105)), (q67, .inr (7, [.ref q68, .ref q69, .ref q70, .ref q71, .ref q72, .int 0, .int 0, .int 0, .int 0, .int x151])), (q68, .inl (gI g, 5, .inl f152)), (q69, .inl (gI g, 5, .inl f153)), (q70, .inl (gI g, 5, .inl f154)), (q71, .inl (gI g, 5, .inl f155)), (q72, .inl (gI g, 5, .inl f156)), (q13, .inr (0, [.ref q73, .ref q100, .int 0, .int 0]))]) (wr := [(q188, .inr (11, fs203)), (q191, .inl (gI g, 24, .inl f206)), (q192, .inl (gI g, 8, .inl f207)), (q195, .inl (gI g, 2, .inl f210)), (q199, .inl (gI g, 24, .inl f214)), (q200, .inl (gI g, 2, .inl f215))]) (rV (As := []) (rest := []) (meth2 := "") hcx (c_X10_street H.size) (gdV q52_5 q52_6 q52_7 q1_2 q52_8) dvX10_street ⟨Nat.le_of_ble_eq_true rfl, Nat.le_of_ble_eq_true rfl⟩ (hP.sub [0, 1, 18, 17, 9, 10, 3, 4, 5, 6, 7, 8, 11, 12, 13, 14, 15, 16, 2] rfl) (hD.sub [0, 1, 18, 17, 9, 10, 3, 4, 5, 6, 7, 8, 11, 12, 13, 14, 15, 16, 2] (by decide) rfl) (va_recv hK hP (ci := 10) (q0 := 0) rfl rfl) rfl hl.1 rfl (Nat.le_of_ble_eq_true rfl) dL_law_760 ⟨by show _ + 0 ≤ 600000; omega, by show _ + 0 ≤ 7302250; omega⟩) hP hD hS hA [0, 1, 18, 17, 9, 10, 3, 4, 5, 6, 7, 8, 11, 12, 13, 14, 15, 16, 2] [19, 20, 21, 22, 23, 24] rfl rfl (by decide) (by decide) (fun r W' H locs hw hP hD hS => ?_)
  obtain ⟨rfl, rfl⟩ := hw
  have hP : va_P g.1 vwCl [(q188, .inr (11, fs203)), (q191, .inl (gI g, 24, .inl f206)), (q192, .inl (gI g, 8, .inl f207)), (q195, .inl (gI g, 2, .inl f210)), (q199, .inl (gI g, 24, .inl f214)), (q200, .inl (gI g, 2, .inl f215))] H := hP
  have hD : va_D A [(q188, .inr (11, fs203)), (q191, .inl (gI g, 24, .inl f206)), (q192, .inl (gI g, 8, .inl f207)), (q195, .inl (gI g, 2, .inl f210)), (q199, .inl (gI g, 24, .inl f214)), (q200, .inl (gI g, 2, .inl f215))] := hD
  refine lv_aload_n hx hb dL_law_763 rfl (lv_at hl 1 rfl) ?_
  refine kI (wc := [(q188, .inr (11, fs203)), (q199, .inl (gI g, 24, .inl f214)), (q191, .inl (gI g, 24, .inl f206)), (q192, .inl (gI g, 8, .inl f207)), (q195, .inl (gI g, 2, .inl f210)), (q200, .inl (gI g, 2, .inl f215))]) (wr := []) (rV (As := []) (rest := [.int 0]) (meth2 := "") hcx (c_X11_street (hf218) (hf226) (hf228) (hf229) (hf220) (hf221) (hf236) (hf246) (hf247) (hf242) (hf250) H.size) (gdV q53_9 q53_10 q53_11 q1_5 q53_12) dvX11_street ⟨Nat.le_of_ble_eq_true rfl, Nat.le_of_ble_eq_true rfl⟩ (hP.sub [0, 4, 1, 2, 3, 5] rfl) (hD.sub [0, 4, 1, 2, 3, 5] (by decide) rfl) (va_recv hK hP (ci := 11) (q0 := 0) rfl rfl) rfl hl.1 rfl (Nat.le_of_ble_eq_true rfl) dL_law_764 ⟨by show _ + 0 ≤ 600000; omega, by show _ + 0 ≤ 7302250; omega⟩) hP hD hS hA [0, 4, 1, 2, 3, 5] [] rfl rfl (by decide) (by decide) (fun r W' H locs hw hP hD hS => ?_)
  obtain ⟨rfl, rfl⟩ := hw
  have hP : va_P g.1 vwCl [] H := hP
  have hD : va_D A [] := hD
  refine lv_icmp_eq (tgt := 1278) hx hb dL_law_767 (by decide) (fun _ => ?_) (fun c1001 => absurd (by decide) c1001)
  refine lv_iinc (v := 6) (lv' := [(3, .int 6), (2, .ref q188), (1, .ref q1), (0, .ref b)]) hx hb dL_law_1278 hl (k := 0) rfl (by decide) (by decide) rfl (fun ls hl => ?_)
  refine lv_goto (tgt := 18) hx hb dL_law_1281 (by decide) ?_
  refine lv_iload_n hx hb dL_law_18 rfl (lv_at hl 0 rfl) ?_
  refine lv_aload_n hx hb dL_law_19 rfl (lv_at hl 3 rfl) ?_
  refine va_slen hx hb hX hbl hbA hS dL_law_20 ?_
  refine lv_tope (y := 6) (by decide) ?_
  refine lv_bipush (v := 6) hx hb dL_law_21 (by decide) ?_
  refine lv_isub hx hb dL_law_23 ?_
  refine lv_tope (y := 0) (by decide) ?_
  refine lv_icmp_gt (tgt := 1284) hx hb dL_law_24 (by decide) (fun _ => ?_) (fun c1002 => absurd (by decide) c1002)
  refine lv_iconst (v := 1) hx hb dL_law_1284 (by decide) ?_
  refine va_forget (fun q hq => hAl _ (hS.2.2 q hq)) ?_
  refine W.widen (k := 600000) (n := 7302250) (by omega) (by omega) ?_
  exact lw_ret hx hb hr hlocks dL_law_1285

set_option maxHeartbeats 40000000 in
set_option maxRecDepth 100000 in
theorem lc_22 {p : Program} {l : Launch} {e : Env} {s : State} {m : MethodId} {below : List Frame} {meth : Method} {c : Code} {g : Gx} {b : Nat} {xs : Nat → Int32} {A : Nat → Prop} {H : Heap} {locs : List Loc} {ls : Array Slot} {nc ns : Nat} {q1 : Nat} {q2 : Nat} {q3 : Nat} {q52 : Nat} {q73 : Nat} {q13 : Nat} {q67 : Nat} {q76 : Nat} {q11 : Nat} {q86 : Nat} {q84 : Nat} {q12 : Nat} {q85 : Nat} {q157 : Nat} {q40 : Nat} {q41 : Nat} {q42 : Nat} {q43 : Nat} {q158 : Nat} {q44 : Nat} {q75 : Nat} {q45 : Nat} {q74 : Nat} {q46 : Nat} {q49 : Nat} {q188 : Nat} {fs203 : List Value} {q189 : Nat} {q195 : Nat} {q200 : Nat} {q196 : Nat} {q197 : Nat} {q201 : Nat} {q198 : Nat} {q199 : Nat} {q190 : Nat} {q191 : Nat} {q192 : Nat} {q193 : Nat} {q194 : Nat} {q202 : Nat} {f215 : Nat → Int32} (hnc : nc ≤ 1000) (hns : ns ≤ 100000) (hcx : Cx p s m #[Value.ref b] meth c cL_law 4 ret RL meth.name g) (hX : va_X b 6 xs s s.heap) (hbl : b < s.heap.size) (hbA : ¬ A b) (hA : ∀ q : Nat, s.heap.size ≤ q → A q) (hAl : ∀ q : Nat, A q → s.heap.size ≤ q) (hf218 : fs203.length = 69) (hf219 : fs203[0]? = some (Value.ref q189)) (hf220 : fs203[11]? = some (Value.ref q195)) (hf221 : fs203[12]? = some (Value.ref q200)) (hf222 : fs203[13]? = some (Value.ref q196)) (hf223 : fs203[14]? = some (Value.ref q197)) (hf224 : fs203[15]? = some (Value.ref q201)) (hf225 : fs203[16]? = some (Value.ref q198)) (hf226 : fs203[46]? = some (Value.ref q199)) (hf227 : fs203[48]? = some (Value.ref q190)) (hf228 : fs203[51]? = some (Value.ref q191)) (hf229 : fs203[53]? = some (Value.ref q192)) (hf230 : fs203[56]? = some (Value.ref q193)) (hf231 : fs203[67]? = some (Value.ref q194)) (hf232 : fs203[68]? = some (Value.ref q202)) (hf233 : fs203[2]? = some (Value.int 0)) (hf234 : fs203[4]? = some (Value.int 0)) (hf235 : fs203[5]? = some (Value.int (-1))) (hf236 : fs203[34]? = some (Value.int 0)) (hf237 : fs203[49]? = some (Value.int 0)) (hf238 : fs203[50]? = some (Value.int 0)) (hf239 : fs203[54]? = some (Value.int 0)) (hf240 : fs203[65]? = some (Value.int 0)) (hf241 : fs203[66]? = some (Value.int 0)) (hf250 : f215 0 = 0) (hP : va_P g.1 vwCl [(q1, .inr (10, [.ref q2, .int 0, .ref q3, .ref q52, .ref q73, .ref q13, .ref q67, .ref q76, .ref q11, .ref q86, .ref q84, .ref q12, .ref q85, .int 0])), (q73, .inr (9, [.int 0, .int 0, .int 0, .int 0, .int 0, .ref q157, .ref q40, .ref q41, .ref q42, .ref q43, .ref q158, .ref q44, .ref q75, .ref q45, .ref q74, .ref q46, .ref q49])), (q188, .inr (11, fs203)), (q200, .inl (gI g, 2, .inl f215))] H) (hD : va_D A [(q1, .inr (10, [.ref q2, .int 0, .ref q3, .ref q52, .ref q73, .ref q13, .ref q67, .ref q76, .ref q11, .ref q86, .ref q84, .ref q12, .ref q85, .int 0])), (q73, .inr (9, [.int 0, .int 0, .int 0, .int 0, .int 0, .ref q157, .ref q40, .ref q41, .ref q42, .ref q43, .ref q158, .ref q44, .ref q75, .ref q45, .ref q74, .ref q46, .ref q49])), (q188, .inr (11, fs203)), (q200, .inl (gI g, 2, .inl f215))]) (hS : va_S A s.heap H locs) (hl : lv_has ls 4 [(3, .int 0), (2, .ref q188), (1, .ref q1), (0, .ref b)]) : W p l e room_1 s m #[Value.ref b] below meth c H locs nc ns (lw_Z below #[Value.ref b] s) (F0 m 772 ls []) := by
  obtain ⟨hx, hb, hml, hr, hlocks, hown, hts, hE, hnm⟩ := id hcx
  have hK := hE.1
  refine lv_aload_n hx hb dL_law_772 rfl (lv_at hl 2 rfl) ?_
  refine lv_aload_n hx hb dL_law_773 rfl (lv_at hl 3 rfl) ?_
  refine lv_iload_n hx hb dL_law_774 rfl (lv_at hl 0 rfl) ?_
  refine lv_iconst (v := 1) hx hb dL_law_775 (by decide) ?_
  refine lv_iadd hx hb dL_law_776 ?_
  refine lv_tope (y := 1) (by decide) ?_
  refine sc_ld hx hb hX hbl hbA hS 1 rfl (by decide) (by decide) dL_law_777 ?_
  refine lv_aload_n hx hb dL_law_778 rfl (lv_at hl 3 rfl) ?_
  refine lv_iload_n hx hb dL_law_779 rfl (lv_at hl 0 rfl) ?_
  refine lv_iconst (v := 2) hx hb dL_law_780 (by decide) ?_
  refine lv_iadd hx hb dL_law_781 ?_
  refine lv_tope (y := 2) (by decide) ?_
  refine sc_ld hx hb hX hbl hbA hS 2 rfl (by decide) (by decide) dL_law_782 ?_
  refine kI (wc := [(q1, .inr (10, [.ref q2, .int 0, .ref q3, .ref q52, .ref q73, .ref q13, .ref q67, .ref q76, .ref q11, .ref q86, .ref q84, .ref q12, .ref q85, .int 0])), (q73, .inr (9, [.int 0, .int 0, .int 0, .int 0, .int 0, .ref q157, .ref q40, .ref q41, .ref q42, .ref q43, .ref q158, .ref q44, .ref q75, .ref q45, .ref q74, .ref q46, .ref q49]))]) (wr := [(q188, .inr (11, fs203)), (q200, .inl (gI g, 2, .inl f215))]) (rV (As := [.int (xs 1), .int (xs 2)]) (rest := []) (meth2 := "") hcx (c_X10_host H.size) (gdV q53_20 q53_21 q53_22 q1_2 q53_23) dvX10_host ⟨Nat.le_of_ble_eq_true rfl, Nat.le_of_ble_eq_true rfl⟩ (hP.sub [0, 1] rfl) (hD.sub [0, 1] (by decide) rfl) (va_recv hK hP (ci := 10) (q0 := 0) rfl rfl) rfl hl.1 rfl (Nat.le_of_ble_eq_true rfl) dL_law_783 ⟨by show _ + 0 ≤ 600000; omega, by show _ + 0 ≤ 7302250; omega⟩) hP hD hS hA [0, 1] [2, 3] rfl rfl (by decide) (by decide) (fun r W' H locs hw hP hD hS => ?_)
  obtain ⟨rfl, rfl⟩ := hw
  have hP : va_P g.1 vwCl [(q188, .inr (11, fs203)), (q200, .inl (gI g, 2, .inl f215))] H := hP
  have hD : va_D A [(q188, .inr (11, fs203)), (q200, .inl (gI g, 2, .inl f215))] := hD
  refine lv_aload_n hx hb dL_law_786 rfl (lv_at hl 1 rfl) ?_
  refine lv_aload_n hx hb dL_law_787 rfl (lv_at hl 3 rfl) ?_
  refine lv_iload_n hx hb dL_law_788 rfl (lv_at hl 0 rfl) ?_
  refine lv_iconst (v := 1) hx hb dL_law_789 (by decide) ?_
  refine lv_iadd hx hb dL_law_790 ?_
  refine lv_tope (y := 1) (by decide) ?_
  refine sc_ld hx hb hX hbl hbA hS 1 rfl (by decide) (by decide) dL_law_791 ?_
  refine lv_aload_n hx hb dL_law_792 rfl (lv_at hl 3 rfl) ?_
  refine lv_iload_n hx hb dL_law_793 rfl (lv_at hl 0 rfl) ?_
  refine lv_iconst (v := 2) hx hb dL_law_794 (by decide) ?_
  refine lv_iadd hx hb dL_law_795 ?_
  refine lv_tope (y := 2) (by decide) ?_
  refine sc_ld hx hb hX hbl hbA hS 2 rfl (by decide) (by decide) dL_law_796 ?_
  refine kI (wc := [(q188, .inr (11, fs203)), (q200, .inl (gI g, 2, .inl f215))]) (wr := []) (rV (As := [.int (xs 1), .int (xs 2)]) (rest := [.int (-1)]) (meth2 := "") hcx (c_X11_host (hf218) (hf221) (hf236) (hf250) H.size) (gdV q54_6 q54_7 q54_8 q1_5 q54_9) dvX11_host ⟨Nat.le_of_ble_eq_true rfl, Nat.le_of_ble_eq_true rfl⟩ (hP.sub [0, 1] rfl) (hD.sub [0, 1] (by decide) rfl) (va_recv hK hP (ci := 11) (q0 := 0) rfl rfl) rfl hl.1 rfl (Nat.le_of_ble_eq_true rfl) dL_law_797 ⟨by show _ + 0 ≤ 600000; omega, by show _ + 0 ≤ 7302250; omega⟩) hP hD hS hA [0, 1] [] rfl rfl (by decide) (by decide) (fun r W' H locs hw hP hD hS => ?_)
  obtain ⟨rfl, rfl⟩ := hw
  have hP : va_P g.1 vwCl [] H := hP
  have hD : va_D A [] := hD
  refine lv_icmp_eq (tgt := 1278) hx hb dL_law_800 (by decide) (fun _ => ?_) (fun c1001 => absurd (by decide) c1001)
  refine lv_iinc (v := 6) (lv' := [(3, .int 6), (2, .ref q188), (1, .ref q1), (0, .ref b)]) hx hb dL_law_1278 hl (k := 0) rfl (by decide) (by decide) rfl (fun ls hl => ?_)
  refine lv_goto (tgt := 18) hx hb dL_law_1281 (by decide) ?_
  refine lv_iload_n hx hb dL_law_18 rfl (lv_at hl 0 rfl) ?_
  refine lv_aload_n hx hb dL_law_19 rfl (lv_at hl 3 rfl) ?_
  refine va_slen hx hb hX hbl hbA hS dL_law_20 ?_
  refine lv_tope (y := 6) (by decide) ?_
  refine lv_bipush (v := 6) hx hb dL_law_21 (by decide) ?_
  refine lv_isub hx hb dL_law_23 ?_
  refine lv_tope (y := 0) (by decide) ?_
  refine lv_icmp_gt (tgt := 1284) hx hb dL_law_24 (by decide) (fun _ => ?_) (fun c1002 => absurd (by decide) c1002)
  refine lv_iconst (v := 1) hx hb dL_law_1284 (by decide) ?_
  refine va_forget (fun q hq => hAl _ (hS.2.2 q hq)) ?_
  refine W.widen (k := 600000) (n := 7302250) (by omega) (by omega) ?_
  exact lw_ret hx hb hr hlocks dL_law_1285

set_option maxHeartbeats 40000000 in
set_option maxRecDepth 100000 in
theorem lc_23 {p : Program} {l : Launch} {e : Env} {s : State} {m : MethodId} {below : List Frame} {meth : Method} {c : Code} {g : Gx} {b : Nat} {xs : Nat → Int32} {A : Nat → Prop} {H : Heap} {locs : List Loc} {ls : Array Slot} {nc ns : Nat} {q1 : Nat} {q2 : Nat} {q3 : Nat} {q52 : Nat} {q73 : Nat} {q13 : Nat} {q67 : Nat} {q76 : Nat} {q11 : Nat} {q86 : Nat} {q84 : Nat} {q12 : Nat} {q85 : Nat} {q157 : Nat} {q40 : Nat} {q41 : Nat} {q42 : Nat} {q43 : Nat} {q158 : Nat} {q44 : Nat} {q75 : Nat} {q45 : Nat} {q74 : Nat} {q46 : Nat} {q49 : Nat} {q168 : Nat} {q188 : Nat} {fs203 : List Value} {q189 : Nat} {q195 : Nat} {q200 : Nat} {q196 : Nat} {q197 : Nat} {q201 : Nat} {q198 : Nat} {q199 : Nat} {q190 : Nat} {q191 : Nat} {q192 : Nat} {q193 : Nat} {q194 : Nat} {q202 : Nat} {f215 : Nat → Int32} (hnc : nc ≤ 1000) (hns : ns ≤ 100000) (hcx : Cx p s m #[Value.ref b] meth c cL_law 4 ret RL meth.name g) (hX : va_X b 6 xs s s.heap) (hbl : b < s.heap.size) (hbA : ¬ A b) (hA : ∀ q : Nat, s.heap.size ≤ q → A q) (hAl : ∀ q : Nat, A q → s.heap.size ≤ q) (hf218 : fs203.length = 69) (hf219 : fs203[0]? = some (Value.ref q189)) (hf220 : fs203[11]? = some (Value.ref q195)) (hf221 : fs203[12]? = some (Value.ref q200)) (hf222 : fs203[13]? = some (Value.ref q196)) (hf223 : fs203[14]? = some (Value.ref q197)) (hf224 : fs203[15]? = some (Value.ref q201)) (hf225 : fs203[16]? = some (Value.ref q198)) (hf226 : fs203[46]? = some (Value.ref q199)) (hf227 : fs203[48]? = some (Value.ref q190)) (hf228 : fs203[51]? = some (Value.ref q191)) (hf229 : fs203[53]? = some (Value.ref q192)) (hf230 : fs203[56]? = some (Value.ref q193)) (hf231 : fs203[67]? = some (Value.ref q194)) (hf232 : fs203[68]? = some (Value.ref q202)) (hf233 : fs203[2]? = some (Value.int 0)) (hf234 : fs203[4]? = some (Value.int 0)) (hf235 : fs203[5]? = some (Value.int (-1))) (hf236 : fs203[34]? = some (Value.int 0)) (hf237 : fs203[49]? = some (Value.int 0)) (hf238 : fs203[50]? = some (Value.int 0)) (hf239 : fs203[54]? = some (Value.int 0)) (hf240 : fs203[65]? = some (Value.int 0)) (hf241 : fs203[66]? = some (Value.int 0)) (hf250 : f215 0 = 0) (hP : va_P g.1 vwCl [(q1, .inr (10, [.ref q2, .int 0, .ref q3, .ref q52, .ref q73, .ref q13, .ref q67, .ref q76, .ref q11, .ref q86, .ref q84, .ref q12, .ref q85, .int 0])), (q73, .inr (9, [.int 0, .int 0, .int 0, .int 0, .int 0, .ref q157, .ref q40, .ref q41, .ref q42, .ref q43, .ref q158, .ref q44, .ref q75, .ref q45, .ref q74, .ref q46, .ref q49])), (q84, .inr (3, [.ref q168, .int 0])), (q188, .inr (11, fs203)), (q200, .inl (gI g, 2, .inl f215))] H) (hD : va_D A [(q1, .inr (10, [.ref q2, .int 0, .ref q3, .ref q52, .ref q73, .ref q13, .ref q67, .ref q76, .ref q11, .ref q86, .ref q84, .ref q12, .ref q85, .int 0])), (q73, .inr (9, [.int 0, .int 0, .int 0, .int 0, .int 0, .ref q157, .ref q40, .ref q41, .ref q42, .ref q43, .ref q158, .ref q44, .ref q75, .ref q45, .ref q74, .ref q46, .ref q49])), (q84, .inr (3, [.ref q168, .int 0])), (q188, .inr (11, fs203)), (q200, .inl (gI g, 2, .inl f215))]) (hS : va_S A s.heap H locs) (hl : lv_has ls 4 [(3, .int 0), (2, .ref q188), (1, .ref q1), (0, .ref b)]) : W p l e room_1 s m #[Value.ref b] below meth c H locs nc ns (lw_Z below #[Value.ref b] s) (F0 m 805 ls []) := by
  obtain ⟨hx, hb, hml, hr, hlocks, hown, hts, hE, hnm⟩ := id hcx
  have hK := hE.1
  refine lv_aload_n hx hb dL_law_805 rfl (lv_at hl 2 rfl) ?_
  refine lv_aload_n hx hb dL_law_806 rfl (lv_at hl 3 rfl) ?_
  refine lv_iload_n hx hb dL_law_807 rfl (lv_at hl 0 rfl) ?_
  refine lv_iconst (v := 1) hx hb dL_law_808 (by decide) ?_
  refine lv_iadd hx hb dL_law_809 ?_
  refine lv_tope (y := 1) (by decide) ?_
  refine sc_ld hx hb hX hbl hbA hS 1 rfl (by decide) (by decide) dL_law_810 ?_
  refine lv_aload_n hx hb dL_law_811 rfl (lv_at hl 3 rfl) ?_
  refine lv_iload_n hx hb dL_law_812 rfl (lv_at hl 0 rfl) ?_
  refine lv_iconst (v := 2) hx hb dL_law_813 (by decide) ?_
  refine lv_iadd hx hb dL_law_814 ?_
  refine lv_tope (y := 2) (by decide) ?_
  refine sc_ld hx hb hX hbl hbA hS 2 rfl (by decide) (by decide) dL_law_815 ?_
  refine kI (wc := [(q1, .inr (10, [.ref q2, .int 0, .ref q3, .ref q52, .ref q73, .ref q13, .ref q67, .ref q76, .ref q11, .ref q86, .ref q84, .ref q12, .ref q85, .int 0])), (q73, .inr (9, [.int 0, .int 0, .int 0, .int 0, .int 0, .ref q157, .ref q40, .ref q41, .ref q42, .ref q43, .ref q158, .ref q44, .ref q75, .ref q45, .ref q74, .ref q46, .ref q49])), (q84, .inr (3, [.ref q168, .int 0]))]) (wr := [(q188, .inr (11, fs203)), (q200, .inl (gI g, 2, .inl f215))]) (rV (As := [.int (xs 1), .int (xs 2)]) (rest := []) (meth2 := "") hcx (c_X10_rivals H.size) (gdV q54_10 q54_11 q54_12 q1_2 q54_13) dvX10_rivals ⟨Nat.le_of_ble_eq_true rfl, Nat.le_of_ble_eq_true rfl⟩ (hP.sub [0, 1, 2] rfl) (hD.sub [0, 1, 2] (by decide) rfl) (va_recv hK hP (ci := 10) (q0 := 0) rfl rfl) rfl hl.1 rfl (Nat.le_of_ble_eq_true rfl) dL_law_816 ⟨by show _ + 0 ≤ 600000; omega, by show _ + 0 ≤ 7302250; omega⟩) hP hD hS hA [0, 1, 2] [3, 4] rfl rfl (by decide) (by decide) (fun r W' H locs hw hP hD hS => ?_)
  obtain ⟨rfl, rfl⟩ := hw
  have hP : va_P g.1 vwCl [(q188, .inr (11, fs203)), (q200, .inl (gI g, 2, .inl f215))] H := hP
  have hD : va_D A [(q188, .inr (11, fs203)), (q200, .inl (gI g, 2, .inl f215))] := hD
  refine lv_aload_n hx hb dL_law_819 rfl (lv_at hl 1 rfl) ?_
  refine lv_aload_n hx hb dL_law_820 rfl (lv_at hl 3 rfl) ?_
  refine lv_iload_n hx hb dL_law_821 rfl (lv_at hl 0 rfl) ?_
  refine lv_iconst (v := 1) hx hb dL_law_822 (by decide) ?_
  refine lv_iadd hx hb dL_law_823 ?_
  refine lv_tope (y := 1) (by decide) ?_
  refine sc_ld hx hb hX hbl hbA hS 1 rfl (by decide) (by decide) dL_law_824 ?_
  refine lv_aload_n hx hb dL_law_825 rfl (lv_at hl 3 rfl) ?_
  refine lv_iload_n hx hb dL_law_826 rfl (lv_at hl 0 rfl) ?_
  refine lv_iconst (v := 2) hx hb dL_law_827 (by decide) ?_
  refine lv_iadd hx hb dL_law_828 ?_
  refine lv_tope (y := 2) (by decide) ?_
  refine sc_ld hx hb hX hbl hbA hS 2 rfl (by decide) (by decide) dL_law_829 ?_
  refine kI (wc := [(q188, .inr (11, fs203)), (q200, .inl (gI g, 2, .inl f215))]) (wr := []) (rV (As := [.int (xs 1), .int (xs 2)]) (rest := [.int (-1)]) (meth2 := "") hcx (c_X11_rivals (hf218) (hf221) (hf236) (hf250) H.size) (gdV q55_6 q55_7 q55_8 q1_5 q55_9) dvX11_rivals ⟨Nat.le_of_ble_eq_true rfl, Nat.le_of_ble_eq_true rfl⟩ (hP.sub [0, 1] rfl) (hD.sub [0, 1] (by decide) rfl) (va_recv hK hP (ci := 11) (q0 := 0) rfl rfl) rfl hl.1 rfl (Nat.le_of_ble_eq_true rfl) dL_law_830 ⟨by show _ + 0 ≤ 600000; omega, by show _ + 0 ≤ 7302250; omega⟩) hP hD hS hA [0, 1] [] rfl rfl (by decide) (by decide) (fun r W' H locs hw hP hD hS => ?_)
  obtain ⟨rfl, rfl⟩ := hw
  have hP : va_P g.1 vwCl [] H := hP
  have hD : va_D A [] := hD
  refine lv_icmp_eq (tgt := 1278) hx hb dL_law_833 (by decide) (fun _ => ?_) (fun c1001 => absurd (by decide) c1001)
  refine lv_iinc (v := 6) (lv' := [(3, .int 6), (2, .ref q188), (1, .ref q1), (0, .ref b)]) hx hb dL_law_1278 hl (k := 0) rfl (by decide) (by decide) rfl (fun ls hl => ?_)
  refine lv_goto (tgt := 18) hx hb dL_law_1281 (by decide) ?_
  refine lv_iload_n hx hb dL_law_18 rfl (lv_at hl 0 rfl) ?_
  refine lv_aload_n hx hb dL_law_19 rfl (lv_at hl 3 rfl) ?_
  refine va_slen hx hb hX hbl hbA hS dL_law_20 ?_
  refine lv_tope (y := 6) (by decide) ?_
  refine lv_bipush (v := 6) hx hb dL_law_21 (by decide) ?_
  refine lv_isub hx hb dL_law_23 ?_
  refine lv_tope (y := 0) (by decide) ?_
  refine lv_icmp_gt (tgt := 1284) hx hb dL_law_24 (by decide) (fun _ => ?_) (fun c1002 => absurd (by decide) c1002)
  refine lv_iconst (v := 1) hx hb dL_law_1284 (by decide) ?_
  refine va_forget (fun q hq => hAl _ (hS.2.2 q hq)) ?_
  refine W.widen (k := 600000) (n := 7302250) (by omega) (by omega) ?_
  exact lw_ret hx hb hr hlocks dL_law_1285

set_option maxHeartbeats 40000000 in
set_option maxRecDepth 100000 in
theorem lc_24 {p : Program} {l : Launch} {e : Env} {s : State} {m : MethodId} {below : List Frame} {meth : Method} {c : Code} {g : Gx} {b : Nat} {xs : Nat → Int32} {A : Nat → Prop} {H : Heap} {locs : List Loc} {ls : Array Slot} {nc ns : Nat} {q1 : Nat} {q2 : Nat} {q3 : Nat} {q52 : Nat} {q73 : Nat} {q13 : Nat} {q67 : Nat} {q76 : Nat} {q11 : Nat} {q86 : Nat} {q84 : Nat} {q12 : Nat} {q85 : Nat} {q14 : Nat} {q96 : Nat} {q97 : Nat} {q98 : Nat} {q99 : Nat} {q20 : Nat} {q21 : Nat} {f106 : Nat → Int32} {f107 : Nat → Int32} {q157 : Nat} {q40 : Nat} {q41 : Nat} {q42 : Nat} {q43 : Nat} {q158 : Nat} {q44 : Nat} {q75 : Nat} {q45 : Nat} {q74 : Nat} {q46 : Nat} {q49 : Nat} {q168 : Nat} {q188 : Nat} {fs203 : List Value} {q189 : Nat} {q195 : Nat} {q200 : Nat} {q196 : Nat} {q197 : Nat} {q201 : Nat} {q198 : Nat} {q199 : Nat} {q190 : Nat} {q191 : Nat} {q192 : Nat} {q193 : Nat} {q194 : Nat} {q202 : Nat} {f208 : Nat → Int32} {f215 : Nat → Int32} (hnc : nc ≤ 1000) (hns : ns ≤ 100000) (hcx : Cx p s m #[Value.ref b] meth c cL_law 4 ret RL meth.name g) (hX : va_X b 6 xs s s.heap) (hbl : b < s.heap.size) (hbA : ¬ A b) (hA : ∀ q : Nat, s.heap.size ≤ q → A q) (hAl : ∀ q : Nat, A q → s.heap.size ≤ q) (hf218 : fs203.length = 69) (hf219 : fs203[0]? = some (Value.ref q189)) (hf220 : fs203[11]? = some (Value.ref q195)) (hf221 : fs203[12]? = some (Value.ref q200)) (hf222 : fs203[13]? = some (Value.ref q196)) (hf223 : fs203[14]? = some (Value.ref q197)) (hf224 : fs203[15]? = some (Value.ref q201)) (hf225 : fs203[16]? = some (Value.ref q198)) (hf226 : fs203[46]? = some (Value.ref q199)) (hf227 : fs203[48]? = some (Value.ref q190)) (hf228 : fs203[51]? = some (Value.ref q191)) (hf229 : fs203[53]? = some (Value.ref q192)) (hf230 : fs203[56]? = some (Value.ref q193)) (hf231 : fs203[67]? = some (Value.ref q194)) (hf232 : fs203[68]? = some (Value.ref q202)) (hf233 : fs203[2]? = some (Value.int 0)) (hf234 : fs203[4]? = some (Value.int 0)) (hf235 : fs203[5]? = some (Value.int (-1))) (hf236 : fs203[34]? = some (Value.int 0)) (hf237 : fs203[49]? = some (Value.int 0)) (hf238 : fs203[50]? = some (Value.int 0)) (hf239 : fs203[54]? = some (Value.int 0)) (hf240 : fs203[65]? = some (Value.int 0)) (hf241 : fs203[66]? = some (Value.int 0)) (hf250 : f215 0 = 0) (hP : va_P g.1 vwCl [(q1, .inr (10, [.ref q2, .int 0, .ref q3, .ref q52, .ref q73, .ref q13, .ref q67, .ref q76, .ref q11, .ref q86, .ref q84, .ref q12, .ref q85, .int 0])), (q12, .inr (4, [.ref q13, .ref q73, .ref q67, .ref q84, .ref q14, .ref q96, .ref q97, .ref q98, .ref q99, .ref q20, .ref q21, .int 0])), (q20, .inl (gI g, 5, .inl f106)), (q21, .inl (gI g, 5, .inl f107)), (q73, .inr (9, [.int 0, .int 0, .int 0, .int 0, .int 0, .ref q157, .ref q40, .ref q41, .ref q42, .ref q43, .ref q158, .ref q44, .ref q75, .ref q45, .ref q74, .ref q46, .ref q49])), (q84, .inr (3, [.ref q168, .int 0])), (q188, .inr (11, fs203)), (q193, .inl (gI g, 32, .inl f208)), (q200, .inl (gI g, 2, .inl f215))] H) (hD : va_D A [(q1, .inr (10, [.ref q2, .int 0, .ref q3, .ref q52, .ref q73, .ref q13, .ref q67, .ref q76, .ref q11, .ref q86, .ref q84, .ref q12, .ref q85, .int 0])), (q12, .inr (4, [.ref q13, .ref q73, .ref q67, .ref q84, .ref q14, .ref q96, .ref q97, .ref q98, .ref q99, .ref q20, .ref q21, .int 0])), (q20, .inl (gI g, 5, .inl f106)), (q21, .inl (gI g, 5, .inl f107)), (q73, .inr (9, [.int 0, .int 0, .int 0, .int 0, .int 0, .ref q157, .ref q40, .ref q41, .ref q42, .ref q43, .ref q158, .ref q44, .ref q75, .ref q45, .ref q74, .ref q46, .ref q49])), (q84, .inr (3, [.ref q168, .int 0])), (q188, .inr (11, fs203)), (q193, .inl (gI g, 32, .inl f208)), (q200, .inl (gI g, 2, .inl f215))]) (hS : va_S A s.heap H locs) (hl : lv_has ls 4 [(3, .int 0), (2, .ref q188), (1, .ref q1), (0, .ref b)]) : W p l e room_1 s m #[Value.ref b] below meth c H locs nc ns (lw_Z below #[Value.ref b] s) (F0 m 838 ls []) := by
  obtain ⟨hx, hb, hml, hr, hlocks, hown, hts, hE, hnm⟩ := id hcx
  have hK := hE.1
  refine lv_aload_n hx hb dL_law_838 rfl (lv_at hl 2 rfl) ?_
  refine kI (wc := [(q1, .inr (10, [.ref q2, .int 0, .ref q3, .ref q52, .ref q73, .ref q13, .ref q67, .ref q76, .ref q11, .ref q86, .ref q84, .ref q12, .ref q85, .int 0])), (q12, .inr (4, [.ref q13, .ref q73, .ref q67, .ref q84, .ref q14, .ref q96, .ref q97, .ref q98, .ref q99, .ref q20, .ref q21, .int 0])), (q84, .inr (3, [.ref q168, .int 0])), (q73, .inr (9, [.int 0, .int 0, .int 0, .int 0, .int 0, .ref q157, .ref q40, .ref q41, .ref q42, .ref q43, .ref q158, .ref q44, .ref q75, .ref q45, .ref q74, .ref q46, .ref q49])), (q20, .inl (gI g, 5, .inl f106)), (q21, .inl (gI g, 5, .inl f107))]) (wr := [(q188, .inr (11, fs203)), (q193, .inl (gI g, 32, .inl f208)), (q200, .inl (gI g, 2, .inl f215))]) (rV (As := []) (rest := []) (meth2 := "") hcx (c_X10_pairs H.size) (gdV q55_18 q55_19 q55_20 q1_2 q55_21) dvX10_pairs ⟨Nat.le_of_ble_eq_true rfl, Nat.le_of_ble_eq_true rfl⟩ (hP.sub [0, 1, 5, 4, 2, 3] rfl) (hD.sub [0, 1, 5, 4, 2, 3] (by decide) rfl) (va_recv hK hP (ci := 10) (q0 := 0) rfl rfl) rfl hl.1 rfl (Nat.le_of_ble_eq_true rfl) dL_law_839 ⟨by show _ + 0 ≤ 600000; omega, by show _ + 0 ≤ 7302250; omega⟩) hP hD hS hA [0, 1, 5, 4, 2, 3] [6, 7, 8] rfl rfl (by decide) (by decide) (fun r W' H locs hw hP hD hS => ?_)
  obtain ⟨rfl, rfl⟩ := hw
  have hP : va_P g.1 vwCl [(q188, .inr (11, fs203)), (q193, .inl (gI g, 32, .inl f208)), (q200, .inl (gI g, 2, .inl f215))] H := hP
  have hD : va_D A [(q188, .inr (11, fs203)), (q193, .inl (gI g, 32, .inl f208)), (q200, .inl (gI g, 2, .inl f215))] := hD
  refine lv_aload_n hx hb dL_law_842 rfl (lv_at hl 1 rfl) ?_
  refine kI (wc := [(q188, .inr (11, fs203)), (q200, .inl (gI g, 2, .inl f215)), (q193, .inl (gI g, 32, .inl f208))]) (wr := []) (rV (As := []) (rest := [.int 0]) (meth2 := "") hcx (c_X11_pairs (hf218) (hf230) (hf221) (hf236) (hf250) H.size) (gdV q56_10 q56_11 q56_12 q1_5 q56_13) dvX11_pairs ⟨Nat.le_of_ble_eq_true rfl, Nat.le_of_ble_eq_true rfl⟩ (hP.sub [0, 2, 1] rfl) (hD.sub [0, 2, 1] (by decide) rfl) (va_recv hK hP (ci := 11) (q0 := 0) rfl rfl) rfl hl.1 rfl (Nat.le_of_ble_eq_true rfl) dL_law_843 ⟨by show _ + 0 ≤ 600000; omega, by show _ + 0 ≤ 7302250; omega⟩) hP hD hS hA [0, 2, 1] [] rfl rfl (by decide) (by decide) (fun r W' H locs hw hP hD hS => ?_)
  obtain ⟨rfl, rfl⟩ := hw
  have hP : va_P g.1 vwCl [] H := hP
  have hD : va_D A [] := hD
  refine lv_icmp_eq (tgt := 1278) hx hb dL_law_846 (by decide) (fun _ => ?_) (fun c1001 => absurd (by decide) c1001)
  refine lv_iinc (v := 6) (lv' := [(3, .int 6), (2, .ref q188), (1, .ref q1), (0, .ref b)]) hx hb dL_law_1278 hl (k := 0) rfl (by decide) (by decide) rfl (fun ls hl => ?_)
  refine lv_goto (tgt := 18) hx hb dL_law_1281 (by decide) ?_
  refine lv_iload_n hx hb dL_law_18 rfl (lv_at hl 0 rfl) ?_
  refine lv_aload_n hx hb dL_law_19 rfl (lv_at hl 3 rfl) ?_
  refine va_slen hx hb hX hbl hbA hS dL_law_20 ?_
  refine lv_tope (y := 6) (by decide) ?_
  refine lv_bipush (v := 6) hx hb dL_law_21 (by decide) ?_
  refine lv_isub hx hb dL_law_23 ?_
  refine lv_tope (y := 0) (by decide) ?_
  refine lv_icmp_gt (tgt := 1284) hx hb dL_law_24 (by decide) (fun _ => ?_) (fun c1002 => absurd (by decide) c1002)
  refine lv_iconst (v := 1) hx hb dL_law_1284 (by decide) ?_
  refine va_forget (fun q hq => hAl _ (hS.2.2 q hq)) ?_
  refine W.widen (k := 600000) (n := 7302250) (by omega) (by omega) ?_
  exact lw_ret hx hb hr hlocks dL_law_1285

set_option maxHeartbeats 40000000 in
set_option maxRecDepth 100000 in
theorem lc_25 {p : Program} {l : Launch} {e : Env} {s : State} {m : MethodId} {below : List Frame} {meth : Method} {c : Code} {g : Gx} {b : Nat} {xs : Nat → Int32} {A : Nat → Prop} {H : Heap} {locs : List Loc} {ls : Array Slot} {nc ns : Nat} {q1 : Nat} {q2 : Nat} {q3 : Nat} {q52 : Nat} {q73 : Nat} {q13 : Nat} {q67 : Nat} {q76 : Nat} {q11 : Nat} {q86 : Nat} {q84 : Nat} {q12 : Nat} {q85 : Nat} {q157 : Nat} {q40 : Nat} {q41 : Nat} {q42 : Nat} {q43 : Nat} {q158 : Nat} {q44 : Nat} {q75 : Nat} {q45 : Nat} {q74 : Nat} {q46 : Nat} {q49 : Nat} {q188 : Nat} {fs203 : List Value} {q189 : Nat} {q195 : Nat} {q200 : Nat} {q196 : Nat} {q197 : Nat} {q201 : Nat} {q198 : Nat} {q199 : Nat} {q190 : Nat} {q191 : Nat} {q192 : Nat} {q193 : Nat} {q194 : Nat} {q202 : Nat} {f215 : Nat → Int32} (hnc : nc ≤ 1000) (hns : ns ≤ 100000) (hcx : Cx p s m #[Value.ref b] meth c cL_law 4 ret RL meth.name g) (hX : va_X b 6 xs s s.heap) (hbl : b < s.heap.size) (hbA : ¬ A b) (hA : ∀ q : Nat, s.heap.size ≤ q → A q) (hAl : ∀ q : Nat, A q → s.heap.size ≤ q) (hf218 : fs203.length = 69) (hf219 : fs203[0]? = some (Value.ref q189)) (hf220 : fs203[11]? = some (Value.ref q195)) (hf221 : fs203[12]? = some (Value.ref q200)) (hf222 : fs203[13]? = some (Value.ref q196)) (hf223 : fs203[14]? = some (Value.ref q197)) (hf224 : fs203[15]? = some (Value.ref q201)) (hf225 : fs203[16]? = some (Value.ref q198)) (hf226 : fs203[46]? = some (Value.ref q199)) (hf227 : fs203[48]? = some (Value.ref q190)) (hf228 : fs203[51]? = some (Value.ref q191)) (hf229 : fs203[53]? = some (Value.ref q192)) (hf230 : fs203[56]? = some (Value.ref q193)) (hf231 : fs203[67]? = some (Value.ref q194)) (hf232 : fs203[68]? = some (Value.ref q202)) (hf233 : fs203[2]? = some (Value.int 0)) (hf234 : fs203[4]? = some (Value.int 0)) (hf235 : fs203[5]? = some (Value.int (-1))) (hf236 : fs203[34]? = some (Value.int 0)) (hf237 : fs203[49]? = some (Value.int 0)) (hf238 : fs203[50]? = some (Value.int 0)) (hf239 : fs203[54]? = some (Value.int 0)) (hf240 : fs203[65]? = some (Value.int 0)) (hf241 : fs203[66]? = some (Value.int 0)) (hf250 : f215 0 = 0) (hP : va_P g.1 vwCl [(q1, .inr (10, [.ref q2, .int 0, .ref q3, .ref q52, .ref q73, .ref q13, .ref q67, .ref q76, .ref q11, .ref q86, .ref q84, .ref q12, .ref q85, .int 0])), (q73, .inr (9, [.int 0, .int 0, .int 0, .int 0, .int 0, .ref q157, .ref q40, .ref q41, .ref q42, .ref q43, .ref q158, .ref q44, .ref q75, .ref q45, .ref q74, .ref q46, .ref q49])), (q188, .inr (11, fs203)), (q200, .inl (gI g, 2, .inl f215))] H) (hD : va_D A [(q1, .inr (10, [.ref q2, .int 0, .ref q3, .ref q52, .ref q73, .ref q13, .ref q67, .ref q76, .ref q11, .ref q86, .ref q84, .ref q12, .ref q85, .int 0])), (q73, .inr (9, [.int 0, .int 0, .int 0, .int 0, .int 0, .ref q157, .ref q40, .ref q41, .ref q42, .ref q43, .ref q158, .ref q44, .ref q75, .ref q45, .ref q74, .ref q46, .ref q49])), (q188, .inr (11, fs203)), (q200, .inl (gI g, 2, .inl f215))]) (hS : va_S A s.heap H locs) (hl : lv_has ls 4 [(3, .int 0), (2, .ref q188), (1, .ref q1), (0, .ref b)]) : W p l e room_1 s m #[Value.ref b] below meth c H locs nc ns (lw_Z below #[Value.ref b] s) (F0 m 851 ls []) := by
  obtain ⟨hx, hb, hml, hr, hlocks, hown, hts, hE, hnm⟩ := id hcx
  have hK := hE.1
  refine lv_aload_n hx hb dL_law_851 rfl (lv_at hl 2 rfl) ?_
  refine lv_aload_n hx hb dL_law_852 rfl (lv_at hl 3 rfl) ?_
  refine lv_iload_n hx hb dL_law_853 rfl (lv_at hl 0 rfl) ?_
  refine lv_iconst (v := 1) hx hb dL_law_854 (by decide) ?_
  refine lv_iadd hx hb dL_law_855 ?_
  refine lv_tope (y := 1) (by decide) ?_
  refine sc_ld hx hb hX hbl hbA hS 1 rfl (by decide) (by decide) dL_law_856 ?_
  refine kI (wc := [(q1, .inr (10, [.ref q2, .int 0, .ref q3, .ref q52, .ref q73, .ref q13, .ref q67, .ref q76, .ref q11, .ref q86, .ref q84, .ref q12, .ref q85, .int 0])), (q73, .inr (9, [.int 0, .int 0, .int 0, .int 0, .int 0, .ref q157, .ref q40, .ref q41, .ref q42, .ref q43, .ref q158, .ref q44, .ref q75, .ref q45, .ref q74, .ref q46, .ref q49]))]) (wr := [(q188, .inr (11, fs203)), (q200, .inl (gI g, 2, .inl f215))]) (rV (As := [.int (xs 1)]) (rest := []) (meth2 := "") hcx (c_X10_need H.size) (gdV q56_18 q56_19 q56_20 q1_2 q56_21) dvX10_need ⟨Nat.le_of_ble_eq_true rfl, Nat.le_of_ble_eq_true rfl⟩ (hP.sub [0, 1] rfl) (hD.sub [0, 1] (by decide) rfl) (va_recv hK hP (ci := 10) (q0 := 0) rfl rfl) rfl hl.1 rfl (Nat.le_of_ble_eq_true rfl) dL_law_857 ⟨by show _ + 0 ≤ 600000; omega, by show _ + 0 ≤ 7302250; omega⟩) hP hD hS hA [0, 1] [2, 3] rfl rfl (by decide) (by decide) (fun r W' H locs hw hP hD hS => ?_)
  obtain ⟨rfl, rfl⟩ := hw
  have hP : va_P g.1 vwCl [(q188, .inr (11, fs203)), (q200, .inl (gI g, 2, .inl f215))] H := hP
  have hD : va_D A [(q188, .inr (11, fs203)), (q200, .inl (gI g, 2, .inl f215))] := hD
  refine lv_aload_n hx hb dL_law_860 rfl (lv_at hl 1 rfl) ?_
  refine lv_aload_n hx hb dL_law_861 rfl (lv_at hl 3 rfl) ?_
  refine lv_iload_n hx hb dL_law_862 rfl (lv_at hl 0 rfl) ?_
  refine lv_iconst (v := 1) hx hb dL_law_863 (by decide) ?_
  refine lv_iadd hx hb dL_law_864 ?_
  refine lv_tope (y := 1) (by decide) ?_
  refine sc_ld hx hb hX hbl hbA hS 1 rfl (by decide) (by decide) dL_law_865 ?_
  refine kI (wc := [(q188, .inr (11, fs203)), (q200, .inl (gI g, 2, .inl f215))]) (wr := []) (rV (As := [.int (xs 1)]) (rest := [.int (-1)]) (meth2 := "") hcx (c_X11_need (hf218) (hf221) (hf236) (hf250) H.size) (gdV q57_3 q57_4 q57_5 q1_5 q57_6) dvX11_need ⟨Nat.le_of_ble_eq_true rfl, Nat.le_of_ble_eq_true rfl⟩ (hP.sub [0, 1] rfl) (hD.sub [0, 1] (by decide) rfl) (va_recv hK hP (ci := 11) (q0 := 0) rfl rfl) rfl hl.1 rfl (Nat.le_of_ble_eq_true rfl) dL_law_866 ⟨by show _ + 0 ≤ 600000; omega, by show _ + 0 ≤ 7302250; omega⟩) hP hD hS hA [0, 1] [] rfl rfl (by decide) (by decide) (fun r W' H locs hw hP hD hS => ?_)
  obtain ⟨rfl, rfl⟩ := hw
  have hP : va_P g.1 vwCl [] H := hP
  have hD : va_D A [] := hD
  refine lv_icmp_eq (tgt := 1278) hx hb dL_law_869 (by decide) (fun _ => ?_) (fun c1001 => absurd (by decide) c1001)
  refine lv_iinc (v := 6) (lv' := [(3, .int 6), (2, .ref q188), (1, .ref q1), (0, .ref b)]) hx hb dL_law_1278 hl (k := 0) rfl (by decide) (by decide) rfl (fun ls hl => ?_)
  refine lv_goto (tgt := 18) hx hb dL_law_1281 (by decide) ?_
  refine lv_iload_n hx hb dL_law_18 rfl (lv_at hl 0 rfl) ?_
  refine lv_aload_n hx hb dL_law_19 rfl (lv_at hl 3 rfl) ?_
  refine va_slen hx hb hX hbl hbA hS dL_law_20 ?_
  refine lv_tope (y := 6) (by decide) ?_
  refine lv_bipush (v := 6) hx hb dL_law_21 (by decide) ?_
  refine lv_isub hx hb dL_law_23 ?_
  refine lv_tope (y := 0) (by decide) ?_
  refine lv_icmp_gt (tgt := 1284) hx hb dL_law_24 (by decide) (fun _ => ?_) (fun c1002 => absurd (by decide) c1002)
  refine lv_iconst (v := 1) hx hb dL_law_1284 (by decide) ?_
  refine va_forget (fun q hq => hAl _ (hS.2.2 q hq)) ?_
  refine W.widen (k := 600000) (n := 7302250) (by omega) (by omega) ?_
  exact lw_ret hx hb hr hlocks dL_law_1285

set_option maxHeartbeats 40000000 in
set_option maxRecDepth 100000 in
theorem lc_26 {p : Program} {l : Launch} {e : Env} {s : State} {m : MethodId} {below : List Frame} {meth : Method} {c : Code} {g : Gx} {b : Nat} {xs : Nat → Int32} {A : Nat → Prop} {H : Heap} {locs : List Loc} {ls : Array Slot} {nc ns : Nat} {q1 : Nat} {q2 : Nat} {q3 : Nat} {q52 : Nat} {q73 : Nat} {q13 : Nat} {q67 : Nat} {q76 : Nat} {q11 : Nat} {q86 : Nat} {q84 : Nat} {q12 : Nat} {q85 : Nat} {q157 : Nat} {q40 : Nat} {q41 : Nat} {q42 : Nat} {q43 : Nat} {q158 : Nat} {q44 : Nat} {q75 : Nat} {q45 : Nat} {q74 : Nat} {q46 : Nat} {q49 : Nat} {q188 : Nat} {fs203 : List Value} {q189 : Nat} {q195 : Nat} {q200 : Nat} {q196 : Nat} {q197 : Nat} {q201 : Nat} {q198 : Nat} {q199 : Nat} {q190 : Nat} {q191 : Nat} {q192 : Nat} {q193 : Nat} {q194 : Nat} {q202 : Nat} {f215 : Nat → Int32} (hnc : nc ≤ 1000) (hns : ns ≤ 100000) (hcx : Cx p s m #[Value.ref b] meth c cL_law 4 ret RL meth.name g) (hX : va_X b 6 xs s s.heap) (hbl : b < s.heap.size) (hbA : ¬ A b) (hA : ∀ q : Nat, s.heap.size ≤ q → A q) (hAl : ∀ q : Nat, A q → s.heap.size ≤ q) (hf218 : fs203.length = 69) (hf219 : fs203[0]? = some (Value.ref q189)) (hf220 : fs203[11]? = some (Value.ref q195)) (hf221 : fs203[12]? = some (Value.ref q200)) (hf222 : fs203[13]? = some (Value.ref q196)) (hf223 : fs203[14]? = some (Value.ref q197)) (hf224 : fs203[15]? = some (Value.ref q201)) (hf225 : fs203[16]? = some (Value.ref q198)) (hf226 : fs203[46]? = some (Value.ref q199)) (hf227 : fs203[48]? = some (Value.ref q190)) (hf228 : fs203[51]? = some (Value.ref q191)) (hf229 : fs203[53]? = some (Value.ref q192)) (hf230 : fs203[56]? = some (Value.ref q193)) (hf231 : fs203[67]? = some (Value.ref q194)) (hf232 : fs203[68]? = some (Value.ref q202)) (hf233 : fs203[2]? = some (Value.int 0)) (hf234 : fs203[4]? = some (Value.int 0)) (hf235 : fs203[5]? = some (Value.int (-1))) (hf236 : fs203[34]? = some (Value.int 0)) (hf237 : fs203[49]? = some (Value.int 0)) (hf238 : fs203[50]? = some (Value.int 0)) (hf239 : fs203[54]? = some (Value.int 0)) (hf240 : fs203[65]? = some (Value.int 0)) (hf241 : fs203[66]? = some (Value.int 0)) (hf250 : f215 0 = 0) (hP : va_P g.1 vwCl [(q1, .inr (10, [.ref q2, .int 0, .ref q3, .ref q52, .ref q73, .ref q13, .ref q67, .ref q76, .ref q11, .ref q86, .ref q84, .ref q12, .ref q85, .int 0])), (q73, .inr (9, [.int 0, .int 0, .int 0, .int 0, .int 0, .ref q157, .ref q40, .ref q41, .ref q42, .ref q43, .ref q158, .ref q44, .ref q75, .ref q45, .ref q74, .ref q46, .ref q49])), (q188, .inr (11, fs203)), (q200, .inl (gI g, 2, .inl f215))] H) (hD : va_D A [(q1, .inr (10, [.ref q2, .int 0, .ref q3, .ref q52, .ref q73, .ref q13, .ref q67, .ref q76, .ref q11, .ref q86, .ref q84, .ref q12, .ref q85, .int 0])), (q73, .inr (9, [.int 0, .int 0, .int 0, .int 0, .int 0, .ref q157, .ref q40, .ref q41, .ref q42, .ref q43, .ref q158, .ref q44, .ref q75, .ref q45, .ref q74, .ref q46, .ref q49])), (q188, .inr (11, fs203)), (q200, .inl (gI g, 2, .inl f215))]) (hS : va_S A s.heap H locs) (hl : lv_has ls 4 [(3, .int 0), (2, .ref q188), (1, .ref q1), (0, .ref b)]) : W p l e room_1 s m #[Value.ref b] below meth c H locs nc ns (lw_Z below #[Value.ref b] s) (F0 m 874 ls []) := by
  obtain ⟨hx, hb, hml, hr, hlocks, hown, hts, hE, hnm⟩ := id hcx
  have hK := hE.1
  refine lv_aload_n hx hb dL_law_874 rfl (lv_at hl 2 rfl) ?_
  refine lv_aload_n hx hb dL_law_875 rfl (lv_at hl 3 rfl) ?_
  refine lv_iload_n hx hb dL_law_876 rfl (lv_at hl 0 rfl) ?_
  refine lv_iconst (v := 1) hx hb dL_law_877 (by decide) ?_
  refine lv_iadd hx hb dL_law_878 ?_
  refine lv_tope (y := 1) (by decide) ?_
  refine sc_ld hx hb hX hbl hbA hS 1 rfl (by decide) (by decide) dL_law_879 ?_
  refine kI (wc := [(q1, .inr (10, [.ref q2, .int 0, .ref q3, .ref q52, .ref q73, .ref q13, .ref q67, .ref q76, .ref q11, .ref q86, .ref q84, .ref q12, .ref q85, .int 0])), (q73, .inr (9, [.int 0, .int 0, .int 0, .int 0, .int 0, .ref q157, .ref q40, .ref q41, .ref q42, .ref q43, .ref q158, .ref q44, .ref q75, .ref q45, .ref q74, .ref q46, .ref q49]))]) (wr := [(q188, .inr (11, fs203)), (q200, .inl (gI g, 2, .inl f215))]) (rV (As := [.int (xs 1)]) (rest := []) (meth2 := "") hcx (c_X10_bears H.size) (gdV q57_7 q57_8 q57_9 q1_2 q57_10) dvX10_bears ⟨Nat.le_of_ble_eq_true rfl, Nat.le_of_ble_eq_true rfl⟩ (hP.sub [0, 1] rfl) (hD.sub [0, 1] (by decide) rfl) (va_recv hK hP (ci := 10) (q0 := 0) rfl rfl) rfl hl.1 rfl (Nat.le_of_ble_eq_true rfl) dL_law_880 ⟨by show _ + 0 ≤ 600000; omega, by show _ + 0 ≤ 7302250; omega⟩) hP hD hS hA [0, 1] [2, 3] rfl rfl (by decide) (by decide) (fun r W' H locs hw hP hD hS => ?_)
  obtain ⟨rfl, rfl⟩ := hw
  have hP : va_P g.1 vwCl [(q188, .inr (11, fs203)), (q200, .inl (gI g, 2, .inl f215))] H := hP
  have hD : va_D A [(q188, .inr (11, fs203)), (q200, .inl (gI g, 2, .inl f215))] := hD
  refine lv_aload_n hx hb dL_law_883 rfl (lv_at hl 1 rfl) ?_
  refine lv_aload_n hx hb dL_law_884 rfl (lv_at hl 3 rfl) ?_
  refine lv_iload_n hx hb dL_law_885 rfl (lv_at hl 0 rfl) ?_
  refine lv_iconst (v := 1) hx hb dL_law_886 (by decide) ?_
  refine lv_iadd hx hb dL_law_887 ?_
  refine lv_tope (y := 1) (by decide) ?_
  refine sc_ld hx hb hX hbl hbA hS 1 rfl (by decide) (by decide) dL_law_888 ?_
  refine kI (wc := [(q188, .inr (11, fs203)), (q200, .inl (gI g, 2, .inl f215))]) (wr := []) (rV (As := [.int (xs 1)]) (rest := [.int (-1)]) (meth2 := "") hcx (c_X11_bears (hf218) (hf221) (hf236) (hf250) H.size) (gdV q57_19 q57_20 q57_21 q1_5 q57_22) dvX11_bears ⟨Nat.le_of_ble_eq_true rfl, Nat.le_of_ble_eq_true rfl⟩ (hP.sub [0, 1] rfl) (hD.sub [0, 1] (by decide) rfl) (va_recv hK hP (ci := 11) (q0 := 0) rfl rfl) rfl hl.1 rfl (Nat.le_of_ble_eq_true rfl) dL_law_889 ⟨by show _ + 0 ≤ 600000; omega, by show _ + 0 ≤ 7302250; omega⟩) hP hD hS hA [0, 1] [] rfl rfl (by decide) (by decide) (fun r W' H locs hw hP hD hS => ?_)
  obtain ⟨rfl, rfl⟩ := hw
  have hP : va_P g.1 vwCl [] H := hP
  have hD : va_D A [] := hD
  refine lv_icmp_eq (tgt := 1278) hx hb dL_law_892 (by decide) (fun _ => ?_) (fun c1001 => absurd (by decide) c1001)
  refine lv_iinc (v := 6) (lv' := [(3, .int 6), (2, .ref q188), (1, .ref q1), (0, .ref b)]) hx hb dL_law_1278 hl (k := 0) rfl (by decide) (by decide) rfl (fun ls hl => ?_)
  refine lv_goto (tgt := 18) hx hb dL_law_1281 (by decide) ?_
  refine lv_iload_n hx hb dL_law_18 rfl (lv_at hl 0 rfl) ?_
  refine lv_aload_n hx hb dL_law_19 rfl (lv_at hl 3 rfl) ?_
  refine va_slen hx hb hX hbl hbA hS dL_law_20 ?_
  refine lv_tope (y := 6) (by decide) ?_
  refine lv_bipush (v := 6) hx hb dL_law_21 (by decide) ?_
  refine lv_isub hx hb dL_law_23 ?_
  refine lv_tope (y := 0) (by decide) ?_
  refine lv_icmp_gt (tgt := 1284) hx hb dL_law_24 (by decide) (fun _ => ?_) (fun c1002 => absurd (by decide) c1002)
  refine lv_iconst (v := 1) hx hb dL_law_1284 (by decide) ?_
  refine va_forget (fun q hq => hAl _ (hS.2.2 q hq)) ?_
  refine W.widen (k := 600000) (n := 7302250) (by omega) (by omega) ?_
  exact lw_ret hx hb hr hlocks dL_law_1285

set_option maxHeartbeats 40000000 in
set_option maxRecDepth 100000 in
theorem lc_27 {p : Program} {l : Launch} {e : Env} {s : State} {m : MethodId} {below : List Frame} {meth : Method} {c : Code} {g : Gx} {b : Nat} {xs : Nat → Int32} {A : Nat → Prop} {H : Heap} {locs : List Loc} {ls : Array Slot} {nc ns : Nat} {q1 : Nat} {q2 : Nat} {q3 : Nat} {q52 : Nat} {q73 : Nat} {q13 : Nat} {q67 : Nat} {q76 : Nat} {q11 : Nat} {q86 : Nat} {q84 : Nat} {q12 : Nat} {q85 : Nat} {q14 : Nat} {q96 : Nat} {q97 : Nat} {q98 : Nat} {q99 : Nat} {q20 : Nat} {q21 : Nat} {q157 : Nat} {q40 : Nat} {q41 : Nat} {q42 : Nat} {q43 : Nat} {q158 : Nat} {q44 : Nat} {q75 : Nat} {q45 : Nat} {q74 : Nat} {q46 : Nat} {q49 : Nat} {q188 : Nat} {fs203 : List Value} {q189 : Nat} {q195 : Nat} {q200 : Nat} {q196 : Nat} {q197 : Nat} {q201 : Nat} {q198 : Nat} {q199 : Nat} {q190 : Nat} {q191 : Nat} {q192 : Nat} {q193 : Nat} {q194 : Nat} {q202 : Nat} {f215 : Nat → Int32} (hnc : nc ≤ 1000) (hns : ns ≤ 100000) (hcx : Cx p s m #[Value.ref b] meth c cL_law 4 ret RL meth.name g) (hX : va_X b 6 xs s s.heap) (hbl : b < s.heap.size) (hbA : ¬ A b) (hA : ∀ q : Nat, s.heap.size ≤ q → A q) (hAl : ∀ q : Nat, A q → s.heap.size ≤ q) (hf218 : fs203.length = 69) (hf219 : fs203[0]? = some (Value.ref q189)) (hf220 : fs203[11]? = some (Value.ref q195)) (hf221 : fs203[12]? = some (Value.ref q200)) (hf222 : fs203[13]? = some (Value.ref q196)) (hf223 : fs203[14]? = some (Value.ref q197)) (hf224 : fs203[15]? = some (Value.ref q201)) (hf225 : fs203[16]? = some (Value.ref q198)) (hf226 : fs203[46]? = some (Value.ref q199)) (hf227 : fs203[48]? = some (Value.ref q190)) (hf228 : fs203[51]? = some (Value.ref q191)) (hf229 : fs203[53]? = some (Value.ref q192)) (hf230 : fs203[56]? = some (Value.ref q193)) (hf231 : fs203[67]? = some (Value.ref q194)) (hf232 : fs203[68]? = some (Value.ref q202)) (hf233 : fs203[2]? = some (Value.int 0)) (hf234 : fs203[4]? = some (Value.int 0)) (hf235 : fs203[5]? = some (Value.int (-1))) (hf236 : fs203[34]? = some (Value.int 0)) (hf237 : fs203[49]? = some (Value.int 0)) (hf238 : fs203[50]? = some (Value.int 0)) (hf239 : fs203[54]? = some (Value.int 0)) (hf240 : fs203[65]? = some (Value.int 0)) (hf241 : fs203[66]? = some (Value.int 0)) (hf250 : f215 0 = 0) (hP : va_P g.1 vwCl [(q1, .inr (10, [.ref q2, .int 0, .ref q3, .ref q52, .ref q73, .ref q13, .ref q67, .ref q76, .ref q11, .ref q86, .ref q84, .ref q12, .ref q85, .int 0])), (q12, .inr (4, [.ref q13, .ref q73, .ref q67, .ref q84, .ref q14, .ref q96, .ref q97, .ref q98, .ref q99, .ref q20, .ref q21, .int 0])), (q73, .inr (9, [.int 0, .int 0, .int 0, .int 0, .int 0, .ref q157, .ref q40, .ref q41, .ref q42, .ref q43, .ref q158, .ref q44, .ref q75, .ref q45, .ref q74, .ref q46, .ref q49])), (q188, .inr (11, fs203)), (q200, .inl (gI g, 2, .inl f215))] H) (hD : va_D A [(q1, .inr (10, [.ref q2, .int 0, .ref q3, .ref q52, .ref q73, .ref q13, .ref q67, .ref q76, .ref q11, .ref q86, .ref q84, .ref q12, .ref q85, .int 0])), (q12, .inr (4, [.ref q13, .ref q73, .ref q67, .ref q84, .ref q14, .ref q96, .ref q97, .ref q98, .ref q99, .ref q20, .ref q21, .int 0])), (q73, .inr (9, [.int 0, .int 0, .int 0, .int 0, .int 0, .ref q157, .ref q40, .ref q41, .ref q42, .ref q43, .ref q158, .ref q44, .ref q75, .ref q45, .ref q74, .ref q46, .ref q49])), (q188, .inr (11, fs203)), (q200, .inl (gI g, 2, .inl f215))]) (hS : va_S A s.heap H locs) (hl : lv_has ls 4 [(3, .int 0), (2, .ref q188), (1, .ref q1), (0, .ref b)]) : W p l e room_1 s m #[Value.ref b] below meth c H locs nc ns (lw_Z below #[Value.ref b] s) (F0 m 897 ls []) := by
  obtain ⟨hx, hb, hml, hr, hlocks, hown, hts, hE, hnm⟩ := id hcx
  have hK := hE.1
  refine lv_aload_n hx hb dL_law_897 rfl (lv_at hl 2 rfl) ?_
  refine kI (wc := [(q1, .inr (10, [.ref q2, .int 0, .ref q3, .ref q52, .ref q73, .ref q13, .ref q67, .ref q76, .ref q11, .ref q86, .ref q84, .ref q12, .ref q85, .int 0])), (q12, .inr (4, [.ref q13, .ref q73, .ref q67, .ref q84, .ref q14, .ref q96, .ref q97, .ref q98, .ref q99, .ref q20, .ref q21, .int 0])), (q73, .inr (9, [.int 0, .int 0, .int 0, .int 0, .int 0, .ref q157, .ref q40, .ref q41, .ref q42, .ref q43, .ref q158, .ref q44, .ref q75, .ref q45, .ref q74, .ref q46, .ref q49]))]) (wr := [(q188, .inr (11, fs203)), (q200, .inl (gI g, 2, .inl f215))]) (rV (As := []) (rest := []) (meth2 := "") hcx (c_X10_shield H.size) (gdV q57_23 q58_0 q58_1 q1_2 q58_2) dvX10_shield ⟨Nat.le_of_ble_eq_true rfl, Nat.le_of_ble_eq_true rfl⟩ (hP.sub [0, 1, 2] rfl) (hD.sub [0, 1, 2] (by decide) rfl) (va_recv hK hP (ci := 10) (q0 := 0) rfl rfl) rfl hl.1 rfl (Nat.le_of_ble_eq_true rfl) dL_law_898 ⟨by show _ + 0 ≤ 600000; omega, by show _ + 0 ≤ 7302250; omega⟩) hP hD hS hA [0, 1, 2] [3, 4] rfl rfl (by decide) (by decide) (fun r W' H locs hw hP hD hS => ?_)
  obtain ⟨rfl, rfl⟩ := hw
  have hP : va_P g.1 vwCl [(q188, .inr (11, fs203)), (q200, .inl (gI g, 2, .inl f215))] H := hP
  have hD : va_D A [(q188, .inr (11, fs203)), (q200, .inl (gI g, 2, .inl f215))] := hD
  refine lv_aload_n hx hb dL_law_901 rfl (lv_at hl 1 rfl) ?_
  refine kI (wc := [(q188, .inr (11, fs203)), (q200, .inl (gI g, 2, .inl f215))]) (wr := []) (rV (As := []) (rest := [.int (-1)]) (meth2 := "") hcx (c_X11_shield (hf218) (hf221) (hf236) (hf250) H.size) (gdV q58_8 q58_9 q58_10 q1_5 q58_11) dvX11_shield ⟨Nat.le_of_ble_eq_true rfl, Nat.le_of_ble_eq_true rfl⟩ (hP.sub [0, 1] rfl) (hD.sub [0, 1] (by decide) rfl) (va_recv hK hP (ci := 11) (q0 := 0) rfl rfl) rfl hl.1 rfl (Nat.le_of_ble_eq_true rfl) dL_law_902 ⟨by show _ + 0 ≤ 600000; omega, by show _ + 0 ≤ 7302250; omega⟩) hP hD hS hA [0, 1] [] rfl rfl (by decide) (by decide) (fun r W' H locs hw hP hD hS => ?_)
  obtain ⟨rfl, rfl⟩ := hw
  have hP : va_P g.1 vwCl [] H := hP
  have hD : va_D A [] := hD
  refine lv_icmp_eq (tgt := 1278) hx hb dL_law_905 (by decide) (fun _ => ?_) (fun c1001 => absurd (by decide) c1001)
  refine lv_iinc (v := 6) (lv' := [(3, .int 6), (2, .ref q188), (1, .ref q1), (0, .ref b)]) hx hb dL_law_1278 hl (k := 0) rfl (by decide) (by decide) rfl (fun ls hl => ?_)
  refine lv_goto (tgt := 18) hx hb dL_law_1281 (by decide) ?_
  refine lv_iload_n hx hb dL_law_18 rfl (lv_at hl 0 rfl) ?_
  refine lv_aload_n hx hb dL_law_19 rfl (lv_at hl 3 rfl) ?_
  refine va_slen hx hb hX hbl hbA hS dL_law_20 ?_
  refine lv_tope (y := 6) (by decide) ?_
  refine lv_bipush (v := 6) hx hb dL_law_21 (by decide) ?_
  refine lv_isub hx hb dL_law_23 ?_
  refine lv_tope (y := 0) (by decide) ?_
  refine lv_icmp_gt (tgt := 1284) hx hb dL_law_24 (by decide) (fun _ => ?_) (fun c1002 => absurd (by decide) c1002)
  refine lv_iconst (v := 1) hx hb dL_law_1284 (by decide) ?_
  refine va_forget (fun q hq => hAl _ (hS.2.2 q hq)) ?_
  refine W.widen (k := 600000) (n := 7302250) (by omega) (by omega) ?_
  exact lw_ret hx hb hr hlocks dL_law_1285

set_option maxHeartbeats 40000000 in
set_option maxRecDepth 100000 in
theorem lc_28 {p : Program} {l : Launch} {e : Env} {s : State} {m : MethodId} {below : List Frame} {meth : Method} {c : Code} {g : Gx} {b : Nat} {xs : Nat → Int32} {A : Nat → Prop} {H : Heap} {locs : List Loc} {ls : Array Slot} {nc ns : Nat} {q1 : Nat} {q2 : Nat} {q3 : Nat} {q52 : Nat} {q73 : Nat} {q13 : Nat} {q67 : Nat} {q76 : Nat} {q11 : Nat} {q86 : Nat} {q84 : Nat} {q12 : Nat} {q85 : Nat} {q14 : Nat} {q96 : Nat} {q97 : Nat} {q98 : Nat} {q99 : Nat} {q20 : Nat} {q21 : Nat} {q100 : Nat} {q15 : Nat} {q16 : Nat} {q17 : Nat} {q18 : Nat} {q19 : Nat} {f101 : Nat → Int32} {f102 : Nat → Int32} {f103 : Nat → Int32} {f104 : Nat → Int32} {f105 : Nat → Int32} {q68 : Nat} {q69 : Nat} {q70 : Nat} {q71 : Nat} {q72 : Nat} {x151 : Int32} {f152 : Nat → Int32} {f153 : Nat → Int32} {f154 : Nat → Int32} {f155 : Nat → Int32} {f156 : Nat → Int32} {q157 : Nat} {q40 : Nat} {q41 : Nat} {q42 : Nat} {q43 : Nat} {q158 : Nat} {q44 : Nat} {q75 : Nat} {q45 : Nat} {q74 : Nat} {q46 : Nat} {q49 : Nat} {q188 : Nat} {fs203 : List Value} {q189 : Nat} {q195 : Nat} {q200 : Nat} {q196 : Nat} {q197 : Nat} {q201 : Nat} {q198 : Nat} {q199 : Nat} {q190 : Nat} {q191 : Nat} {q192 : Nat} {q193 : Nat} {q194 : Nat} {q202 : Nat} {f206 : Nat → Int32} {f207 : Nat → Int32} {f210 : Nat → Int32} {f214 : Nat → Int32} {f215 : Nat → Int32} (hnc : nc ≤ 1000) (hns : ns ≤ 100000) (hcx : Cx p s m #[Value.ref b] meth c cL_law 4 ret RL meth.name g) (hX : va_X b 6 xs s s.heap) (hbl : b < s.heap.size) (hbA : ¬ A b) (hA : ∀ q : Nat, s.heap.size ≤ q → A q) (hAl : ∀ q : Nat, A q → s.heap.size ≤ q) (hf218 : fs203.length = 69) (hf219 : fs203[0]? = some (Value.ref q189)) (hf220 : fs203[11]? = some (Value.ref q195)) (hf221 : fs203[12]? = some (Value.ref q200)) (hf222 : fs203[13]? = some (Value.ref q196)) (hf223 : fs203[14]? = some (Value.ref q197)) (hf224 : fs203[15]? = some (Value.ref q201)) (hf225 : fs203[16]? = some (Value.ref q198)) (hf226 : fs203[46]? = some (Value.ref q199)) (hf227 : fs203[48]? = some (Value.ref q190)) (hf228 : fs203[51]? = some (Value.ref q191)) (hf229 : fs203[53]? = some (Value.ref q192)) (hf230 : fs203[56]? = some (Value.ref q193)) (hf231 : fs203[67]? = some (Value.ref q194)) (hf232 : fs203[68]? = some (Value.ref q202)) (hf233 : fs203[2]? = some (Value.int 0)) (hf234 : fs203[4]? = some (Value.int 0)) (hf235 : fs203[5]? = some (Value.int (-1))) (hf236 : fs203[34]? = some (Value.int 0)) (hf237 : fs203[49]? = some (Value.int 0)) (hf238 : fs203[50]? = some (Value.int 0)) (hf239 : fs203[54]? = some (Value.int 0)) (hf240 : fs203[65]? = some (Value.int 0)) (hf241 : fs203[66]? = some (Value.int 0)) (hf242 : f210 0 = 0) (hf246 : f214 20 = 0) (hf247 : f214 21 = 0) (hf248 : f214 22 = 0) (hf249 : f214 23 = 0) (hf250 : f215 0 = 0) (hP : va_P g.1 vwCl [(q1, .inr (10, [.ref q2, .int 0, .ref q3, .ref q52, .ref q73, .ref q13, .ref q67, .ref q76, .ref q11, .ref q86, .ref q84, .ref q12, .ref q85, .int 0])), (q12, .inr (4, [.ref q13, .ref q73, .ref q67, .ref q84, .ref q14, .ref q96, .ref q97, .ref q98, .ref q99, .ref q20, .ref q21, .int 0])), (q13, .inr (0, [.ref q73, .ref q100, .int 0, .int 0])), (q14, .inr (7, [.ref q15, .ref q16, .ref q17, .ref q18, .ref q19, .int 0, .int 0, .int 0, .int 0, .int 0])), (q15, .inl (gI g, 5, .inl f101)), (q16, .inl (gI g, 5, .inl f102)), (q17, .inl (gI g, 5, .inl f103)), (q18, .inl (gI g, 5, .inl f104)), (q19, .inl (gI g, 5, .inl f105)), (q67, .inr (7, [.ref q68, .ref q69, .ref q70, .ref q71, .ref q72, .int 0, .int 0, .int 0, .int 0, .int x151])), (q68, .inl (gI g, 5, .inl f152)), (q69, .inl (gI g, 5, .inl f153)), (q70, .inl (gI g, 5, .inl f154)), (q71, .inl (gI g, 5, .inl f155)), (q72, .inl (gI g, 5, .inl f156)), (q73, .inr (9, [.int 0, .int 0, .int 0, .int 0, .int 0, .ref q157, .ref q40, .ref q41, .ref q42, .ref q43, .ref q158, .ref q44, .ref q75, .ref q45, .ref q74, .ref q46, .ref q49])), (q188, .inr (11, fs203)), (q191, .inl (gI g, 24, .inl f206)), (q192, .inl (gI g, 8, .inl f207)), (q195, .inl (gI g, 2, .inl f210)), (q199, .inl (gI g, 24, .inl f214)), (q200, .inl (gI g, 2, .inl f215))] H) (hD : va_D A [(q1, .inr (10, [.ref q2, .int 0, .ref q3, .ref q52, .ref q73, .ref q13, .ref q67, .ref q76, .ref q11, .ref q86, .ref q84, .ref q12, .ref q85, .int 0])), (q12, .inr (4, [.ref q13, .ref q73, .ref q67, .ref q84, .ref q14, .ref q96, .ref q97, .ref q98, .ref q99, .ref q20, .ref q21, .int 0])), (q13, .inr (0, [.ref q73, .ref q100, .int 0, .int 0])), (q14, .inr (7, [.ref q15, .ref q16, .ref q17, .ref q18, .ref q19, .int 0, .int 0, .int 0, .int 0, .int 0])), (q15, .inl (gI g, 5, .inl f101)), (q16, .inl (gI g, 5, .inl f102)), (q17, .inl (gI g, 5, .inl f103)), (q18, .inl (gI g, 5, .inl f104)), (q19, .inl (gI g, 5, .inl f105)), (q67, .inr (7, [.ref q68, .ref q69, .ref q70, .ref q71, .ref q72, .int 0, .int 0, .int 0, .int 0, .int x151])), (q68, .inl (gI g, 5, .inl f152)), (q69, .inl (gI g, 5, .inl f153)), (q70, .inl (gI g, 5, .inl f154)), (q71, .inl (gI g, 5, .inl f155)), (q72, .inl (gI g, 5, .inl f156)), (q73, .inr (9, [.int 0, .int 0, .int 0, .int 0, .int 0, .ref q157, .ref q40, .ref q41, .ref q42, .ref q43, .ref q158, .ref q44, .ref q75, .ref q45, .ref q74, .ref q46, .ref q49])), (q188, .inr (11, fs203)), (q191, .inl (gI g, 24, .inl f206)), (q192, .inl (gI g, 8, .inl f207)), (q195, .inl (gI g, 2, .inl f210)), (q199, .inl (gI g, 24, .inl f214)), (q200, .inl (gI g, 2, .inl f215))]) (hS : va_S A s.heap H locs) (hl : lv_has ls 4 [(3, .int 0), (2, .ref q188), (1, .ref q1), (0, .ref b)]) : W p l e room_1 s m #[Value.ref b] below meth c H locs nc ns (lw_Z below #[Value.ref b] s) (F0 m 910 ls []) := by
  obtain ⟨hx, hb, hml, hr, hlocks, hown, hts, hE, hnm⟩ := id hcx
  have hK := hE.1
  refine lv_aload_n hx hb dL_law_910 rfl (lv_at hl 2 rfl) ?_
  refine lv_aload_n hx hb dL_law_911 rfl (lv_at hl 3 rfl) ?_
  refine lv_iload_n hx hb dL_law_912 rfl (lv_at hl 0 rfl) ?_
  refine lv_iconst (v := 1) hx hb dL_law_913 (by decide) ?_
  refine lv_iadd hx hb dL_law_914 ?_
  refine lv_tope (y := 1) (by decide) ?_
  refine sc_ld hx hb hX hbl hbA hS 1 rfl (by decide) (by decide) dL_law_915 ?_
  refine kI (wc := [(q1, .inr (10, [.ref q2, .int 0, .ref q3, .ref q52, .ref q73, .ref q13, .ref q67, .ref q76, .ref q11, .ref q86, .ref q84, .ref q12, .ref q85, .int 0])), (q12, .inr (4, [.ref q13, .ref q73, .ref q67, .ref q84, .ref q14, .ref q96, .ref q97, .ref q98, .ref q99, .ref q20, .ref q21, .int 0])), (q14, .inr (7, [.ref q15, .ref q16, .ref q17, .ref q18, .ref q19, .int 0, .int 0, .int 0, .int 0, .int 0])), (q15, .inl (gI g, 5, .inl f101)), (q16, .inl (gI g, 5, .inl f102)), (q17, .inl (gI g, 5, .inl f103)), (q18, .inl (gI g, 5, .inl f104)), (q19, .inl (gI g, 5, .inl f105)), (q67, .inr (7, [.ref q68, .ref q69, .ref q70, .ref q71, .ref q72, .int 0, .int 0, .int 0, .int 0, .int x151])), (q68, .inl (gI g, 5, .inl f152)), (q69, .inl (gI g, 5, .inl f153)), (q70, .inl (gI g, 5, .inl f154)), (q71, .inl (gI g, 5, .inl f155)), (q72, .inl (gI g, 5, .inl f156)), (q13, .inr (0, [.ref q73, .ref q100, .int 0, .int 0])), (q73, .inr (9, [.int 0, .int 0, .int 0, .int 0, .int 0, .ref q157, .ref q40, .ref q41, .ref q42, .ref q43, .ref q158, .ref q44, .ref q75, .ref q45, .ref q74, .ref q46, .ref q49]))]) (wr := [(q188, .inr (11, fs203)), (q191, .inl (gI g, 24, .inl f206)), (q192, .inl (gI g, 8, .inl f207)), (q195, .inl (gI g, 2, .inl f210)), (q199, .inl (gI g, 24, .inl f214)), (q200, .inl (gI g, 2, .inl f215))]) (rV (As := [.int (xs 1)]) (rest := []) (meth2 := "") hcx (c_X10_law H.size) (gdV q58_12 q58_13 q58_14 q1_2 q58_15) dvX10_law ⟨Nat.le_of_ble_eq_true rfl, Nat.le_of_ble_eq_true rfl⟩ (hP.sub [0, 1, 3, 4, 5, 6, 7, 8, 9, 10, 11, 12, 13, 14, 2, 15] rfl) (hD.sub [0, 1, 3, 4, 5, 6, 7, 8, 9, 10, 11, 12, 13, 14, 2, 15] (by decide) rfl) (va_recv hK hP (ci := 10) (q0 := 0) rfl rfl) rfl hl.1 rfl (Nat.le_of_ble_eq_true rfl) dL_law_916 ⟨by show _ + 0 ≤ 600000; omega, by show _ + 0 ≤ 7302250; omega⟩) hP hD hS hA [0, 1, 3, 4, 5, 6, 7, 8, 9, 10, 11, 12, 13, 14, 2, 15] [16, 17, 18, 19, 20, 21] rfl rfl (by decide) (by decide) (fun r1001 W' H locs hw hP hD hS => ?_)
  obtain ⟨hr1002, rfl⟩ := hw
  have hP : va_P g.1 vwCl [(q188, .inr (11, fs203)), (q191, .inl (gI g, 24, .inl f206)), (q192, .inl (gI g, 8, .inl f207)), (q195, .inl (gI g, 2, .inl f210)), (q199, .inl (gI g, 24, .inl f214)), (q200, .inl (gI g, 2, .inl f215))] H := hP
  have hD : va_D A [(q188, .inr (11, fs203)), (q191, .inl (gI g, 24, .inl f206)), (q192, .inl (gI g, 8, .inl f207)), (q195, .inl (gI g, 2, .inl f210)), (q199, .inl (gI g, 24, .inl f214)), (q200, .inl (gI g, 2, .inl f215))] := hD
  refine lv_aload_n hx hb dL_law_919 rfl (lv_at hl 1 rfl) ?_
  refine lv_aload_n hx hb dL_law_920 rfl (lv_at hl 3 rfl) ?_
  refine lv_iload_n hx hb dL_law_921 rfl (lv_at hl 0 rfl) ?_
  refine lv_iconst (v := 1) hx hb dL_law_922 (by decide) ?_
  refine lv_iadd hx hb dL_law_923 ?_
  refine lv_tope (y := 1) (by decide) ?_
  refine sc_ld hx hb hX hbl hbA hS 1 rfl (by decide) (by decide) dL_law_924 ?_
  refine kI (wc := [(q188, .inr (11, fs203)), (q199, .inl (gI g, 24, .inl f214)), (q191, .inl (gI g, 24, .inl f206)), (q192, .inl (gI g, 8, .inl f207)), (q195, .inl (gI g, 2, .inl f210)), (q200, .inl (gI g, 2, .inl f215))]) (wr := []) (rV (As := [.int (xs 1)]) (rest := [.int r1001]) (meth2 := "") hcx (c_X11_law (hf218) (hf226) (hf228) (hf229) (hf220) (hf221) (hf236) (hf246) (hf247) (hf242) (hf250) H.size) (gdV q58_20 q58_21 q58_22 q1_5 q58_23) dvX11_law ⟨Nat.le_of_ble_eq_true rfl, Nat.le_of_ble_eq_true rfl⟩ (hP.sub [0, 4, 1, 2, 3, 5] rfl) (hD.sub [0, 4, 1, 2, 3, 5] (by decide) rfl) (va_recv hK hP (ci := 11) (q0 := 0) rfl rfl) rfl hl.1 rfl (Nat.le_of_ble_eq_true rfl) dL_law_925 ⟨by show _ + 0 ≤ 600000; omega, by show _ + 0 ≤ 7302250; omega⟩) hP hD hS hA [0, 4, 1, 2, 3, 5] [] rfl rfl (by decide) (by decide) (fun r1003 W' H locs hw hP hD hS => ?_)
  obtain ⟨hr1004, rfl⟩ := hw
  have hP : va_P g.1 vwCl [] H := hP
  have hD : va_D A [] := hD
  refine lv_icmp_eq (tgt := 1278) hx hb dL_law_928 (by decide) (fun _ => ?_) (fun c1005 => absurd (hr1002.trans hr1004.symm) c1005)
  refine lv_iinc (v := 6) (lv' := [(3, .int 6), (2, .ref q188), (1, .ref q1), (0, .ref b)]) hx hb dL_law_1278 hl (k := 0) rfl (by decide) (by decide) rfl (fun ls hl => ?_)
  refine lv_goto (tgt := 18) hx hb dL_law_1281 (by decide) ?_
  refine lv_iload_n hx hb dL_law_18 rfl (lv_at hl 0 rfl) ?_
  refine lv_aload_n hx hb dL_law_19 rfl (lv_at hl 3 rfl) ?_
  refine va_slen hx hb hX hbl hbA hS dL_law_20 ?_
  refine lv_tope (y := 6) (by decide) ?_
  refine lv_bipush (v := 6) hx hb dL_law_21 (by decide) ?_
  refine lv_isub hx hb dL_law_23 ?_
  refine lv_tope (y := 0) (by decide) ?_
  refine lv_icmp_gt (tgt := 1284) hx hb dL_law_24 (by decide) (fun _ => ?_) (fun c1006 => absurd (by decide) c1006)
  refine lv_iconst (v := 1) hx hb dL_law_1284 (by decide) ?_
  refine va_forget (fun q hq => hAl _ (hS.2.2 q hq)) ?_
  refine W.widen (k := 600000) (n := 7302250) (by omega) (by omega) ?_
  exact lw_ret hx hb hr hlocks dL_law_1285

set_option maxHeartbeats 40000000 in
set_option maxRecDepth 100000 in
theorem lc_29 {p : Program} {l : Launch} {e : Env} {s : State} {m : MethodId} {below : List Frame} {meth : Method} {c : Code} {g : Gx} {b : Nat} {xs : Nat → Int32} {A : Nat → Prop} {H : Heap} {locs : List Loc} {ls : Array Slot} {nc ns : Nat} {q1 : Nat} {q2 : Nat} {q3 : Nat} {q52 : Nat} {q73 : Nat} {q13 : Nat} {q67 : Nat} {q76 : Nat} {q11 : Nat} {q86 : Nat} {q84 : Nat} {q12 : Nat} {q85 : Nat} {q14 : Nat} {q96 : Nat} {q97 : Nat} {q98 : Nat} {q99 : Nat} {q20 : Nat} {q21 : Nat} {q15 : Nat} {q16 : Nat} {q17 : Nat} {q18 : Nat} {q19 : Nat} {f101 : Nat → Int32} {f102 : Nat → Int32} {f103 : Nat → Int32} {f104 : Nat → Int32} {f105 : Nat → Int32} {q68 : Nat} {q69 : Nat} {q70 : Nat} {q71 : Nat} {q72 : Nat} {x151 : Int32} {f152 : Nat → Int32} {f153 : Nat → Int32} {f154 : Nat → Int32} {f155 : Nat → Int32} {f156 : Nat → Int32} {q157 : Nat} {q40 : Nat} {q41 : Nat} {q42 : Nat} {q43 : Nat} {q158 : Nat} {q44 : Nat} {q75 : Nat} {q45 : Nat} {q74 : Nat} {q46 : Nat} {q49 : Nat} {q188 : Nat} {fs203 : List Value} {q189 : Nat} {q195 : Nat} {q200 : Nat} {q196 : Nat} {q197 : Nat} {q201 : Nat} {q198 : Nat} {q199 : Nat} {q190 : Nat} {q191 : Nat} {q192 : Nat} {q193 : Nat} {q194 : Nat} {q202 : Nat} {f206 : Nat → Int32} {f207 : Nat → Int32} {f210 : Nat → Int32} {f214 : Nat → Int32} (hnc : nc ≤ 1000) (hns : ns ≤ 100000) (hcx : Cx p s m #[Value.ref b] meth c cL_law 4 ret RL meth.name g) (hX : va_X b 6 xs s s.heap) (hbl : b < s.heap.size) (hbA : ¬ A b) (hA : ∀ q : Nat, s.heap.size ≤ q → A q) (hAl : ∀ q : Nat, A q → s.heap.size ≤ q) (hf218 : fs203.length = 69) (hf219 : fs203[0]? = some (Value.ref q189)) (hf220 : fs203[11]? = some (Value.ref q195)) (hf221 : fs203[12]? = some (Value.ref q200)) (hf222 : fs203[13]? = some (Value.ref q196)) (hf223 : fs203[14]? = some (Value.ref q197)) (hf224 : fs203[15]? = some (Value.ref q201)) (hf225 : fs203[16]? = some (Value.ref q198)) (hf226 : fs203[46]? = some (Value.ref q199)) (hf227 : fs203[48]? = some (Value.ref q190)) (hf228 : fs203[51]? = some (Value.ref q191)) (hf229 : fs203[53]? = some (Value.ref q192)) (hf230 : fs203[56]? = some (Value.ref q193)) (hf231 : fs203[67]? = some (Value.ref q194)) (hf232 : fs203[68]? = some (Value.ref q202)) (hf233 : fs203[2]? = some (Value.int 0)) (hf234 : fs203[4]? = some (Value.int 0)) (hf235 : fs203[5]? = some (Value.int (-1))) (hf236 : fs203[34]? = some (Value.int 0)) (hf237 : fs203[49]? = some (Value.int 0)) (hf238 : fs203[50]? = some (Value.int 0)) (hf239 : fs203[54]? = some (Value.int 0)) (hf240 : fs203[65]? = some (Value.int 0)) (hf241 : fs203[66]? = some (Value.int 0)) (hf242 : f210 0 = 0) (hf246 : f214 20 = 0) (hf247 : f214 21 = 0) (hf248 : f214 22 = 0) (hf249 : f214 23 = 0) (hP : va_P g.1 vwCl [(q1, .inr (10, [.ref q2, .int 0, .ref q3, .ref q52, .ref q73, .ref q13, .ref q67, .ref q76, .ref q11, .ref q86, .ref q84, .ref q12, .ref q85, .int 0])), (q12, .inr (4, [.ref q13, .ref q73, .ref q67, .ref q84, .ref q14, .ref q96, .ref q97, .ref q98, .ref q99, .ref q20, .ref q21, .int 0])), (q14, .inr (7, [.ref q15, .ref q16, .ref q17, .ref q18, .ref q19, .int 0, .int 0, .int 0, .int 0, .int 0])), (q15, .inl (gI g, 5, .inl f101)), (q16, .inl (gI g, 5, .inl f102)), (q17, .inl (gI g, 5, .inl f103)), (q18, .inl (gI g, 5, .inl f104)), (q19, .inl (gI g, 5, .inl f105)), (q67, .inr (7, [.ref q68, .ref q69, .ref q70, .ref q71, .ref q72, .int 0, .int 0, .int 0, .int 0, .int x151])), (q68, .inl (gI g, 5, .inl f152)), (q69, .inl (gI g, 5, .inl f153)), (q70, .inl (gI g, 5, .inl f154)), (q71, .inl (gI g, 5, .inl f155)), (q72, .inl (gI g, 5, .inl f156)), (q73, .inr (9, [.int 0, .int 0, .int 0, .int 0, .int 0, .ref q157, .ref q40, .ref q41, .ref q42, .ref q43, .ref q158, .ref q44, .ref q75, .ref q45, .ref q74, .ref q46, .ref q49])), (q188, .inr (11, fs203)), (q191, .inl (gI g, 24, .inl f206)), (q192, .inl (gI g, 8, .inl f207)), (q195, .inl (gI g, 2, .inl f210)), (q199, .inl (gI g, 24, .inl f214))] H) (hD : va_D A [(q1, .inr (10, [.ref q2, .int 0, .ref q3, .ref q52, .ref q73, .ref q13, .ref q67, .ref q76, .ref q11, .ref q86, .ref q84, .ref q12, .ref q85, .int 0])), (q12, .inr (4, [.ref q13, .ref q73, .ref q67, .ref q84, .ref q14, .ref q96, .ref q97, .ref q98, .ref q99, .ref q20, .ref q21, .int 0])), (q14, .inr (7, [.ref q15, .ref q16, .ref q17, .ref q18, .ref q19, .int 0, .int 0, .int 0, .int 0, .int 0])), (q15, .inl (gI g, 5, .inl f101)), (q16, .inl (gI g, 5, .inl f102)), (q17, .inl (gI g, 5, .inl f103)), (q18, .inl (gI g, 5, .inl f104)), (q19, .inl (gI g, 5, .inl f105)), (q67, .inr (7, [.ref q68, .ref q69, .ref q70, .ref q71, .ref q72, .int 0, .int 0, .int 0, .int 0, .int x151])), (q68, .inl (gI g, 5, .inl f152)), (q69, .inl (gI g, 5, .inl f153)), (q70, .inl (gI g, 5, .inl f154)), (q71, .inl (gI g, 5, .inl f155)), (q72, .inl (gI g, 5, .inl f156)), (q73, .inr (9, [.int 0, .int 0, .int 0, .int 0, .int 0, .ref q157, .ref q40, .ref q41, .ref q42, .ref q43, .ref q158, .ref q44, .ref q75, .ref q45, .ref q74, .ref q46, .ref q49])), (q188, .inr (11, fs203)), (q191, .inl (gI g, 24, .inl f206)), (q192, .inl (gI g, 8, .inl f207)), (q195, .inl (gI g, 2, .inl f210)), (q199, .inl (gI g, 24, .inl f214))]) (hS : va_S A s.heap H locs) (hl : lv_has ls 4 [(3, .int 0), (2, .ref q188), (1, .ref q1), (0, .ref b)]) : W p l e room_1 s m #[Value.ref b] below meth c H locs nc ns (lw_Z below #[Value.ref b] s) (F0 m 933 ls []) := by
  obtain ⟨hx, hb, hml, hr, hlocks, hown, hts, hE, hnm⟩ := id hcx
  have hK := hE.1
  refine lv_aload_n hx hb dL_law_933 rfl (lv_at hl 2 rfl) ?_
  refine kI (wc := [(q1, .inr (10, [.ref q2, .int 0, .ref q3, .ref q52, .ref q73, .ref q13, .ref q67, .ref q76, .ref q11, .ref q86, .ref q84, .ref q12, .ref q85, .int 0])), (q12, .inr (4, [.ref q13, .ref q73, .ref q67, .ref q84, .ref q14, .ref q96, .ref q97, .ref q98, .ref q99, .ref q20, .ref q21, .int 0])), (q14, .inr (7, [.ref q15, .ref q16, .ref q17, .ref q18, .ref q19, .int 0, .int 0, .int 0, .int 0, .int 0])), (q15, .inl (gI g, 5, .inl f101)), (q16, .inl (gI g, 5, .inl f102)), (q17, .inl (gI g, 5, .inl f103)), (q18, .inl (gI g, 5, .inl f104)), (q19, .inl (gI g, 5, .inl f105)), (q67, .inr (7, [.ref q68, .ref q69, .ref q70, .ref q71, .ref q72, .int 0, .int 0, .int 0, .int 0, .int x151])), (q68, .inl (gI g, 5, .inl f152)), (q69, .inl (gI g, 5, .inl f153)), (q70, .inl (gI g, 5, .inl f154)), (q71, .inl (gI g, 5, .inl f155)), (q72, .inl (gI g, 5, .inl f156)), (q73, .inr (9, [.int 0, .int 0, .int 0, .int 0, .int 0, .ref q157, .ref q40, .ref q41, .ref q42, .ref q43, .ref q158, .ref q44, .ref q75, .ref q45, .ref q74, .ref q46, .ref q49]))]) (wr := [(q188, .inr (11, fs203)), (q191, .inl (gI g, 24, .inl f206)), (q192, .inl (gI g, 8, .inl f207)), (q195, .inl (gI g, 2, .inl f210)), (q199, .inl (gI g, 24, .inl f214))]) (rV (As := []) (rest := []) (meth2 := "") hcx (c_X10_worst H.size) (gdV q59_0 q59_1 q59_2 q1_2 q59_3) dvX10_worst ⟨Nat.le_of_ble_eq_true rfl, Nat.le_of_ble_eq_true rfl⟩ (hP.sub [0, 1, 2, 3, 4, 5, 6, 7, 8, 9, 10, 11, 12, 13, 14] rfl) (hD.sub [0, 1, 2, 3, 4, 5, 6, 7, 8, 9, 10, 11, 12, 13, 14] (by decide) rfl) (va_recv hK hP (ci := 10) (q0 := 0) rfl rfl) rfl hl.1 rfl (Nat.le_of_ble_eq_true rfl) dL_law_934 ⟨by show _ + 0 ≤ 600000; omega, by show _ + 0 ≤ 7302250; omega⟩) hP hD hS hA [0, 1, 2, 3, 4, 5, 6, 7, 8, 9, 10, 11, 12, 13, 14] [15, 16, 17, 18, 19] rfl rfl (by decide) (by decide) (fun r W' H locs hw hP hD hS => ?_)
  obtain ⟨rfl, rfl⟩ := hw
  have hP : va_P g.1 vwCl [(q188, .inr (11, fs203)), (q191, .inl (gI g, 24, .inl f206)), (q192, .inl (gI g, 8, .inl f207)), (q195, .inl (gI g, 2, .inl f210)), (q199, .inl (gI g, 24, .inl f214))] H := hP
  have hD : va_D A [(q188, .inr (11, fs203)), (q191, .inl (gI g, 24, .inl f206)), (q192, .inl (gI g, 8, .inl f207)), (q195, .inl (gI g, 2, .inl f210)), (q199, .inl (gI g, 24, .inl f214))] := hD
  refine lv_aload_n hx hb dL_law_937 rfl (lv_at hl 1 rfl) ?_
  refine kI (wc := [(q188, .inr (11, fs203)), (q199, .inl (gI g, 24, .inl f214)), (q191, .inl (gI g, 24, .inl f206)), (q192, .inl (gI g, 8, .inl f207)), (q195, .inl (gI g, 2, .inl f210))]) (wr := []) (rV (As := []) (rest := [.int (-1)]) (meth2 := "") hcx (c_X11_worst (hf218) (hf226) (hf228) (hf229) (hf220) (hf236) (hf246) (hf247) (hf242) H.size) (gdV q59_9 q59_10 q59_11 q1_5 q59_12) dvX11_worst ⟨Nat.le_of_ble_eq_true rfl, Nat.le_of_ble_eq_true rfl⟩ (hP.sub [0, 4, 1, 2, 3] rfl) (hD.sub [0, 4, 1, 2, 3] (by decide) rfl) (va_recv hK hP (ci := 11) (q0 := 0) rfl rfl) rfl hl.1 rfl (Nat.le_of_ble_eq_true rfl) dL_law_938 ⟨by show _ + 0 ≤ 600000; omega, by show _ + 0 ≤ 7302250; omega⟩) hP hD hS hA [0, 4, 1, 2, 3] [] rfl rfl (by decide) (by decide) (fun r W' H locs hw hP hD hS => ?_)
  obtain ⟨rfl, rfl⟩ := hw
  have hP : va_P g.1 vwCl [] H := hP
  have hD : va_D A [] := hD
  refine lv_icmp_eq (tgt := 1278) hx hb dL_law_941 (by decide) (fun _ => ?_) (fun c1001 => absurd (by decide) c1001)
  refine lv_iinc (v := 6) (lv' := [(3, .int 6), (2, .ref q188), (1, .ref q1), (0, .ref b)]) hx hb dL_law_1278 hl (k := 0) rfl (by decide) (by decide) rfl (fun ls hl => ?_)
  refine lv_goto (tgt := 18) hx hb dL_law_1281 (by decide) ?_
  refine lv_iload_n hx hb dL_law_18 rfl (lv_at hl 0 rfl) ?_
  refine lv_aload_n hx hb dL_law_19 rfl (lv_at hl 3 rfl) ?_
  refine va_slen hx hb hX hbl hbA hS dL_law_20 ?_
  refine lv_tope (y := 6) (by decide) ?_
  refine lv_bipush (v := 6) hx hb dL_law_21 (by decide) ?_
  refine lv_isub hx hb dL_law_23 ?_
  refine lv_tope (y := 0) (by decide) ?_
  refine lv_icmp_gt (tgt := 1284) hx hb dL_law_24 (by decide) (fun _ => ?_) (fun c1002 => absurd (by decide) c1002)
  refine lv_iconst (v := 1) hx hb dL_law_1284 (by decide) ?_
  refine va_forget (fun q hq => hAl _ (hS.2.2 q hq)) ?_
  refine W.widen (k := 600000) (n := 7302250) (by omega) (by omega) ?_
  exact lw_ret hx hb hr hlocks dL_law_1285

set_option maxHeartbeats 40000000 in
set_option maxRecDepth 100000 in
theorem lc_30 {p : Program} {l : Launch} {e : Env} {s : State} {m : MethodId} {below : List Frame} {meth : Method} {c : Code} {g : Gx} {b : Nat} {xs : Nat → Int32} {A : Nat → Prop} {H : Heap} {locs : List Loc} {ls : Array Slot} {nc ns : Nat} {q1 : Nat} {q2 : Nat} {q3 : Nat} {q52 : Nat} {q73 : Nat} {q13 : Nat} {q67 : Nat} {q76 : Nat} {q11 : Nat} {q86 : Nat} {q84 : Nat} {q12 : Nat} {q85 : Nat} {q14 : Nat} {q96 : Nat} {q97 : Nat} {q98 : Nat} {q99 : Nat} {q20 : Nat} {q21 : Nat} {q157 : Nat} {q40 : Nat} {q41 : Nat} {q42 : Nat} {q43 : Nat} {q158 : Nat} {q44 : Nat} {q75 : Nat} {q45 : Nat} {q74 : Nat} {q46 : Nat} {q49 : Nat} {q188 : Nat} {fs203 : List Value} {q189 : Nat} {q195 : Nat} {q200 : Nat} {q196 : Nat} {q197 : Nat} {q201 : Nat} {q198 : Nat} {q199 : Nat} {q190 : Nat} {q191 : Nat} {q192 : Nat} {q193 : Nat} {q194 : Nat} {q202 : Nat} {f215 : Nat → Int32} (hnc : nc ≤ 1000) (hns : ns ≤ 100000) (hcx : Cx p s m #[Value.ref b] meth c cL_law 4 ret RL meth.name g) (hX : va_X b 6 xs s s.heap) (hbl : b < s.heap.size) (hbA : ¬ A b) (hA : ∀ q : Nat, s.heap.size ≤ q → A q) (hAl : ∀ q : Nat, A q → s.heap.size ≤ q) (hf218 : fs203.length = 69) (hf219 : fs203[0]? = some (Value.ref q189)) (hf220 : fs203[11]? = some (Value.ref q195)) (hf221 : fs203[12]? = some (Value.ref q200)) (hf222 : fs203[13]? = some (Value.ref q196)) (hf223 : fs203[14]? = some (Value.ref q197)) (hf224 : fs203[15]? = some (Value.ref q201)) (hf225 : fs203[16]? = some (Value.ref q198)) (hf226 : fs203[46]? = some (Value.ref q199)) (hf227 : fs203[48]? = some (Value.ref q190)) (hf228 : fs203[51]? = some (Value.ref q191)) (hf229 : fs203[53]? = some (Value.ref q192)) (hf230 : fs203[56]? = some (Value.ref q193)) (hf231 : fs203[67]? = some (Value.ref q194)) (hf232 : fs203[68]? = some (Value.ref q202)) (hf233 : fs203[2]? = some (Value.int 0)) (hf234 : fs203[4]? = some (Value.int 0)) (hf235 : fs203[5]? = some (Value.int (-1))) (hf236 : fs203[34]? = some (Value.int 0)) (hf237 : fs203[49]? = some (Value.int 0)) (hf238 : fs203[50]? = some (Value.int 0)) (hf239 : fs203[54]? = some (Value.int 0)) (hf240 : fs203[65]? = some (Value.int 0)) (hf241 : fs203[66]? = some (Value.int 0)) (hf250 : f215 0 = 0) (hP : va_P g.1 vwCl [(q1, .inr (10, [.ref q2, .int 0, .ref q3, .ref q52, .ref q73, .ref q13, .ref q67, .ref q76, .ref q11, .ref q86, .ref q84, .ref q12, .ref q85, .int 0])), (q12, .inr (4, [.ref q13, .ref q73, .ref q67, .ref q84, .ref q14, .ref q96, .ref q97, .ref q98, .ref q99, .ref q20, .ref q21, .int 0])), (q73, .inr (9, [.int 0, .int 0, .int 0, .int 0, .int 0, .ref q157, .ref q40, .ref q41, .ref q42, .ref q43, .ref q158, .ref q44, .ref q75, .ref q45, .ref q74, .ref q46, .ref q49])), (q188, .inr (11, fs203)), (q200, .inl (gI g, 2, .inl f215))] H) (hD : va_D A [(q1, .inr (10, [.ref q2, .int 0, .ref q3, .ref q52, .ref q73, .ref q13, .ref q67, .ref q76, .ref q11, .ref q86, .ref q84, .ref q12, .ref q85, .int 0])), (q12, .inr (4, [.ref q13, .ref q73, .ref q67, .ref q84, .ref q14, .ref q96, .ref q97, .ref q98, .ref q99, .ref q20, .ref q21, .int 0])), (q73, .inr (9, [.int 0, .int 0, .int 0, .int 0, .int 0, .ref q157, .ref q40, .ref q41, .ref q42, .ref q43, .ref q158, .ref q44, .ref q75, .ref q45, .ref q74, .ref q46, .ref q49])), (q188, .inr (11, fs203)), (q200, .inl (gI g, 2, .inl f215))]) (hS : va_S A s.heap H locs) (hl : lv_has ls 4 [(3, .int 0), (2, .ref q188), (1, .ref q1), (0, .ref b)]) : W p l e room_1 s m #[Value.ref b] below meth c H locs nc ns (lw_Z below #[Value.ref b] s) (F0 m 946 ls []) := by
  obtain ⟨hx, hb, hml, hr, hlocks, hown, hts, hE, hnm⟩ := id hcx
  have hK := hE.1
  refine lv_aload_n hx hb dL_law_946 rfl (lv_at hl 2 rfl) ?_
  refine kI (wc := [(q1, .inr (10, [.ref q2, .int 0, .ref q3, .ref q52, .ref q73, .ref q13, .ref q67, .ref q76, .ref q11, .ref q86, .ref q84, .ref q12, .ref q85, .int 0])), (q12, .inr (4, [.ref q13, .ref q73, .ref q67, .ref q84, .ref q14, .ref q96, .ref q97, .ref q98, .ref q99, .ref q20, .ref q21, .int 0])), (q73, .inr (9, [.int 0, .int 0, .int 0, .int 0, .int 0, .ref q157, .ref q40, .ref q41, .ref q42, .ref q43, .ref q158, .ref q44, .ref q75, .ref q45, .ref q74, .ref q46, .ref q49]))]) (wr := [(q188, .inr (11, fs203)), (q200, .inl (gI g, 2, .inl f215))]) (rV (As := []) (rest := []) (meth2 := "") hcx (c_X10_narrow H.size) (gdV q59_13 q59_14 q59_15 q1_2 q59_16) dvX10_narrow ⟨Nat.le_of_ble_eq_true rfl, Nat.le_of_ble_eq_true rfl⟩ (hP.sub [0, 1, 2] rfl) (hD.sub [0, 1, 2] (by decide) rfl) (va_recv hK hP (ci := 10) (q0 := 0) rfl rfl) rfl hl.1 rfl (Nat.le_of_ble_eq_true rfl) dL_law_947 ⟨by show _ + 0 ≤ 600000; omega, by show _ + 0 ≤ 7302250; omega⟩) hP hD hS hA [0, 1, 2] [3, 4] rfl rfl (by decide) (by decide) (fun r W' H locs hw hP hD hS => ?_)
  obtain ⟨rfl, rfl⟩ := hw
  have hP : va_P g.1 vwCl [(q188, .inr (11, fs203)), (q200, .inl (gI g, 2, .inl f215))] H := hP
  have hD : va_D A [(q188, .inr (11, fs203)), (q200, .inl (gI g, 2, .inl f215))] := hD
  refine lv_aload_n hx hb dL_law_950 rfl (lv_at hl 1 rfl) ?_
  refine kI (wc := [(q188, .inr (11, fs203)), (q200, .inl (gI g, 2, .inl f215))]) (wr := []) (rV (As := []) (rest := [.int 0]) (meth2 := "") hcx (c_X11_narrow (hf218) (hf221) (hf236) (hf250) H.size) (gdV q59_22 q59_23 q60_0 q1_5 q60_1) dvX11_narrow ⟨Nat.le_of_ble_eq_true rfl, Nat.le_of_ble_eq_true rfl⟩ (hP.sub [0, 1] rfl) (hD.sub [0, 1] (by decide) rfl) (va_recv hK hP (ci := 11) (q0 := 0) rfl rfl) rfl hl.1 rfl (Nat.le_of_ble_eq_true rfl) dL_law_951 ⟨by show _ + 0 ≤ 600000; omega, by show _ + 0 ≤ 7302250; omega⟩) hP hD hS hA [0, 1] [] rfl rfl (by decide) (by decide) (fun r W' H locs hw hP hD hS => ?_)
  obtain ⟨rfl, rfl⟩ := hw
  have hP : va_P g.1 vwCl [] H := hP
  have hD : va_D A [] := hD
  refine lv_icmp_eq (tgt := 1278) hx hb dL_law_954 (by decide) (fun _ => ?_) (fun c1001 => absurd (by decide) c1001)
  refine lv_iinc (v := 6) (lv' := [(3, .int 6), (2, .ref q188), (1, .ref q1), (0, .ref b)]) hx hb dL_law_1278 hl (k := 0) rfl (by decide) (by decide) rfl (fun ls hl => ?_)
  refine lv_goto (tgt := 18) hx hb dL_law_1281 (by decide) ?_
  refine lv_iload_n hx hb dL_law_18 rfl (lv_at hl 0 rfl) ?_
  refine lv_aload_n hx hb dL_law_19 rfl (lv_at hl 3 rfl) ?_
  refine va_slen hx hb hX hbl hbA hS dL_law_20 ?_
  refine lv_tope (y := 6) (by decide) ?_
  refine lv_bipush (v := 6) hx hb dL_law_21 (by decide) ?_
  refine lv_isub hx hb dL_law_23 ?_
  refine lv_tope (y := 0) (by decide) ?_
  refine lv_icmp_gt (tgt := 1284) hx hb dL_law_24 (by decide) (fun _ => ?_) (fun c1002 => absurd (by decide) c1002)
  refine lv_iconst (v := 1) hx hb dL_law_1284 (by decide) ?_
  refine va_forget (fun q hq => hAl _ (hS.2.2 q hq)) ?_
  refine W.widen (k := 600000) (n := 7302250) (by omega) (by omega) ?_
  exact lw_ret hx hb hr hlocks dL_law_1285

set_option maxHeartbeats 40000000 in
set_option maxRecDepth 100000 in
theorem lc_31 {p : Program} {l : Launch} {e : Env} {s : State} {m : MethodId} {below : List Frame} {meth : Method} {c : Code} {g : Gx} {b : Nat} {xs : Nat → Int32} {A : Nat → Prop} {H : Heap} {locs : List Loc} {ls : Array Slot} {nc ns : Nat} {q1 : Nat} {q2 : Nat} {q3 : Nat} {q52 : Nat} {q73 : Nat} {q13 : Nat} {q67 : Nat} {q76 : Nat} {q11 : Nat} {q86 : Nat} {q84 : Nat} {q12 : Nat} {q85 : Nat} {q157 : Nat} {q40 : Nat} {q41 : Nat} {q42 : Nat} {q43 : Nat} {q158 : Nat} {q44 : Nat} {q75 : Nat} {q45 : Nat} {q74 : Nat} {q46 : Nat} {q49 : Nat} {q188 : Nat} {fs203 : List Value} {q189 : Nat} {q195 : Nat} {q200 : Nat} {q196 : Nat} {q197 : Nat} {q201 : Nat} {q198 : Nat} {q199 : Nat} {q190 : Nat} {q191 : Nat} {q192 : Nat} {q193 : Nat} {q194 : Nat} {q202 : Nat} {f215 : Nat → Int32} (hnc : nc ≤ 1000) (hns : ns ≤ 100000) (hcx : Cx p s m #[Value.ref b] meth c cL_law 4 ret RL meth.name g) (hX : va_X b 6 xs s s.heap) (hbl : b < s.heap.size) (hbA : ¬ A b) (hA : ∀ q : Nat, s.heap.size ≤ q → A q) (hAl : ∀ q : Nat, A q → s.heap.size ≤ q) (hf218 : fs203.length = 69) (hf219 : fs203[0]? = some (Value.ref q189)) (hf220 : fs203[11]? = some (Value.ref q195)) (hf221 : fs203[12]? = some (Value.ref q200)) (hf222 : fs203[13]? = some (Value.ref q196)) (hf223 : fs203[14]? = some (Value.ref q197)) (hf224 : fs203[15]? = some (Value.ref q201)) (hf225 : fs203[16]? = some (Value.ref q198)) (hf226 : fs203[46]? = some (Value.ref q199)) (hf227 : fs203[48]? = some (Value.ref q190)) (hf228 : fs203[51]? = some (Value.ref q191)) (hf229 : fs203[53]? = some (Value.ref q192)) (hf230 : fs203[56]? = some (Value.ref q193)) (hf231 : fs203[67]? = some (Value.ref q194)) (hf232 : fs203[68]? = some (Value.ref q202)) (hf233 : fs203[2]? = some (Value.int 0)) (hf234 : fs203[4]? = some (Value.int 0)) (hf235 : fs203[5]? = some (Value.int (-1))) (hf236 : fs203[34]? = some (Value.int 0)) (hf237 : fs203[49]? = some (Value.int 0)) (hf238 : fs203[50]? = some (Value.int 0)) (hf239 : fs203[54]? = some (Value.int 0)) (hf240 : fs203[65]? = some (Value.int 0)) (hf241 : fs203[66]? = some (Value.int 0)) (hf250 : f215 0 = 0) (hP : va_P g.1 vwCl [(q1, .inr (10, [.ref q2, .int 0, .ref q3, .ref q52, .ref q73, .ref q13, .ref q67, .ref q76, .ref q11, .ref q86, .ref q84, .ref q12, .ref q85, .int 0])), (q73, .inr (9, [.int 0, .int 0, .int 0, .int 0, .int 0, .ref q157, .ref q40, .ref q41, .ref q42, .ref q43, .ref q158, .ref q44, .ref q75, .ref q45, .ref q74, .ref q46, .ref q49])), (q188, .inr (11, fs203)), (q200, .inl (gI g, 2, .inl f215))] H) (hD : va_D A [(q1, .inr (10, [.ref q2, .int 0, .ref q3, .ref q52, .ref q73, .ref q13, .ref q67, .ref q76, .ref q11, .ref q86, .ref q84, .ref q12, .ref q85, .int 0])), (q73, .inr (9, [.int 0, .int 0, .int 0, .int 0, .int 0, .ref q157, .ref q40, .ref q41, .ref q42, .ref q43, .ref q158, .ref q44, .ref q75, .ref q45, .ref q74, .ref q46, .ref q49])), (q188, .inr (11, fs203)), (q200, .inl (gI g, 2, .inl f215))]) (hS : va_S A s.heap H locs) (hl : lv_has ls 4 [(3, .int 0), (2, .ref q188), (1, .ref q1), (0, .ref b)]) : W p l e room_1 s m #[Value.ref b] below meth c H locs nc ns (lw_Z below #[Value.ref b] s) (F0 m 959 ls []) := by
  obtain ⟨hx, hb, hml, hr, hlocks, hown, hts, hE, hnm⟩ := id hcx
  have hK := hE.1
  refine lv_aload_n hx hb dL_law_959 rfl (lv_at hl 2 rfl) ?_
  refine lv_aload_n hx hb dL_law_960 rfl (lv_at hl 3 rfl) ?_
  refine lv_iload_n hx hb dL_law_961 rfl (lv_at hl 0 rfl) ?_
  refine lv_iconst (v := 1) hx hb dL_law_962 (by decide) ?_
  refine lv_iadd hx hb dL_law_963 ?_
  refine lv_tope (y := 1) (by decide) ?_
  refine sc_ld hx hb hX hbl hbA hS 1 rfl (by decide) (by decide) dL_law_964 ?_
  refine lv_aload_n hx hb dL_law_965 rfl (lv_at hl 3 rfl) ?_
  refine lv_iload_n hx hb dL_law_966 rfl (lv_at hl 0 rfl) ?_
  refine lv_iconst (v := 2) hx hb dL_law_967 (by decide) ?_
  refine lv_iadd hx hb dL_law_968 ?_
  refine lv_tope (y := 2) (by decide) ?_
  refine sc_ld hx hb hX hbl hbA hS 2 rfl (by decide) (by decide) dL_law_969 ?_
  refine kI (wc := [(q1, .inr (10, [.ref q2, .int 0, .ref q3, .ref q52, .ref q73, .ref q13, .ref q67, .ref q76, .ref q11, .ref q86, .ref q84, .ref q12, .ref q85, .int 0])), (q73, .inr (9, [.int 0, .int 0, .int 0, .int 0, .int 0, .ref q157, .ref q40, .ref q41, .ref q42, .ref q43, .ref q158, .ref q44, .ref q75, .ref q45, .ref q74, .ref q46, .ref q49]))]) (wr := [(q188, .inr (11, fs203)), (q200, .inl (gI g, 2, .inl f215))]) (rV (As := [.int (xs 1), .int (xs 2)]) (rest := []) (meth2 := "") hcx (c_X10_odds H.size) (gdV q60_2 q60_3 q60_4 q1_2 q60_5) dvX10_odds ⟨Nat.le_of_ble_eq_true rfl, Nat.le_of_ble_eq_true rfl⟩ (hP.sub [0, 1] rfl) (hD.sub [0, 1] (by decide) rfl) (va_recv hK hP (ci := 10) (q0 := 0) rfl rfl) rfl hl.1 rfl (Nat.le_of_ble_eq_true rfl) dL_law_970 ⟨by show _ + 0 ≤ 600000; omega, by show _ + 0 ≤ 7302250; omega⟩) hP hD hS hA [0, 1] [2, 3] rfl rfl (by decide) (by decide) (fun r W' H locs hw hP hD hS => ?_)
  obtain ⟨rfl, rfl⟩ := hw
  have hP : va_P g.1 vwCl [(q188, .inr (11, fs203)), (q200, .inl (gI g, 2, .inl f215))] H := hP
  have hD : va_D A [(q188, .inr (11, fs203)), (q200, .inl (gI g, 2, .inl f215))] := hD
  refine lv_aload_n hx hb dL_law_973 rfl (lv_at hl 1 rfl) ?_
  refine lv_aload_n hx hb dL_law_974 rfl (lv_at hl 3 rfl) ?_
  refine lv_iload_n hx hb dL_law_975 rfl (lv_at hl 0 rfl) ?_
  refine lv_iconst (v := 1) hx hb dL_law_976 (by decide) ?_
  refine lv_iadd hx hb dL_law_977 ?_
  refine lv_tope (y := 1) (by decide) ?_
  refine sc_ld hx hb hX hbl hbA hS 1 rfl (by decide) (by decide) dL_law_978 ?_
  refine lv_aload_n hx hb dL_law_979 rfl (lv_at hl 3 rfl) ?_
  refine lv_iload_n hx hb dL_law_980 rfl (lv_at hl 0 rfl) ?_
  refine lv_iconst (v := 2) hx hb dL_law_981 (by decide) ?_
  refine lv_iadd hx hb dL_law_982 ?_
  refine lv_tope (y := 2) (by decide) ?_
  refine sc_ld hx hb hX hbl hbA hS 2 rfl (by decide) (by decide) dL_law_983 ?_
  refine kI (wc := [(q188, .inr (11, fs203)), (q200, .inl (gI g, 2, .inl f215))]) (wr := []) (rV (As := [.int (xs 1), .int (xs 2)]) (rest := [.int (-1)]) (meth2 := "") hcx (c_X11_odds (hf218) (hf221) (hf236) (hf250) H.size) (gdV q60_19 q60_20 q60_21 q1_5 q60_22) dvX11_odds ⟨Nat.le_of_ble_eq_true rfl, Nat.le_of_ble_eq_true rfl⟩ (hP.sub [0, 1] rfl) (hD.sub [0, 1] (by decide) rfl) (va_recv hK hP (ci := 11) (q0 := 0) rfl rfl) rfl hl.1 rfl (Nat.le_of_ble_eq_true rfl) dL_law_984 ⟨by show _ + 0 ≤ 600000; omega, by show _ + 0 ≤ 7302250; omega⟩) hP hD hS hA [0, 1] [] rfl rfl (by decide) (by decide) (fun r W' H locs hw hP hD hS => ?_)
  obtain ⟨rfl, rfl⟩ := hw
  have hP : va_P g.1 vwCl [] H := hP
  have hD : va_D A [] := hD
  refine lv_icmp_eq (tgt := 1278) hx hb dL_law_987 (by decide) (fun _ => ?_) (fun c1001 => absurd (by decide) c1001)
  refine lv_iinc (v := 6) (lv' := [(3, .int 6), (2, .ref q188), (1, .ref q1), (0, .ref b)]) hx hb dL_law_1278 hl (k := 0) rfl (by decide) (by decide) rfl (fun ls hl => ?_)
  refine lv_goto (tgt := 18) hx hb dL_law_1281 (by decide) ?_
  refine lv_iload_n hx hb dL_law_18 rfl (lv_at hl 0 rfl) ?_
  refine lv_aload_n hx hb dL_law_19 rfl (lv_at hl 3 rfl) ?_
  refine va_slen hx hb hX hbl hbA hS dL_law_20 ?_
  refine lv_tope (y := 6) (by decide) ?_
  refine lv_bipush (v := 6) hx hb dL_law_21 (by decide) ?_
  refine lv_isub hx hb dL_law_23 ?_
  refine lv_tope (y := 0) (by decide) ?_
  refine lv_icmp_gt (tgt := 1284) hx hb dL_law_24 (by decide) (fun _ => ?_) (fun c1002 => absurd (by decide) c1002)
  refine lv_iconst (v := 1) hx hb dL_law_1284 (by decide) ?_
  refine va_forget (fun q hq => hAl _ (hS.2.2 q hq)) ?_
  refine W.widen (k := 600000) (n := 7302250) (by omega) (by omega) ?_
  exact lw_ret hx hb hr hlocks dL_law_1285

set_option maxHeartbeats 40000000 in
set_option maxRecDepth 100000 in
theorem lc_32 {p : Program} {l : Launch} {e : Env} {s : State} {m : MethodId} {below : List Frame} {meth : Method} {c : Code} {g : Gx} {b : Nat} {xs : Nat → Int32} {A : Nat → Prop} {H : Heap} {locs : List Loc} {ls : Array Slot} {nc ns : Nat} {q1 : Nat} {q2 : Nat} {q3 : Nat} {q52 : Nat} {q73 : Nat} {q13 : Nat} {q67 : Nat} {q76 : Nat} {q11 : Nat} {q86 : Nat} {q84 : Nat} {q12 : Nat} {q85 : Nat} {q168 : Nat} {q188 : Nat} {fs203 : List Value} {q189 : Nat} {q195 : Nat} {q200 : Nat} {q196 : Nat} {q197 : Nat} {q201 : Nat} {q198 : Nat} {q199 : Nat} {q190 : Nat} {q191 : Nat} {q192 : Nat} {q193 : Nat} {q194 : Nat} {q202 : Nat} (hnc : nc ≤ 1000) (hns : ns ≤ 100000) (hcx : Cx p s m #[Value.ref b] meth c cL_law 4 ret RL meth.name g) (hX : va_X b 6 xs s s.heap) (hbl : b < s.heap.size) (hbA : ¬ A b) (hA : ∀ q : Nat, s.heap.size ≤ q → A q) (hAl : ∀ q : Nat, A q → s.heap.size ≤ q) (hf218 : fs203.length = 69) (hf219 : fs203[0]? = some (Value.ref q189)) (hf220 : fs203[11]? = some (Value.ref q195)) (hf221 : fs203[12]? = some (Value.ref q200)) (hf222 : fs203[13]? = some (Value.ref q196)) (hf223 : fs203[14]? = some (Value.ref q197)) (hf224 : fs203[15]? = some (Value.ref q201)) (hf225 : fs203[16]? = some (Value.ref q198)) (hf226 : fs203[46]? = some (Value.ref q199)) (hf227 : fs203[48]? = some (Value.ref q190)) (hf228 : fs203[51]? = some (Value.ref q191)) (hf229 : fs203[53]? = some (Value.ref q192)) (hf230 : fs203[56]? = some (Value.ref q193)) (hf231 : fs203[67]? = some (Value.ref q194)) (hf232 : fs203[68]? = some (Value.ref q202)) (hf233 : fs203[2]? = some (Value.int 0)) (hf234 : fs203[4]? = some (Value.int 0)) (hf235 : fs203[5]? = some (Value.int (-1))) (hf236 : fs203[34]? = some (Value.int 0)) (hf237 : fs203[49]? = some (Value.int 0)) (hf238 : fs203[50]? = some (Value.int 0)) (hf239 : fs203[54]? = some (Value.int 0)) (hf240 : fs203[65]? = some (Value.int 0)) (hf241 : fs203[66]? = some (Value.int 0)) (hP : va_P g.1 vwCl [(q1, .inr (10, [.ref q2, .int 0, .ref q3, .ref q52, .ref q73, .ref q13, .ref q67, .ref q76, .ref q11, .ref q86, .ref q84, .ref q12, .ref q85, .int 0])), (q84, .inr (3, [.ref q168, .int 0])), (q188, .inr (11, fs203))] H) (hD : va_D A [(q1, .inr (10, [.ref q2, .int 0, .ref q3, .ref q52, .ref q73, .ref q13, .ref q67, .ref q76, .ref q11, .ref q86, .ref q84, .ref q12, .ref q85, .int 0])), (q84, .inr (3, [.ref q168, .int 0])), (q188, .inr (11, fs203))]) (hS : va_S A s.heap H locs) (hl : lv_has ls 4 [(3, .int 0), (2, .ref q188), (1, .ref q1), (0, .ref b)]) : W p l e room_1 s m #[Value.ref b] below meth c H locs nc ns (lw_Z below #[Value.ref b] s) (F0 m 992 ls []) := by
  obtain ⟨hx, hb, hml, hr, hlocks, hown, hts, hE, hnm⟩ := id hcx
  have hK := hE.1
  refine lv_aload_n hx hb dL_law_992 rfl (lv_at hl 2 rfl) ?_
  refine lv_aload_n hx hb dL_law_993 rfl (lv_at hl 3 rfl) ?_
  refine lv_iload_n hx hb dL_law_994 rfl (lv_at hl 0 rfl) ?_
  refine lv_iconst (v := 1) hx hb dL_law_995 (by decide) ?_
  refine lv_iadd hx hb dL_law_996 ?_
  refine lv_tope (y := 1) (by decide) ?_
  refine sc_ld hx hb hX hbl hbA hS 1 rfl (by decide) (by decide) dL_law_997 ?_
  refine kI (wc := [(q1, .inr (10, [.ref q2, .int 0, .ref q3, .ref q52, .ref q73, .ref q13, .ref q67, .ref q76, .ref q11, .ref q86, .ref q84, .ref q12, .ref q85, .int 0])), (q84, .inr (3, [.ref q168, .int 0]))]) (wr := [(q188, .inr (11, fs203))]) (rV (As := [.int (xs 1)]) (rest := []) (meth2 := "") hcx (c_X10_lies H.size) (gdV q61_6 q61_7 q61_8 q1_2 q61_9) dvX10_lies ⟨Nat.le_of_ble_eq_true rfl, Nat.le_of_ble_eq_true rfl⟩ (hP.sub [0, 1] rfl) (hD.sub [0, 1] (by decide) rfl) (va_recv hK hP (ci := 10) (q0 := 0) rfl rfl) rfl hl.1 rfl (Nat.le_of_ble_eq_true rfl) dL_law_998 ⟨by show _ + 0 ≤ 600000; omega, by show _ + 0 ≤ 7302250; omega⟩) hP hD hS hA [0, 1] [2] rfl rfl (by decide) (by decide) (fun r W' H locs hw hP hD hS => ?_)
  obtain ⟨rfl, rfl⟩ := hw
  have hP : va_P g.1 vwCl [(q188, .inr (11, fs203))] H := hP
  have hD : va_D A [(q188, .inr (11, fs203))] := hD
  refine lv_aload_n hx hb dL_law_1001 rfl (lv_at hl 1 rfl) ?_
  refine lv_aload_n hx hb dL_law_1002 rfl (lv_at hl 3 rfl) ?_
  refine lv_iload_n hx hb dL_law_1003 rfl (lv_at hl 0 rfl) ?_
  refine lv_iconst (v := 1) hx hb dL_law_1004 (by decide) ?_
  refine lv_iadd hx hb dL_law_1005 ?_
  refine lv_tope (y := 1) (by decide) ?_
  refine sc_ld hx hb hX hbl hbA hS 1 rfl (by decide) (by decide) dL_law_1006 ?_
  refine kI (wc := [(q188, .inr (11, fs203))]) (wr := []) (rV (As := [.int (xs 1)]) (rest := [.int (-2)]) (meth2 := "") hcx (c_X11_lies (hf218) (hf239) H.size) (gdV q61_14 q61_15 q61_16 q1_5 q61_17) dvX11_lies ⟨Nat.le_of_ble_eq_true rfl, Nat.le_of_ble_eq_true rfl⟩ (hP.sub [0] rfl) (hD.sub [0] (by decide) rfl) (va_recv hK hP (ci := 11) (q0 := 0) rfl rfl) rfl hl.1 rfl (Nat.le_of_ble_eq_true rfl) dL_law_1007 ⟨by show _ + 0 ≤ 600000; omega, by show _ + 0 ≤ 7302250; omega⟩) hP hD hS hA [0] [] rfl rfl (by decide) (by decide) (fun r W' H locs hw hP hD hS => ?_)
  obtain ⟨rfl, rfl⟩ := hw
  have hP : va_P g.1 vwCl [] H := hP
  have hD : va_D A [] := hD
  refine lv_icmp_eq (tgt := 1278) hx hb dL_law_1010 (by decide) (fun _ => ?_) (fun c1001 => absurd (by decide) c1001)
  refine lv_iinc (v := 6) (lv' := [(3, .int 6), (2, .ref q188), (1, .ref q1), (0, .ref b)]) hx hb dL_law_1278 hl (k := 0) rfl (by decide) (by decide) rfl (fun ls hl => ?_)
  refine lv_goto (tgt := 18) hx hb dL_law_1281 (by decide) ?_
  refine lv_iload_n hx hb dL_law_18 rfl (lv_at hl 0 rfl) ?_
  refine lv_aload_n hx hb dL_law_19 rfl (lv_at hl 3 rfl) ?_
  refine va_slen hx hb hX hbl hbA hS dL_law_20 ?_
  refine lv_tope (y := 6) (by decide) ?_
  refine lv_bipush (v := 6) hx hb dL_law_21 (by decide) ?_
  refine lv_isub hx hb dL_law_23 ?_
  refine lv_tope (y := 0) (by decide) ?_
  refine lv_icmp_gt (tgt := 1284) hx hb dL_law_24 (by decide) (fun _ => ?_) (fun c1002 => absurd (by decide) c1002)
  refine lv_iconst (v := 1) hx hb dL_law_1284 (by decide) ?_
  refine va_forget (fun q hq => hAl _ (hS.2.2 q hq)) ?_
  refine W.widen (k := 600000) (n := 7302250) (by omega) (by omega) ?_
  exact lw_ret hx hb hr hlocks dL_law_1285

set_option maxHeartbeats 40000000 in
set_option maxRecDepth 100000 in
theorem lc_33 {p : Program} {l : Launch} {e : Env} {s : State} {m : MethodId} {below : List Frame} {meth : Method} {c : Code} {g : Gx} {b : Nat} {xs : Nat → Int32} {A : Nat → Prop} {H : Heap} {locs : List Loc} {ls : Array Slot} {nc ns : Nat} {q1 : Nat} {q2 : Nat} {q3 : Nat} {q52 : Nat} {q73 : Nat} {q13 : Nat} {q67 : Nat} {q76 : Nat} {q11 : Nat} {q86 : Nat} {q84 : Nat} {q12 : Nat} {q85 : Nat} {q157 : Nat} {q40 : Nat} {q41 : Nat} {q42 : Nat} {q43 : Nat} {q158 : Nat} {q44 : Nat} {q75 : Nat} {q45 : Nat} {q74 : Nat} {q46 : Nat} {q49 : Nat} {q188 : Nat} {fs203 : List Value} {q189 : Nat} {q195 : Nat} {q200 : Nat} {q196 : Nat} {q197 : Nat} {q201 : Nat} {q198 : Nat} {q199 : Nat} {q190 : Nat} {q191 : Nat} {q192 : Nat} {q193 : Nat} {q194 : Nat} {q202 : Nat} {f210 : Nat → Int32} {f215 : Nat → Int32} (hnc : nc ≤ 1000) (hns : ns ≤ 100000) (hcx : Cx p s m #[Value.ref b] meth c cL_law 4 ret RL meth.name g) (hX : va_X b 6 xs s s.heap) (hbl : b < s.heap.size) (hbA : ¬ A b) (hA : ∀ q : Nat, s.heap.size ≤ q → A q) (hAl : ∀ q : Nat, A q → s.heap.size ≤ q) (hf218 : fs203.length = 69) (hf219 : fs203[0]? = some (Value.ref q189)) (hf220 : fs203[11]? = some (Value.ref q195)) (hf221 : fs203[12]? = some (Value.ref q200)) (hf222 : fs203[13]? = some (Value.ref q196)) (hf223 : fs203[14]? = some (Value.ref q197)) (hf224 : fs203[15]? = some (Value.ref q201)) (hf225 : fs203[16]? = some (Value.ref q198)) (hf226 : fs203[46]? = some (Value.ref q199)) (hf227 : fs203[48]? = some (Value.ref q190)) (hf228 : fs203[51]? = some (Value.ref q191)) (hf229 : fs203[53]? = some (Value.ref q192)) (hf230 : fs203[56]? = some (Value.ref q193)) (hf231 : fs203[67]? = some (Value.ref q194)) (hf232 : fs203[68]? = some (Value.ref q202)) (hf233 : fs203[2]? = some (Value.int 0)) (hf234 : fs203[4]? = some (Value.int 0)) (hf235 : fs203[5]? = some (Value.int (-1))) (hf236 : fs203[34]? = some (Value.int 0)) (hf237 : fs203[49]? = some (Value.int 0)) (hf238 : fs203[50]? = some (Value.int 0)) (hf239 : fs203[54]? = some (Value.int 0)) (hf240 : fs203[65]? = some (Value.int 0)) (hf241 : fs203[66]? = some (Value.int 0)) (hf242 : f210 0 = 0) (hf250 : f215 0 = 0) (hP : va_P g.1 vwCl [(q1, .inr (10, [.ref q2, .int 0, .ref q3, .ref q52, .ref q73, .ref q13, .ref q67, .ref q76, .ref q11, .ref q86, .ref q84, .ref q12, .ref q85, .int 0])), (q73, .inr (9, [.int 0, .int 0, .int 0, .int 0, .int 0, .ref q157, .ref q40, .ref q41, .ref q42, .ref q43, .ref q158, .ref q44, .ref q75, .ref q45, .ref q74, .ref q46, .ref q49])), (q188, .inr (11, fs203)), (q195, .inl (gI g, 2, .inl f210)), (q200, .inl (gI g, 2, .inl f215))] H) (hD : va_D A [(q1, .inr (10, [.ref q2, .int 0, .ref q3, .ref q52, .ref q73, .ref q13, .ref q67, .ref q76, .ref q11, .ref q86, .ref q84, .ref q12, .ref q85, .int 0])), (q73, .inr (9, [.int 0, .int 0, .int 0, .int 0, .int 0, .ref q157, .ref q40, .ref q41, .ref q42, .ref q43, .ref q158, .ref q44, .ref q75, .ref q45, .ref q74, .ref q46, .ref q49])), (q188, .inr (11, fs203)), (q195, .inl (gI g, 2, .inl f210)), (q200, .inl (gI g, 2, .inl f215))]) (hS : va_S A s.heap H locs) (hl : lv_has ls 4 [(3, .int 0), (2, .ref q188), (1, .ref q1), (0, .ref b)]) : W p l e room_1 s m #[Value.ref b] below meth c H locs nc ns (lw_Z below #[Value.ref b] s) (F0 m 1015 ls []) := by
  obtain ⟨hx, hb, hml, hr, hlocks, hown, hts, hE, hnm⟩ := id hcx
  have hK := hE.1
  refine lv_aload_n hx hb dL_law_1015 rfl (lv_at hl 2 rfl) ?_
  refine lv_aload_n hx hb dL_law_1016 rfl (lv_at hl 3 rfl) ?_
  refine lv_iload_n hx hb dL_law_1017 rfl (lv_at hl 0 rfl) ?_
  refine lv_iconst (v := 1) hx hb dL_law_1018 (by decide) ?_
  refine lv_iadd hx hb dL_law_1019 ?_
  refine lv_tope (y := 1) (by decide) ?_
  refine sc_ld hx hb hX hbl hbA hS 1 rfl (by decide) (by decide) dL_law_1020 ?_
  refine lv_aload_n hx hb dL_law_1021 rfl (lv_at hl 3 rfl) ?_
  refine lv_iload_n hx hb dL_law_1022 rfl (lv_at hl 0 rfl) ?_
  refine lv_iconst (v := 2) hx hb dL_law_1023 (by decide) ?_
  refine lv_iadd hx hb dL_law_1024 ?_
  refine lv_tope (y := 2) (by decide) ?_
  refine sc_ld hx hb hX hbl hbA hS 2 rfl (by decide) (by decide) dL_law_1025 ?_
  refine lv_aload_n hx hb dL_law_1026 rfl (lv_at hl 3 rfl) ?_
  refine lv_iload_n hx hb dL_law_1027 rfl (lv_at hl 0 rfl) ?_
  refine lv_iconst (v := 3) hx hb dL_law_1028 (by decide) ?_
  refine lv_iadd hx hb dL_law_1029 ?_
  refine lv_tope (y := 3) (by decide) ?_
  refine sc_ld hx hb hX hbl hbA hS 3 rfl (by decide) (by decide) dL_law_1030 ?_
  refine lv_if_eq (tgt := 1038) hx hb dL_law_1031 (by decide) (fun c1001 => ?_) (fun c1001 => ?_)
  · refine lv_iconst (v := 0) hx hb dL_law_1038 (by decide) ?_
    refine kI (wc := [(q1, .inr (10, [.ref q2, .int 0, .ref q3, .ref q52, .ref q73, .ref q13, .ref q67, .ref q76, .ref q11, .ref q86, .ref q84, .ref q12, .ref q85, .int 0])), (q73, .inr (9, [.int 0, .int 0, .int 0, .int 0, .int 0, .ref q157, .ref q40, .ref q41, .ref q42, .ref q43, .ref q158, .ref q44, .ref q75, .ref q45, .ref q74, .ref q46, .ref q49]))]) (wr := [(q188, .inr (11, fs203)), (q195, .inl (gI g, 2, .inl f210)), (q200, .inl (gI g, 2, .inl f215))]) (rV (As := [.int (xs 1), .int (xs 2), .int 0]) (rest := []) (meth2 := "") hcx (c_X10_seen H.size) (gdV q61_18 q61_19 q61_20 q1_2 q61_21) dvX10_seen ⟨Nat.le_of_ble_eq_true rfl, Nat.le_of_ble_eq_true rfl⟩ (hP.sub [0, 1] rfl) (hD.sub [0, 1] (by decide) rfl) (va_recv hK hP (ci := 10) (q0 := 0) rfl rfl) rfl hl.1 rfl (Nat.le_of_ble_eq_true rfl) dL_law_1039 ⟨by show _ + 0 ≤ 600000; omega, by show _ + 0 ≤ 7302250; omega⟩) hP hD hS hA [0, 1] [2, 3, 4] rfl rfl (by decide) (by decide) (fun r W' H locs hw hP hD hS => ?_)
    obtain ⟨rfl, rfl⟩ := hw
    have hP : va_P g.1 vwCl [(q188, .inr (11, fs203)), (q195, .inl (gI g, 2, .inl f210)), (q200, .inl (gI g, 2, .inl f215))] H := hP
    have hD : va_D A [(q188, .inr (11, fs203)), (q195, .inl (gI g, 2, .inl f210)), (q200, .inl (gI g, 2, .inl f215))] := hD
    refine lv_aload_n hx hb dL_law_1042 rfl (lv_at hl 1 rfl) ?_
    refine lv_aload_n hx hb dL_law_1043 rfl (lv_at hl 3 rfl) ?_
    refine lv_iload_n hx hb dL_law_1044 rfl (lv_at hl 0 rfl) ?_
    refine lv_iconst (v := 1) hx hb dL_law_1045 (by decide) ?_
    refine lv_iadd hx hb dL_law_1046 ?_
    refine lv_tope (y := 1) (by decide) ?_
    refine sc_ld hx hb hX hbl hbA hS 1 rfl (by decide) (by decide) dL_law_1047 ?_
    refine lv_aload_n hx hb dL_law_1048 rfl (lv_at hl 3 rfl) ?_
    refine lv_iload_n hx hb dL_law_1049 rfl (lv_at hl 0 rfl) ?_
    refine lv_iconst (v := 2) hx hb dL_law_1050 (by decide) ?_
    refine lv_iadd hx hb dL_law_1051 ?_
    refine lv_tope (y := 2) (by decide) ?_
    refine sc_ld hx hb hX hbl hbA hS 2 rfl (by decide) (by decide) dL_law_1052 ?_
    refine lv_aload_n hx hb dL_law_1053 rfl (lv_at hl 3 rfl) ?_
    refine lv_iload_n hx hb dL_law_1054 rfl (lv_at hl 0 rfl) ?_
    refine lv_iconst (v := 3) hx hb dL_law_1055 (by decide) ?_
    refine lv_iadd hx hb dL_law_1056 ?_
    refine lv_tope (y := 3) (by decide) ?_
    refine sc_ld hx hb hX hbl hbA hS 3 rfl (by decide) (by decide) dL_law_1057 ?_
    refine lv_if_eq (tgt := 1065) hx hb dL_law_1058 (by decide) (fun _ => ?_) (fun c1002 => absurd c1001 c1002)
    refine lv_iconst (v := 0) hx hb dL_law_1065 (by decide) ?_
    refine kI (wc := [(q188, .inr (11, fs203)), (q200, .inl (gI g, 2, .inl f215)), (q195, .inl (gI g, 2, .inl f210))]) (wr := []) (rV (As := [.int (xs 1), .int (xs 2), .int 0]) (rest := [.int (-1)]) (meth2 := "") hcx (c_X11_seen (hf218) (hf221) (hf220) (hf236) (hf250) (hf242) H.size) (gdV q62_3 q62_4 q62_5 q1_5 q62_6) dvX11_seen ⟨Nat.le_of_ble_eq_true rfl, Nat.le_of_ble_eq_true rfl⟩ (hP.sub [0, 2, 1] rfl) (hD.sub [0, 2, 1] (by decide) rfl) (va_recv hK hP (ci := 11) (q0 := 0) rfl rfl) rfl hl.1 rfl (Nat.le_of_ble_eq_true rfl) dL_law_1066 ⟨by show _ + 0 ≤ 600000; omega, by show _ + 0 ≤ 7302250; omega⟩) hP hD hS hA [0, 2, 1] [] rfl rfl (by decide) (by decide) (fun r W' H locs hw hP hD hS => ?_)
    obtain ⟨rfl, rfl⟩ := hw
    have hP : va_P g.1 vwCl [] H := hP
    have hD : va_D A [] := hD
    refine lv_icmp_eq (tgt := 1278) hx hb dL_law_1069 (by decide) (fun _ => ?_) (fun c1003 => absurd (by decide) c1003)
    refine lv_iinc (v := 6) (lv' := [(3, .int 6), (2, .ref q188), (1, .ref q1), (0, .ref b)]) hx hb dL_law_1278 hl (k := 0) rfl (by decide) (by decide) rfl (fun ls hl => ?_)
    refine lv_goto (tgt := 18) hx hb dL_law_1281 (by decide) ?_
    refine lv_iload_n hx hb dL_law_18 rfl (lv_at hl 0 rfl) ?_
    refine lv_aload_n hx hb dL_law_19 rfl (lv_at hl 3 rfl) ?_
    refine va_slen hx hb hX hbl hbA hS dL_law_20 ?_
    refine lv_tope (y := 6) (by decide) ?_
    refine lv_bipush (v := 6) hx hb dL_law_21 (by decide) ?_
    refine lv_isub hx hb dL_law_23 ?_
    refine lv_tope (y := 0) (by decide) ?_
    refine lv_icmp_gt (tgt := 1284) hx hb dL_law_24 (by decide) (fun _ => ?_) (fun c1004 => absurd (by decide) c1004)
    refine lv_iconst (v := 1) hx hb dL_law_1284 (by decide) ?_
    refine va_forget (fun q hq => hAl _ (hS.2.2 q hq)) ?_
    refine W.widen (k := 600000) (n := 7302250) (by omega) (by omega) ?_
    exact lw_ret hx hb hr hlocks dL_law_1285
  · refine lv_iconst (v := 1) hx hb dL_law_1034 (by decide) ?_
    refine lv_goto (tgt := 1039) hx hb dL_law_1035 (by decide) ?_
    refine kI (wc := [(q1, .inr (10, [.ref q2, .int 0, .ref q3, .ref q52, .ref q73, .ref q13, .ref q67, .ref q76, .ref q11, .ref q86, .ref q84, .ref q12, .ref q85, .int 0])), (q73, .inr (9, [.int 0, .int 0, .int 0, .int 0, .int 0, .ref q157, .ref q40, .ref q41, .ref q42, .ref q43, .ref q158, .ref q44, .ref q75, .ref q45, .ref q74, .ref q46, .ref q49]))]) (wr := [(q188, .inr (11, fs203)), (q195, .inl (gI g, 2, .inl f210)), (q200, .inl (gI g, 2, .inl f215))]) (rV (As := [.int (xs 1), .int (xs 2), .int 1]) (rest := []) (meth2 := "") hcx (c_X10_seen H.size) (gdV q61_18 q61_19 q61_20 q1_2 q61_21) dvX10_seen ⟨Nat.le_of_ble_eq_true rfl, Nat.le_of_ble_eq_true rfl⟩ (hP.sub [0, 1] rfl) (hD.sub [0, 1] (by decide) rfl) (va_recv hK hP (ci := 10) (q0 := 0) rfl rfl) rfl hl.1 rfl (Nat.le_of_ble_eq_true rfl) dL_law_1039 ⟨by show _ + 0 ≤ 600000; omega, by show _ + 0 ≤ 7302250; omega⟩) hP hD hS hA [0, 1] [2, 3, 4] rfl rfl (by decide) (by decide) (fun r W' H locs hw hP hD hS => ?_)
    obtain ⟨rfl, rfl⟩ := hw
    have hP : va_P g.1 vwCl [(q188, .inr (11, fs203)), (q195, .inl (gI g, 2, .inl f210)), (q200, .inl (gI g, 2, .inl f215))] H := hP
    have hD : va_D A [(q188, .inr (11, fs203)), (q195, .inl (gI g, 2, .inl f210)), (q200, .inl (gI g, 2, .inl f215))] := hD
    refine lv_aload_n hx hb dL_law_1042 rfl (lv_at hl 1 rfl) ?_
    refine lv_aload_n hx hb dL_law_1043 rfl (lv_at hl 3 rfl) ?_
    refine lv_iload_n hx hb dL_law_1044 rfl (lv_at hl 0 rfl) ?_
    refine lv_iconst (v := 1) hx hb dL_law_1045 (by decide) ?_
    refine lv_iadd hx hb dL_law_1046 ?_
    refine lv_tope (y := 1) (by decide) ?_
    refine sc_ld hx hb hX hbl hbA hS 1 rfl (by decide) (by decide) dL_law_1047 ?_
    refine lv_aload_n hx hb dL_law_1048 rfl (lv_at hl 3 rfl) ?_
    refine lv_iload_n hx hb dL_law_1049 rfl (lv_at hl 0 rfl) ?_
    refine lv_iconst (v := 2) hx hb dL_law_1050 (by decide) ?_
    refine lv_iadd hx hb dL_law_1051 ?_
    refine lv_tope (y := 2) (by decide) ?_
    refine sc_ld hx hb hX hbl hbA hS 2 rfl (by decide) (by decide) dL_law_1052 ?_
    refine lv_aload_n hx hb dL_law_1053 rfl (lv_at hl 3 rfl) ?_
    refine lv_iload_n hx hb dL_law_1054 rfl (lv_at hl 0 rfl) ?_
    refine lv_iconst (v := 3) hx hb dL_law_1055 (by decide) ?_
    refine lv_iadd hx hb dL_law_1056 ?_
    refine lv_tope (y := 3) (by decide) ?_
    refine sc_ld hx hb hX hbl hbA hS 3 rfl (by decide) (by decide) dL_law_1057 ?_
    refine lv_if_eq (tgt := 1065) hx hb dL_law_1058 (by decide) (fun c1005 => absurd c1005 c1001) (fun _ => ?_)
    refine lv_iconst (v := 1) hx hb dL_law_1061 (by decide) ?_
    refine lv_goto (tgt := 1066) hx hb dL_law_1062 (by decide) ?_
    refine kI (wc := [(q188, .inr (11, fs203)), (q200, .inl (gI g, 2, .inl f215)), (q195, .inl (gI g, 2, .inl f210))]) (wr := []) (rV (As := [.int (xs 1), .int (xs 2), .int 1]) (rest := [.int (-1)]) (meth2 := "") hcx (c_X11_seen (hf218) (hf221) (hf220) (hf236) (hf250) (hf242) H.size) (gdV q62_3 q62_4 q62_5 q1_5 q62_6) dvX11_seen ⟨Nat.le_of_ble_eq_true rfl, Nat.le_of_ble_eq_true rfl⟩ (hP.sub [0, 2, 1] rfl) (hD.sub [0, 2, 1] (by decide) rfl) (va_recv hK hP (ci := 11) (q0 := 0) rfl rfl) rfl hl.1 rfl (Nat.le_of_ble_eq_true rfl) dL_law_1066 ⟨by show _ + 0 ≤ 600000; omega, by show _ + 0 ≤ 7302250; omega⟩) hP hD hS hA [0, 2, 1] [] rfl rfl (by decide) (by decide) (fun r W' H locs hw hP hD hS => ?_)
    obtain ⟨rfl, rfl⟩ := hw
    have hP : va_P g.1 vwCl [] H := hP
    have hD : va_D A [] := hD
    refine lv_icmp_eq (tgt := 1278) hx hb dL_law_1069 (by decide) (fun _ => ?_) (fun c1006 => absurd (by decide) c1006)
    refine lv_iinc (v := 6) (lv' := [(3, .int 6), (2, .ref q188), (1, .ref q1), (0, .ref b)]) hx hb dL_law_1278 hl (k := 0) rfl (by decide) (by decide) rfl (fun ls hl => ?_)
    refine lv_goto (tgt := 18) hx hb dL_law_1281 (by decide) ?_
    refine lv_iload_n hx hb dL_law_18 rfl (lv_at hl 0 rfl) ?_
    refine lv_aload_n hx hb dL_law_19 rfl (lv_at hl 3 rfl) ?_
    refine va_slen hx hb hX hbl hbA hS dL_law_20 ?_
    refine lv_tope (y := 6) (by decide) ?_
    refine lv_bipush (v := 6) hx hb dL_law_21 (by decide) ?_
    refine lv_isub hx hb dL_law_23 ?_
    refine lv_tope (y := 0) (by decide) ?_
    refine lv_icmp_gt (tgt := 1284) hx hb dL_law_24 (by decide) (fun _ => ?_) (fun c1007 => absurd (by decide) c1007)
    refine lv_iconst (v := 1) hx hb dL_law_1284 (by decide) ?_
    refine va_forget (fun q hq => hAl _ (hS.2.2 q hq)) ?_
    refine W.widen (k := 600000) (n := 7302250) (by omega) (by omega) ?_
    exact lw_ret hx hb hr hlocks dL_law_1285

set_option maxHeartbeats 40000000 in
set_option maxRecDepth 100000 in
theorem lc_34 {p : Program} {l : Launch} {e : Env} {s : State} {m : MethodId} {below : List Frame} {meth : Method} {c : Code} {g : Gx} {b : Nat} {xs : Nat → Int32} {A : Nat → Prop} {H : Heap} {locs : List Loc} {ls : Array Slot} {nc ns : Nat} {q1 : Nat} {q2 : Nat} {q3 : Nat} {q52 : Nat} {q73 : Nat} {q13 : Nat} {q67 : Nat} {q76 : Nat} {q11 : Nat} {q86 : Nat} {q84 : Nat} {q12 : Nat} {q85 : Nat} {q169 : Nat} {q170 : Nat} {q171 : Nat} {q172 : Nat} {q173 : Nat} {q174 : Nat} {q175 : Nat} {q176 : Nat} {q177 : Nat} {q178 : Nat} {q188 : Nat} {fs203 : List Value} {q189 : Nat} {q195 : Nat} {q200 : Nat} {q196 : Nat} {q197 : Nat} {q201 : Nat} {q198 : Nat} {q199 : Nat} {q190 : Nat} {q191 : Nat} {q192 : Nat} {q193 : Nat} {q194 : Nat} {q202 : Nat} (hnc : nc ≤ 1000) (hns : ns ≤ 100000) (hcx : Cx p s m #[Value.ref b] meth c cL_law 4 ret RL meth.name g) (hX : va_X b 6 xs s s.heap) (hbl : b < s.heap.size) (hbA : ¬ A b) (hA : ∀ q : Nat, s.heap.size ≤ q → A q) (hAl : ∀ q : Nat, A q → s.heap.size ≤ q) (hf218 : fs203.length = 69) (hf219 : fs203[0]? = some (Value.ref q189)) (hf220 : fs203[11]? = some (Value.ref q195)) (hf221 : fs203[12]? = some (Value.ref q200)) (hf222 : fs203[13]? = some (Value.ref q196)) (hf223 : fs203[14]? = some (Value.ref q197)) (hf224 : fs203[15]? = some (Value.ref q201)) (hf225 : fs203[16]? = some (Value.ref q198)) (hf226 : fs203[46]? = some (Value.ref q199)) (hf227 : fs203[48]? = some (Value.ref q190)) (hf228 : fs203[51]? = some (Value.ref q191)) (hf229 : fs203[53]? = some (Value.ref q192)) (hf230 : fs203[56]? = some (Value.ref q193)) (hf231 : fs203[67]? = some (Value.ref q194)) (hf232 : fs203[68]? = some (Value.ref q202)) (hf233 : fs203[2]? = some (Value.int 0)) (hf234 : fs203[4]? = some (Value.int 0)) (hf235 : fs203[5]? = some (Value.int (-1))) (hf236 : fs203[34]? = some (Value.int 0)) (hf237 : fs203[49]? = some (Value.int 0)) (hf238 : fs203[50]? = some (Value.int 0)) (hf239 : fs203[54]? = some (Value.int 0)) (hf240 : fs203[65]? = some (Value.int 0)) (hf241 : fs203[66]? = some (Value.int 0)) (hP : va_P g.1 vwCl [(q1, .inr (10, [.ref q2, .int 0, .ref q3, .ref q52, .ref q73, .ref q13, .ref q67, .ref q76, .ref q11, .ref q86, .ref q84, .ref q12, .ref q85, .int 0])), (q85, .inr (6, [.ref q13, .ref q169, .ref q170, .ref q171, .ref q172, .ref q173, .ref q174, .ref q175, .ref q176, .ref q177, .ref q178, .int 0, .int 0])), (q188, .inr (11, fs203))] H) (hD : va_D A [(q1, .inr (10, [.ref q2, .int 0, .ref q3, .ref q52, .ref q73, .ref q13, .ref q67, .ref q76, .ref q11, .ref q86, .ref q84, .ref q12, .ref q85, .int 0])), (q85, .inr (6, [.ref q13, .ref q169, .ref q170, .ref q171, .ref q172, .ref q173, .ref q174, .ref q175, .ref q176, .ref q177, .ref q178, .int 0, .int 0])), (q188, .inr (11, fs203))]) (hS : va_S A s.heap H locs) (hl : lv_has ls 4 [(3, .int 0), (2, .ref q188), (1, .ref q1), (0, .ref b)]) : W p l e room_1 s m #[Value.ref b] below meth c H locs nc ns (lw_Z below #[Value.ref b] s) (F0 m 1074 ls []) := by
  obtain ⟨hx, hb, hml, hr, hlocks, hown, hts, hE, hnm⟩ := id hcx
  have hK := hE.1
  refine lv_aload_n hx hb dL_law_1074 rfl (lv_at hl 2 rfl) ?_
  refine lv_aload_n hx hb dL_law_1075 rfl (lv_at hl 3 rfl) ?_
  refine lv_iload_n hx hb dL_law_1076 rfl (lv_at hl 0 rfl) ?_
  refine lv_iconst (v := 1) hx hb dL_law_1077 (by decide) ?_
  refine lv_iadd hx hb dL_law_1078 ?_
  refine lv_tope (y := 1) (by decide) ?_
  refine sc_ld hx hb hX hbl hbA hS 1 rfl (by decide) (by decide) dL_law_1079 ?_
  refine kI (wc := [(q1, .inr (10, [.ref q2, .int 0, .ref q3, .ref q52, .ref q73, .ref q13, .ref q67, .ref q76, .ref q11, .ref q86, .ref q84, .ref q12, .ref q85, .int 0])), (q85, .inr (6, [.ref q13, .ref q169, .ref q170, .ref q171, .ref q172, .ref q173, .ref q174, .ref q175, .ref q176, .ref q177, .ref q178, .int 0, .int 0]))]) (wr := [(q188, .inr (11, fs203))]) (rV (As := [.int (xs 1)]) (rest := []) (meth2 := "") hcx (c_X10_untell H.size) (gdV q62_8 q62_9 q62_10 q1_2 q62_11) dvX10_untell ⟨Nat.le_of_ble_eq_true rfl, Nat.le_of_ble_eq_true rfl⟩ (hP.sub [0, 1] rfl) (hD.sub [0, 1] (by decide) rfl) (va_recv hK hP (ci := 10) (q0 := 0) rfl rfl) rfl hl.1 rfl (Nat.le_of_ble_eq_true rfl) dL_law_1080 ⟨by show _ + 0 ≤ 600000; omega, by show _ + 0 ≤ 7302250; omega⟩) hP hD hS hA [0, 1] [2] rfl rfl (by decide) (by decide) (fun r W' H locs hw hP hD hS => ?_)
  obtain ⟨rfl, rfl⟩ := hw
  have hP : va_P g.1 vwCl [(q188, .inr (11, fs203))] H := hP
  have hD : va_D A [(q188, .inr (11, fs203))] := hD
  refine lv_aload_n hx hb dL_law_1083 rfl (lv_at hl 1 rfl) ?_
  refine lv_aload_n hx hb dL_law_1084 rfl (lv_at hl 3 rfl) ?_
  refine lv_iload_n hx hb dL_law_1085 rfl (lv_at hl 0 rfl) ?_
  refine lv_iconst (v := 1) hx hb dL_law_1086 (by decide) ?_
  refine lv_iadd hx hb dL_law_1087 ?_
  refine lv_tope (y := 1) (by decide) ?_
  refine sc_ld hx hb hX hbl hbA hS 1 rfl (by decide) (by decide) dL_law_1088 ?_
  refine kI (wc := [(q188, .inr (11, fs203))]) (wr := []) (rV (As := [.int (xs 1)]) (rest := [.int 0]) (meth2 := "") hcx (c_X11_untell (hf218) (hf240) H.size) (gdV q62_16 q62_17 q62_18 q1_5 q62_19) dvX11_untell ⟨Nat.le_of_ble_eq_true rfl, Nat.le_of_ble_eq_true rfl⟩ (hP.sub [0] rfl) (hD.sub [0] (by decide) rfl) (va_recv hK hP (ci := 11) (q0 := 0) rfl rfl) rfl hl.1 rfl (Nat.le_of_ble_eq_true rfl) dL_law_1089 ⟨by show _ + 0 ≤ 600000; omega, by show _ + 0 ≤ 7302250; omega⟩) hP hD hS hA [0] [] rfl rfl (by decide) (by decide) (fun r W' H locs hw hP hD hS => ?_)
  obtain ⟨rfl, rfl⟩ := hw
  have hP : va_P g.1 vwCl [] H := hP
  have hD : va_D A [] := hD
  refine lv_icmp_eq (tgt := 1278) hx hb dL_law_1092 (by decide) (fun _ => ?_) (fun c1001 => absurd (by decide) c1001)
  refine lv_iinc (v := 6) (lv' := [(3, .int 6), (2, .ref q188), (1, .ref q1), (0, .ref b)]) hx hb dL_law_1278 hl (k := 0) rfl (by decide) (by decide) rfl (fun ls hl => ?_)
  refine lv_goto (tgt := 18) hx hb dL_law_1281 (by decide) ?_
  refine lv_iload_n hx hb dL_law_18 rfl (lv_at hl 0 rfl) ?_
  refine lv_aload_n hx hb dL_law_19 rfl (lv_at hl 3 rfl) ?_
  refine va_slen hx hb hX hbl hbA hS dL_law_20 ?_
  refine lv_tope (y := 6) (by decide) ?_
  refine lv_bipush (v := 6) hx hb dL_law_21 (by decide) ?_
  refine lv_isub hx hb dL_law_23 ?_
  refine lv_tope (y := 0) (by decide) ?_
  refine lv_icmp_gt (tgt := 1284) hx hb dL_law_24 (by decide) (fun _ => ?_) (fun c1002 => absurd (by decide) c1002)
  refine lv_iconst (v := 1) hx hb dL_law_1284 (by decide) ?_
  refine va_forget (fun q hq => hAl _ (hS.2.2 q hq)) ?_
  refine W.widen (k := 600000) (n := 7302250) (by omega) (by omega) ?_
  exact lw_ret hx hb hr hlocks dL_law_1285

set_option maxHeartbeats 40000000 in
set_option maxRecDepth 100000 in
theorem lc_35 {p : Program} {l : Launch} {e : Env} {s : State} {m : MethodId} {below : List Frame} {meth : Method} {c : Code} {g : Gx} {b : Nat} {xs : Nat → Int32} {A : Nat → Prop} {H : Heap} {locs : List Loc} {ls : Array Slot} {nc ns : Nat} {q1 : Nat} {q2 : Nat} {q3 : Nat} {q52 : Nat} {q73 : Nat} {q13 : Nat} {q67 : Nat} {q76 : Nat} {q11 : Nat} {q86 : Nat} {q84 : Nat} {q12 : Nat} {q85 : Nat} {q188 : Nat} {fs203 : List Value} {q189 : Nat} {q195 : Nat} {q200 : Nat} {q196 : Nat} {q197 : Nat} {q201 : Nat} {q198 : Nat} {q199 : Nat} {q190 : Nat} {q191 : Nat} {q192 : Nat} {q193 : Nat} {q194 : Nat} {q202 : Nat} (hnc : nc ≤ 1000) (hns : ns ≤ 100000) (hcx : Cx p s m #[Value.ref b] meth c cL_law 4 ret RL meth.name g) (hX : va_X b 6 xs s s.heap) (hbl : b < s.heap.size) (hbA : ¬ A b) (hA : ∀ q : Nat, s.heap.size ≤ q → A q) (hAl : ∀ q : Nat, A q → s.heap.size ≤ q) (hf218 : fs203.length = 69) (hf219 : fs203[0]? = some (Value.ref q189)) (hf220 : fs203[11]? = some (Value.ref q195)) (hf221 : fs203[12]? = some (Value.ref q200)) (hf222 : fs203[13]? = some (Value.ref q196)) (hf223 : fs203[14]? = some (Value.ref q197)) (hf224 : fs203[15]? = some (Value.ref q201)) (hf225 : fs203[16]? = some (Value.ref q198)) (hf226 : fs203[46]? = some (Value.ref q199)) (hf227 : fs203[48]? = some (Value.ref q190)) (hf228 : fs203[51]? = some (Value.ref q191)) (hf229 : fs203[53]? = some (Value.ref q192)) (hf230 : fs203[56]? = some (Value.ref q193)) (hf231 : fs203[67]? = some (Value.ref q194)) (hf232 : fs203[68]? = some (Value.ref q202)) (hf233 : fs203[2]? = some (Value.int 0)) (hf234 : fs203[4]? = some (Value.int 0)) (hf235 : fs203[5]? = some (Value.int (-1))) (hf236 : fs203[34]? = some (Value.int 0)) (hf237 : fs203[49]? = some (Value.int 0)) (hf238 : fs203[50]? = some (Value.int 0)) (hf239 : fs203[54]? = some (Value.int 0)) (hf240 : fs203[65]? = some (Value.int 0)) (hf241 : fs203[66]? = some (Value.int 0)) (hP : va_P g.1 vwCl [(q1, .inr (10, [.ref q2, .int 0, .ref q3, .ref q52, .ref q73, .ref q13, .ref q67, .ref q76, .ref q11, .ref q86, .ref q84, .ref q12, .ref q85, .int 0])), (q188, .inr (11, fs203))] H) (hD : va_D A [(q1, .inr (10, [.ref q2, .int 0, .ref q3, .ref q52, .ref q73, .ref q13, .ref q67, .ref q76, .ref q11, .ref q86, .ref q84, .ref q12, .ref q85, .int 0])), (q188, .inr (11, fs203))]) (hS : va_S A s.heap H locs) (hl : lv_has ls 4 [(3, .int 0), (2, .ref q188), (1, .ref q1), (0, .ref b)]) : W p l e room_1 s m #[Value.ref b] below meth c H locs nc ns (lw_Z below #[Value.ref b] s) (F0 m 1097 ls []) := by
  obtain ⟨hx, hb, hml, hr, hlocks, hown, hts, hE, hnm⟩ := id hcx
  have hK := hE.1
  refine lv_aload_n hx hb dL_law_1097 rfl (lv_at hl 2 rfl) ?_
  refine lv_aload_n hx hb dL_law_1098 rfl (lv_at hl 3 rfl) ?_
  refine lv_iload_n hx hb dL_law_1099 rfl (lv_at hl 0 rfl) ?_
  refine lv_iconst (v := 1) hx hb dL_law_1100 (by decide) ?_
  refine lv_iadd hx hb dL_law_1101 ?_
  refine lv_tope (y := 1) (by decide) ?_
  refine sc_ld hx hb hX hbl hbA hS 1 rfl (by decide) (by decide) dL_law_1102 ?_
  refine kI (wc := [(q1, .inr (10, [.ref q2, .int 0, .ref q3, .ref q52, .ref q73, .ref q13, .ref q67, .ref q76, .ref q11, .ref q86, .ref q84, .ref q12, .ref q85, .int 0]))]) (wr := [(q188, .inr (11, fs203))]) (rV (As := [.int (xs 1)]) (rest := []) (meth2 := "") hcx (c_X10_later H.size) (gdV q62_20 q62_21 q62_22 q1_2 q62_23) dvX10_later ⟨Nat.le_of_ble_eq_true rfl, Nat.le_of_ble_eq_true rfl⟩ (hP.sub [0] rfl) (hD.sub [0] (by decide) rfl) (va_recv hK hP (ci := 10) (q0 := 0) rfl rfl) rfl hl.1 rfl (Nat.le_of_ble_eq_true rfl) dL_law_1103 ⟨by show _ + 0 ≤ 600000; omega, by show _ + 0 ≤ 7302250; omega⟩) hP hD hS hA [0] [1] rfl rfl (by decide) (by decide) (fun r1001 W' H locs hw hP hD hS => ?_)
  obtain ⟨hr1002, rfl⟩ := hw
  have hP : va_P g.1 vwCl [(q188, .inr (11, fs203))] H := hP
  have hD : va_D A [(q188, .inr (11, fs203))] := hD
  refine lv_aload_n hx hb dL_law_1106 rfl (lv_at hl 1 rfl) ?_
  refine lv_aload_n hx hb dL_law_1107 rfl (lv_at hl 3 rfl) ?_
  refine lv_iload_n hx hb dL_law_1108 rfl (lv_at hl 0 rfl) ?_
  refine lv_iconst (v := 1) hx hb dL_law_1109 (by decide) ?_
  refine lv_iadd hx hb dL_law_1110 ?_
  refine lv_tope (y := 1) (by decide) ?_
  refine sc_ld hx hb hX hbl hbA hS 1 rfl (by decide) (by decide) dL_law_1111 ?_
  refine kI (wc := [(q188, .inr (11, fs203))]) (wr := []) (rV (As := [.int (xs 1)]) (rest := [.int r1001]) (meth2 := "") hcx (c_X11_later (hf218) (hf241) H.size) (gdV q63_1 q63_2 q63_3 q1_5 q63_4) dvX11_later ⟨Nat.le_of_ble_eq_true rfl, Nat.le_of_ble_eq_true rfl⟩ (hP.sub [0] rfl) (hD.sub [0] (by decide) rfl) (va_recv hK hP (ci := 11) (q0 := 0) rfl rfl) rfl hl.1 rfl (Nat.le_of_ble_eq_true rfl) dL_law_1112 ⟨by show _ + 0 ≤ 600000; omega, by show _ + 0 ≤ 7302250; omega⟩) hP hD hS hA [0] [] rfl rfl (by decide) (by decide) (fun r1003 W' H locs hw hP hD hS => ?_)
  obtain ⟨hr1004, rfl⟩ := hw
  have hP : va_P g.1 vwCl [] H := hP
  have hD : va_D A [] := hD
  refine lv_icmp_eq (tgt := 1278) hx hb dL_law_1115 (by decide) (fun _ => ?_) (fun c1005 => absurd (hr1002.trans hr1004.symm) c1005)
  refine lv_iinc (v := 6) (lv' := [(3, .int 6), (2, .ref q188), (1, .ref q1), (0, .ref b)]) hx hb dL_law_1278 hl (k := 0) rfl (by decide) (by decide) rfl (fun ls hl => ?_)
  refine lv_goto (tgt := 18) hx hb dL_law_1281 (by decide) ?_
  refine lv_iload_n hx hb dL_law_18 rfl (lv_at hl 0 rfl) ?_
  refine lv_aload_n hx hb dL_law_19 rfl (lv_at hl 3 rfl) ?_
  refine va_slen hx hb hX hbl hbA hS dL_law_20 ?_
  refine lv_tope (y := 6) (by decide) ?_
  refine lv_bipush (v := 6) hx hb dL_law_21 (by decide) ?_
  refine lv_isub hx hb dL_law_23 ?_
  refine lv_tope (y := 0) (by decide) ?_
  refine lv_icmp_gt (tgt := 1284) hx hb dL_law_24 (by decide) (fun _ => ?_) (fun c1006 => absurd (by decide) c1006)
  refine lv_iconst (v := 1) hx hb dL_law_1284 (by decide) ?_
  refine va_forget (fun q hq => hAl _ (hS.2.2 q hq)) ?_
  refine W.widen (k := 600000) (n := 7302250) (by omega) (by omega) ?_
  exact lw_ret hx hb hr hlocks dL_law_1285

set_option maxHeartbeats 40000000 in
set_option maxRecDepth 100000 in
theorem lc_36 {p : Program} {l : Launch} {e : Env} {s : State} {m : MethodId} {below : List Frame} {meth : Method} {c : Code} {g : Gx} {b : Nat} {xs : Nat → Int32} {A : Nat → Prop} {H : Heap} {locs : List Loc} {ls : Array Slot} {nc ns : Nat} {q1 : Nat} {q2 : Nat} {q3 : Nat} {q52 : Nat} {q73 : Nat} {q13 : Nat} {q67 : Nat} {q76 : Nat} {q11 : Nat} {q86 : Nat} {q84 : Nat} {q12 : Nat} {q85 : Nat} {q100 : Nat} {q157 : Nat} {q40 : Nat} {q41 : Nat} {q42 : Nat} {q43 : Nat} {q158 : Nat} {q44 : Nat} {q75 : Nat} {q45 : Nat} {q74 : Nat} {q46 : Nat} {q49 : Nat} {q169 : Nat} {q170 : Nat} {q171 : Nat} {q172 : Nat} {q173 : Nat} {q174 : Nat} {q175 : Nat} {q176 : Nat} {q177 : Nat} {q178 : Nat} {q188 : Nat} {fs203 : List Value} {q189 : Nat} {q195 : Nat} {q200 : Nat} {q196 : Nat} {q197 : Nat} {q201 : Nat} {q198 : Nat} {q199 : Nat} {q190 : Nat} {q191 : Nat} {q192 : Nat} {q193 : Nat} {q194 : Nat} {q202 : Nat} {f215 : Nat → Int32} (hnc : nc ≤ 1000) (hns : ns ≤ 100000) (hcx : Cx p s m #[Value.ref b] meth c cL_law 4 ret RL meth.name g) (hX : va_X b 6 xs s s.heap) (hbl : b < s.heap.size) (hbA : ¬ A b) (hA : ∀ q : Nat, s.heap.size ≤ q → A q) (hAl : ∀ q : Nat, A q → s.heap.size ≤ q) (hf218 : fs203.length = 69) (hf219 : fs203[0]? = some (Value.ref q189)) (hf220 : fs203[11]? = some (Value.ref q195)) (hf221 : fs203[12]? = some (Value.ref q200)) (hf222 : fs203[13]? = some (Value.ref q196)) (hf223 : fs203[14]? = some (Value.ref q197)) (hf224 : fs203[15]? = some (Value.ref q201)) (hf225 : fs203[16]? = some (Value.ref q198)) (hf226 : fs203[46]? = some (Value.ref q199)) (hf227 : fs203[48]? = some (Value.ref q190)) (hf228 : fs203[51]? = some (Value.ref q191)) (hf229 : fs203[53]? = some (Value.ref q192)) (hf230 : fs203[56]? = some (Value.ref q193)) (hf231 : fs203[67]? = some (Value.ref q194)) (hf232 : fs203[68]? = some (Value.ref q202)) (hf233 : fs203[2]? = some (Value.int 0)) (hf234 : fs203[4]? = some (Value.int 0)) (hf235 : fs203[5]? = some (Value.int (-1))) (hf236 : fs203[34]? = some (Value.int 0)) (hf237 : fs203[49]? = some (Value.int 0)) (hf238 : fs203[50]? = some (Value.int 0)) (hf239 : fs203[54]? = some (Value.int 0)) (hf240 : fs203[65]? = some (Value.int 0)) (hf241 : fs203[66]? = some (Value.int 0)) (hf250 : f215 0 = 0) (hP : va_P g.1 vwCl [(q1, .inr (10, [.ref q2, .int 0, .ref q3, .ref q52, .ref q73, .ref q13, .ref q67, .ref q76, .ref q11, .ref q86, .ref q84, .ref q12, .ref q85, .int 0])), (q13, .inr (0, [.ref q73, .ref q100, .int 0, .int 0])), (q73, .inr (9, [.int 0, .int 0, .int 0, .int 0, .int 0, .ref q157, .ref q40, .ref q41, .ref q42, .ref q43, .ref q158, .ref q44, .ref q75, .ref q45, .ref q74, .ref q46, .ref q49])), (q85, .inr (6, [.ref q13, .ref q169, .ref q170, .ref q171, .ref q172, .ref q173, .ref q174, .ref q175, .ref q176, .ref q177, .ref q178, .int 0, .int 0])), (q188, .inr (11, fs203)), (q200, .inl (gI g, 2, .inl f215))] H) (hD : va_D A [(q1, .inr (10, [.ref q2, .int 0, .ref q3, .ref q52, .ref q73, .ref q13, .ref q67, .ref q76, .ref q11, .ref q86, .ref q84, .ref q12, .ref q85, .int 0])), (q13, .inr (0, [.ref q73, .ref q100, .int 0, .int 0])), (q73, .inr (9, [.int 0, .int 0, .int 0, .int 0, .int 0, .ref q157, .ref q40, .ref q41, .ref q42, .ref q43, .ref q158, .ref q44, .ref q75, .ref q45, .ref q74, .ref q46, .ref q49])), (q85, .inr (6, [.ref q13, .ref q169, .ref q170, .ref q171, .ref q172, .ref q173, .ref q174, .ref q175, .ref q176, .ref q177, .ref q178, .int 0, .int 0])), (q188, .inr (11, fs203)), (q200, .inl (gI g, 2, .inl f215))]) (hS : va_S A s.heap H locs) (hl : lv_has ls 4 [(3, .int 0), (2, .ref q188), (1, .ref q1), (0, .ref b)]) : W p l e room_1 s m #[Value.ref b] below meth c H locs nc ns (lw_Z below #[Value.ref b] s) (F0 m 1120 ls []) := by
  obtain ⟨hx, hb, hml, hr, hlocks, hown, hts, hE, hnm⟩ := id hcx
  have hK := hE.1
  refine lv_aload_n hx hb dL_law_1120 rfl (lv_at hl 2 rfl) ?_
  refine lv_aload_n hx hb dL_law_1121 rfl (lv_at hl 3 rfl) ?_
  refine lv_iload_n hx hb dL_law_1122 rfl (lv_at hl 0 rfl) ?_
  refine lv_iconst (v := 1) hx hb dL_law_1123 (by decide) ?_
  refine lv_iadd hx hb dL_law_1124 ?_
  refine lv_tope (y := 1) (by decide) ?_
  refine sc_ld hx hb hX hbl hbA hS 1 rfl (by decide) (by decide) dL_law_1125 ?_
  refine kI (wc := [(q1, .inr (10, [.ref q2, .int 0, .ref q3, .ref q52, .ref q73, .ref q13, .ref q67, .ref q76, .ref q11, .ref q86, .ref q84, .ref q12, .ref q85, .int 0])), (q85, .inr (6, [.ref q13, .ref q169, .ref q170, .ref q171, .ref q172, .ref q173, .ref q174, .ref q175, .ref q176, .ref q177, .ref q178, .int 0, .int 0])), (q13, .inr (0, [.ref q73, .ref q100, .int 0, .int 0])), (q73, .inr (9, [.int 0, .int 0, .int 0, .int 0, .int 0, .ref q157, .ref q40, .ref q41, .ref q42, .ref q43, .ref q158, .ref q44, .ref q75, .ref q45, .ref q74, .ref q46, .ref q49]))]) (wr := [(q188, .inr (11, fs203)), (q200, .inl (gI g, 2, .inl f215))]) (rV (As := [.int (xs 1)]) (rest := []) (meth2 := "") hcx (c_X10_fits H.size) (gdV q63_6 q63_7 q63_8 q1_2 q63_9) dvX10_fits ⟨Nat.le_of_ble_eq_true rfl, Nat.le_of_ble_eq_true rfl⟩ (hP.sub [0, 3, 1, 2] rfl) (hD.sub [0, 3, 1, 2] (by decide) rfl) (va_recv hK hP (ci := 10) (q0 := 0) rfl rfl) rfl hl.1 rfl (Nat.le_of_ble_eq_true rfl) dL_law_1126 ⟨by show _ + 0 ≤ 600000; omega, by show _ + 0 ≤ 7302250; omega⟩) hP hD hS hA [0, 3, 1, 2] [4, 5] rfl rfl (by decide) (by decide) (fun r W' H locs hw hP hD hS => ?_)
  obtain ⟨rfl, rfl⟩ := hw
  have hP : va_P g.1 vwCl [(q188, .inr (11, fs203)), (q200, .inl (gI g, 2, .inl f215))] H := hP
  have hD : va_D A [(q188, .inr (11, fs203)), (q200, .inl (gI g, 2, .inl f215))] := hD
  refine lv_aload_n hx hb dL_law_1129 rfl (lv_at hl 1 rfl) ?_
  refine lv_aload_n hx hb dL_law_1130 rfl (lv_at hl 3 rfl) ?_
  refine lv_iload_n hx hb dL_law_1131 rfl (lv_at hl 0 rfl) ?_
  refine lv_iconst (v := 1) hx hb dL_law_1132 (by decide) ?_
  refine lv_iadd hx hb dL_law_1133 ?_
  refine lv_tope (y := 1) (by decide) ?_
  refine sc_ld hx hb hX hbl hbA hS 1 rfl (by decide) (by decide) dL_law_1134 ?_
  refine kI (wc := [(q188, .inr (11, fs203)), (q200, .inl (gI g, 2, .inl f215))]) (wr := []) (rV (As := [.int (xs 1)]) (rest := [.int 0]) (meth2 := "") hcx (c_X11_fits (hf218) (hf221) (hf236) (hf250) H.size) (gdV q64_5 q64_6 q64_7 q1_5 q64_8) dvX11_fits ⟨Nat.le_of_ble_eq_true rfl, Nat.le_of_ble_eq_true rfl⟩ (hP.sub [0, 1] rfl) (hD.sub [0, 1] (by decide) rfl) (va_recv hK hP (ci := 11) (q0 := 0) rfl rfl) rfl hl.1 rfl (Nat.le_of_ble_eq_true rfl) dL_law_1135 ⟨by show _ + 0 ≤ 600000; omega, by show _ + 0 ≤ 7302250; omega⟩) hP hD hS hA [0, 1] [] rfl rfl (by decide) (by decide) (fun r W' H locs hw hP hD hS => ?_)
  obtain ⟨rfl, rfl⟩ := hw
  have hP : va_P g.1 vwCl [(q188, .inr (11, fs203)), (q200, .inl (gI g, 2, .inl f215))] H := hP
  have hD : va_D A [(q188, .inr (11, fs203)), (q200, .inl (gI g, 2, .inl f215))] := hD
  refine lv_icmp_eq (tgt := 1278) hx hb dL_law_1138 (by decide) (fun _ => ?_) (fun c1001 => absurd (by decide) c1001)
  refine lv_iinc (v := 6) (lv' := [(3, .int 6), (2, .ref q188), (1, .ref q1), (0, .ref b)]) hx hb dL_law_1278 hl (k := 0) rfl (by decide) (by decide) rfl (fun ls hl => ?_)
  refine lv_goto (tgt := 18) hx hb dL_law_1281 (by decide) ?_
  refine lv_iload_n hx hb dL_law_18 rfl (lv_at hl 0 rfl) ?_
  refine lv_aload_n hx hb dL_law_19 rfl (lv_at hl 3 rfl) ?_
  refine va_slen hx hb hX hbl hbA hS dL_law_20 ?_
  refine lv_tope (y := 6) (by decide) ?_
  refine lv_bipush (v := 6) hx hb dL_law_21 (by decide) ?_
  refine lv_isub hx hb dL_law_23 ?_
  refine lv_tope (y := 0) (by decide) ?_
  refine lv_icmp_gt (tgt := 1284) hx hb dL_law_24 (by decide) (fun _ => ?_) (fun c1002 => absurd (by decide) c1002)
  refine lv_iconst (v := 1) hx hb dL_law_1284 (by decide) ?_
  refine va_forget (fun q hq => hAl _ (hS.2.2 q hq)) ?_
  refine W.widen (k := 600000) (n := 7302250) (by omega) (by omega) ?_
  exact lw_ret hx hb hr hlocks dL_law_1285

set_option maxHeartbeats 40000000 in
set_option maxRecDepth 100000 in
theorem lc_37 {p : Program} {l : Launch} {e : Env} {s : State} {m : MethodId} {below : List Frame} {meth : Method} {c : Code} {g : Gx} {b : Nat} {xs : Nat → Int32} {A : Nat → Prop} {H : Heap} {locs : List Loc} {ls : Array Slot} {nc ns : Nat} {q1 : Nat} {q2 : Nat} {q3 : Nat} {q52 : Nat} {q73 : Nat} {q13 : Nat} {q67 : Nat} {q76 : Nat} {q11 : Nat} {q86 : Nat} {q84 : Nat} {q12 : Nat} {q85 : Nat} {q100 : Nat} {q157 : Nat} {q40 : Nat} {q41 : Nat} {q42 : Nat} {q43 : Nat} {q158 : Nat} {q44 : Nat} {q75 : Nat} {q45 : Nat} {q74 : Nat} {q46 : Nat} {q49 : Nat} {q169 : Nat} {q170 : Nat} {q171 : Nat} {q172 : Nat} {q173 : Nat} {q174 : Nat} {q175 : Nat} {q176 : Nat} {q177 : Nat} {q178 : Nat} {q188 : Nat} {fs203 : List Value} {q189 : Nat} {q195 : Nat} {q200 : Nat} {q196 : Nat} {q197 : Nat} {q201 : Nat} {q198 : Nat} {q199 : Nat} {q190 : Nat} {q191 : Nat} {q192 : Nat} {q193 : Nat} {q194 : Nat} {q202 : Nat} {f215 : Nat → Int32} (hnc : nc ≤ 1000) (hns : ns ≤ 100000) (hcx : Cx p s m #[Value.ref b] meth c cL_law 4 ret RL meth.name g) (hX : va_X b 6 xs s s.heap) (hbl : b < s.heap.size) (hbA : ¬ A b) (hA : ∀ q : Nat, s.heap.size ≤ q → A q) (hAl : ∀ q : Nat, A q → s.heap.size ≤ q) (hf218 : fs203.length = 69) (hf219 : fs203[0]? = some (Value.ref q189)) (hf220 : fs203[11]? = some (Value.ref q195)) (hf221 : fs203[12]? = some (Value.ref q200)) (hf222 : fs203[13]? = some (Value.ref q196)) (hf223 : fs203[14]? = some (Value.ref q197)) (hf224 : fs203[15]? = some (Value.ref q201)) (hf225 : fs203[16]? = some (Value.ref q198)) (hf226 : fs203[46]? = some (Value.ref q199)) (hf227 : fs203[48]? = some (Value.ref q190)) (hf228 : fs203[51]? = some (Value.ref q191)) (hf229 : fs203[53]? = some (Value.ref q192)) (hf230 : fs203[56]? = some (Value.ref q193)) (hf231 : fs203[67]? = some (Value.ref q194)) (hf232 : fs203[68]? = some (Value.ref q202)) (hf233 : fs203[2]? = some (Value.int 0)) (hf234 : fs203[4]? = some (Value.int 0)) (hf235 : fs203[5]? = some (Value.int (-1))) (hf236 : fs203[34]? = some (Value.int 0)) (hf237 : fs203[49]? = some (Value.int 0)) (hf238 : fs203[50]? = some (Value.int 0)) (hf239 : fs203[54]? = some (Value.int 0)) (hf240 : fs203[65]? = some (Value.int 0)) (hf241 : fs203[66]? = some (Value.int 0)) (hf250 : f215 0 = 0) (hP : va_P g.1 vwCl [(q1, .inr (10, [.ref q2, .int 0, .ref q3, .ref q52, .ref q73, .ref q13, .ref q67, .ref q76, .ref q11, .ref q86, .ref q84, .ref q12, .ref q85, .int 0])), (q13, .inr (0, [.ref q73, .ref q100, .int 0, .int 0])), (q73, .inr (9, [.int 0, .int 0, .int 0, .int 0, .int 0, .ref q157, .ref q40, .ref q41, .ref q42, .ref q43, .ref q158, .ref q44, .ref q75, .ref q45, .ref q74, .ref q46, .ref q49])), (q85, .inr (6, [.ref q13, .ref q169, .ref q170, .ref q171, .ref q172, .ref q173, .ref q174, .ref q175, .ref q176, .ref q177, .ref q178, .int 0, .int 0])), (q188, .inr (11, fs203)), (q200, .inl (gI g, 2, .inl f215))] H) (hD : va_D A [(q1, .inr (10, [.ref q2, .int 0, .ref q3, .ref q52, .ref q73, .ref q13, .ref q67, .ref q76, .ref q11, .ref q86, .ref q84, .ref q12, .ref q85, .int 0])), (q13, .inr (0, [.ref q73, .ref q100, .int 0, .int 0])), (q73, .inr (9, [.int 0, .int 0, .int 0, .int 0, .int 0, .ref q157, .ref q40, .ref q41, .ref q42, .ref q43, .ref q158, .ref q44, .ref q75, .ref q45, .ref q74, .ref q46, .ref q49])), (q85, .inr (6, [.ref q13, .ref q169, .ref q170, .ref q171, .ref q172, .ref q173, .ref q174, .ref q175, .ref q176, .ref q177, .ref q178, .int 0, .int 0])), (q188, .inr (11, fs203)), (q200, .inl (gI g, 2, .inl f215))]) (hS : va_S A s.heap H locs) (hl : lv_has ls 4 [(3, .int 0), (2, .ref q188), (1, .ref q1), (0, .ref b)]) : W p l e room_1 s m #[Value.ref b] below meth c H locs nc ns (lw_Z below #[Value.ref b] s) (F0 m 1143 ls []) := by
  obtain ⟨hx, hb, hml, hr, hlocks, hown, hts, hE, hnm⟩ := id hcx
  have hK := hE.1
  refine lv_aload_n hx hb dL_law_1143 rfl (lv_at hl 2 rfl) ?_
  refine lv_aload_n hx hb dL_law_1144 rfl (lv_at hl 3 rfl) ?_
  refine lv_iload_n hx hb dL_law_1145 rfl (lv_at hl 0 rfl) ?_
  refine lv_iconst (v := 1) hx hb dL_law_1146 (by decide) ?_
  refine lv_iadd hx hb dL_law_1147 ?_
  refine lv_tope (y := 1) (by decide) ?_
  refine sc_ld hx hb hX hbl hbA hS 1 rfl (by decide) (by decide) dL_law_1148 ?_
  refine lv_aload_n hx hb dL_law_1149 rfl (lv_at hl 3 rfl) ?_
  refine lv_iload_n hx hb dL_law_1150 rfl (lv_at hl 0 rfl) ?_
  refine lv_iconst (v := 2) hx hb dL_law_1151 (by decide) ?_
  refine lv_iadd hx hb dL_law_1152 ?_
  refine lv_tope (y := 2) (by decide) ?_
  refine sc_ld hx hb hX hbl hbA hS 2 rfl (by decide) (by decide) dL_law_1153 ?_
  refine kI (wc := [(q1, .inr (10, [.ref q2, .int 0, .ref q3, .ref q52, .ref q73, .ref q13, .ref q67, .ref q76, .ref q11, .ref q86, .ref q84, .ref q12, .ref q85, .int 0])), (q85, .inr (6, [.ref q13, .ref q169, .ref q170, .ref q171, .ref q172, .ref q173, .ref q174, .ref q175, .ref q176, .ref q177, .ref q178, .int 0, .int 0])), (q13, .inr (0, [.ref q73, .ref q100, .int 0, .int 0])), (q73, .inr (9, [.int 0, .int 0, .int 0, .int 0, .int 0, .ref q157, .ref q40, .ref q41, .ref q42, .ref q43, .ref q158, .ref q44, .ref q75, .ref q45, .ref q74, .ref q46, .ref q49]))]) (wr := [(q188, .inr (11, fs203)), (q200, .inl (gI g, 2, .inl f215))]) (rV (As := [.int (xs 1), .int (xs 2)]) (rest := []) (meth2 := "") hcx (c_X10_sure H.size) (gdV q64_21 q64_22 q64_23 q1_2 q65_0) dvX10_sure ⟨Nat.le_of_ble_eq_true rfl, Nat.le_of_ble_eq_true rfl⟩ (hP.sub [0, 3, 1, 2] rfl) (hD.sub [0, 3, 1, 2] (by decide) rfl) (va_recv hK hP (ci := 10) (q0 := 0) rfl rfl) rfl hl.1 rfl (Nat.le_of_ble_eq_true rfl) dL_law_1154 ⟨by show _ + 0 ≤ 600000; omega, by show _ + 0 ≤ 7302250; omega⟩) hP hD hS hA [0, 3, 1, 2] [4, 5] rfl rfl (by decide) (by decide) (fun r W' H locs hw hP hD hS => ?_)
  obtain ⟨rfl, rfl⟩ := hw
  have hP : va_P g.1 vwCl [(q188, .inr (11, fs203)), (q200, .inl (gI g, 2, .inl f215))] H := hP
  have hD : va_D A [(q188, .inr (11, fs203)), (q200, .inl (gI g, 2, .inl f215))] := hD
  refine lv_aload_n hx hb dL_law_1157 rfl (lv_at hl 1 rfl) ?_
  refine lv_aload_n hx hb dL_law_1158 rfl (lv_at hl 3 rfl) ?_
  refine lv_iload_n hx hb dL_law_1159 rfl (lv_at hl 0 rfl) ?_
  refine lv_iconst (v := 1) hx hb dL_law_1160 (by decide) ?_
  refine lv_iadd hx hb dL_law_1161 ?_
  refine lv_tope (y := 1) (by decide) ?_
  refine sc_ld hx hb hX hbl hbA hS 1 rfl (by decide) (by decide) dL_law_1162 ?_
  refine lv_aload_n hx hb dL_law_1163 rfl (lv_at hl 3 rfl) ?_
  refine lv_iload_n hx hb dL_law_1164 rfl (lv_at hl 0 rfl) ?_
  refine lv_iconst (v := 2) hx hb dL_law_1165 (by decide) ?_
  refine lv_iadd hx hb dL_law_1166 ?_
  refine lv_tope (y := 2) (by decide) ?_
  refine sc_ld hx hb hX hbl hbA hS 2 rfl (by decide) (by decide) dL_law_1167 ?_
  refine kI (wc := [(q188, .inr (11, fs203)), (q200, .inl (gI g, 2, .inl f215))]) (wr := []) (rV (As := [.int (xs 1), .int (xs 2)]) (rest := [.int (-1)]) (meth2 := "") hcx (c_X11_sure (hf218) (hf221) (hf236) (hf250) H.size) (gdV q65_10 q65_11 q65_12 q1_5 q65_13) dvX11_sure ⟨Nat.le_of_ble_eq_true rfl, Nat.le_of_ble_eq_true rfl⟩ (hP.sub [0, 1] rfl) (hD.sub [0, 1] (by decide) rfl) (va_recv hK hP (ci := 11) (q0 := 0) rfl rfl) rfl hl.1 rfl (Nat.le_of_ble_eq_true rfl) dL_law_1168 ⟨by show _ + 0 ≤ 600000; omega, by show _ + 0 ≤ 7302250; omega⟩) hP hD hS hA [0, 1] [] rfl rfl (by decide) (by decide) (fun r W' H locs hw hP hD hS => ?_)
  obtain ⟨rfl, rfl⟩ := hw
  have hP : va_P g.1 vwCl [] H := hP
  have hD : va_D A [] := hD
  refine lv_icmp_eq (tgt := 1278) hx hb dL_law_1171 (by decide) (fun _ => ?_) (fun c1001 => absurd (by decide) c1001)
  refine lv_iinc (v := 6) (lv' := [(3, .int 6), (2, .ref q188), (1, .ref q1), (0, .ref b)]) hx hb dL_law_1278 hl (k := 0) rfl (by decide) (by decide) rfl (fun ls hl => ?_)
  refine lv_goto (tgt := 18) hx hb dL_law_1281 (by decide) ?_
  refine lv_iload_n hx hb dL_law_18 rfl (lv_at hl 0 rfl) ?_
  refine lv_aload_n hx hb dL_law_19 rfl (lv_at hl 3 rfl) ?_
  refine va_slen hx hb hX hbl hbA hS dL_law_20 ?_
  refine lv_tope (y := 6) (by decide) ?_
  refine lv_bipush (v := 6) hx hb dL_law_21 (by decide) ?_
  refine lv_isub hx hb dL_law_23 ?_
  refine lv_tope (y := 0) (by decide) ?_
  refine lv_icmp_gt (tgt := 1284) hx hb dL_law_24 (by decide) (fun _ => ?_) (fun c1002 => absurd (by decide) c1002)
  refine lv_iconst (v := 1) hx hb dL_law_1284 (by decide) ?_
  refine va_forget (fun q hq => hAl _ (hS.2.2 q hq)) ?_
  refine W.widen (k := 600000) (n := 7302250) (by omega) (by omega) ?_
  exact lw_ret hx hb hr hlocks dL_law_1285

set_option maxHeartbeats 40000000 in
set_option maxRecDepth 100000 in
theorem lc_38 {p : Program} {l : Launch} {e : Env} {s : State} {m : MethodId} {below : List Frame} {meth : Method} {c : Code} {g : Gx} {b : Nat} {xs : Nat → Int32} {A : Nat → Prop} {H : Heap} {locs : List Loc} {ls : Array Slot} {nc ns : Nat} {q1 : Nat} {q2 : Nat} {q3 : Nat} {q52 : Nat} {q73 : Nat} {q13 : Nat} {q67 : Nat} {q76 : Nat} {q11 : Nat} {q86 : Nat} {q84 : Nat} {q12 : Nat} {q85 : Nat} {q100 : Nat} {q157 : Nat} {q40 : Nat} {q41 : Nat} {q42 : Nat} {q43 : Nat} {q158 : Nat} {q44 : Nat} {q75 : Nat} {q45 : Nat} {q74 : Nat} {q46 : Nat} {q49 : Nat} {q169 : Nat} {q170 : Nat} {q171 : Nat} {q172 : Nat} {q173 : Nat} {q174 : Nat} {q175 : Nat} {q176 : Nat} {q177 : Nat} {q178 : Nat} {q188 : Nat} {fs203 : List Value} {q189 : Nat} {q195 : Nat} {q200 : Nat} {q196 : Nat} {q197 : Nat} {q201 : Nat} {q198 : Nat} {q199 : Nat} {q190 : Nat} {q191 : Nat} {q192 : Nat} {q193 : Nat} {q194 : Nat} {q202 : Nat} {f215 : Nat → Int32} (hnc : nc ≤ 1000) (hns : ns ≤ 100000) (hcx : Cx p s m #[Value.ref b] meth c cL_law 4 ret RL meth.name g) (hX : va_X b 6 xs s s.heap) (hbl : b < s.heap.size) (hbA : ¬ A b) (hA : ∀ q : Nat, s.heap.size ≤ q → A q) (hAl : ∀ q : Nat, A q → s.heap.size ≤ q) (hf218 : fs203.length = 69) (hf219 : fs203[0]? = some (Value.ref q189)) (hf220 : fs203[11]? = some (Value.ref q195)) (hf221 : fs203[12]? = some (Value.ref q200)) (hf222 : fs203[13]? = some (Value.ref q196)) (hf223 : fs203[14]? = some (Value.ref q197)) (hf224 : fs203[15]? = some (Value.ref q201)) (hf225 : fs203[16]? = some (Value.ref q198)) (hf226 : fs203[46]? = some (Value.ref q199)) (hf227 : fs203[48]? = some (Value.ref q190)) (hf228 : fs203[51]? = some (Value.ref q191)) (hf229 : fs203[53]? = some (Value.ref q192)) (hf230 : fs203[56]? = some (Value.ref q193)) (hf231 : fs203[67]? = some (Value.ref q194)) (hf232 : fs203[68]? = some (Value.ref q202)) (hf233 : fs203[2]? = some (Value.int 0)) (hf234 : fs203[4]? = some (Value.int 0)) (hf235 : fs203[5]? = some (Value.int (-1))) (hf236 : fs203[34]? = some (Value.int 0)) (hf237 : fs203[49]? = some (Value.int 0)) (hf238 : fs203[50]? = some (Value.int 0)) (hf239 : fs203[54]? = some (Value.int 0)) (hf240 : fs203[65]? = some (Value.int 0)) (hf241 : fs203[66]? = some (Value.int 0)) (hf250 : f215 0 = 0) (hP : va_P g.1 vwCl [(q1, .inr (10, [.ref q2, .int 0, .ref q3, .ref q52, .ref q73, .ref q13, .ref q67, .ref q76, .ref q11, .ref q86, .ref q84, .ref q12, .ref q85, .int 0])), (q13, .inr (0, [.ref q73, .ref q100, .int 0, .int 0])), (q73, .inr (9, [.int 0, .int 0, .int 0, .int 0, .int 0, .ref q157, .ref q40, .ref q41, .ref q42, .ref q43, .ref q158, .ref q44, .ref q75, .ref q45, .ref q74, .ref q46, .ref q49])), (q85, .inr (6, [.ref q13, .ref q169, .ref q170, .ref q171, .ref q172, .ref q173, .ref q174, .ref q175, .ref q176, .ref q177, .ref q178, .int 0, .int 0])), (q188, .inr (11, fs203)), (q200, .inl (gI g, 2, .inl f215))] H) (hD : va_D A [(q1, .inr (10, [.ref q2, .int 0, .ref q3, .ref q52, .ref q73, .ref q13, .ref q67, .ref q76, .ref q11, .ref q86, .ref q84, .ref q12, .ref q85, .int 0])), (q13, .inr (0, [.ref q73, .ref q100, .int 0, .int 0])), (q73, .inr (9, [.int 0, .int 0, .int 0, .int 0, .int 0, .ref q157, .ref q40, .ref q41, .ref q42, .ref q43, .ref q158, .ref q44, .ref q75, .ref q45, .ref q74, .ref q46, .ref q49])), (q85, .inr (6, [.ref q13, .ref q169, .ref q170, .ref q171, .ref q172, .ref q173, .ref q174, .ref q175, .ref q176, .ref q177, .ref q178, .int 0, .int 0])), (q188, .inr (11, fs203)), (q200, .inl (gI g, 2, .inl f215))]) (hS : va_S A s.heap H locs) (hl : lv_has ls 4 [(3, .int 0), (2, .ref q188), (1, .ref q1), (0, .ref b)]) : W p l e room_1 s m #[Value.ref b] below meth c H locs nc ns (lw_Z below #[Value.ref b] s) (F0 m 1176 ls []) := by
  obtain ⟨hx, hb, hml, hr, hlocks, hown, hts, hE, hnm⟩ := id hcx
  have hK := hE.1
  refine lv_aload_n hx hb dL_law_1176 rfl (lv_at hl 2 rfl) ?_
  refine lv_aload_n hx hb dL_law_1177 rfl (lv_at hl 3 rfl) ?_
  refine lv_iload_n hx hb dL_law_1178 rfl (lv_at hl 0 rfl) ?_
  refine lv_iconst (v := 1) hx hb dL_law_1179 (by decide) ?_
  refine lv_iadd hx hb dL_law_1180 ?_
  refine lv_tope (y := 1) (by decide) ?_
  refine sc_ld hx hb hX hbl hbA hS 1 rfl (by decide) (by decide) dL_law_1181 ?_
  refine lv_aload_n hx hb dL_law_1182 rfl (lv_at hl 3 rfl) ?_
  refine lv_iload_n hx hb dL_law_1183 rfl (lv_at hl 0 rfl) ?_
  refine lv_iconst (v := 2) hx hb dL_law_1184 (by decide) ?_
  refine lv_iadd hx hb dL_law_1185 ?_
  refine lv_tope (y := 2) (by decide) ?_
  refine sc_ld hx hb hX hbl hbA hS 2 rfl (by decide) (by decide) dL_law_1186 ?_
  refine kI (wc := [(q1, .inr (10, [.ref q2, .int 0, .ref q3, .ref q52, .ref q73, .ref q13, .ref q67, .ref q76, .ref q11, .ref q86, .ref q84, .ref q12, .ref q85, .int 0])), (q85, .inr (6, [.ref q13, .ref q169, .ref q170, .ref q171, .ref q172, .ref q173, .ref q174, .ref q175, .ref q176, .ref q177, .ref q178, .int 0, .int 0])), (q13, .inr (0, [.ref q73, .ref q100, .int 0, .int 0])), (q73, .inr (9, [.int 0, .int 0, .int 0, .int 0, .int 0, .ref q157, .ref q40, .ref q41, .ref q42, .ref q43, .ref q158, .ref q44, .ref q75, .ref q45, .ref q74, .ref q46, .ref q49]))]) (wr := [(q188, .inr (11, fs203)), (q200, .inl (gI g, 2, .inl f215))]) (rV (As := [.int (xs 1), .int (xs 2)]) (rest := []) (meth2 := "") hcx (c_X10_ask H.size) (gdV q65_15 q65_16 q65_17 q1_2 q65_18) dvX10_ask ⟨Nat.le_of_ble_eq_true rfl, Nat.le_of_ble_eq_true rfl⟩ (hP.sub [0, 3, 1, 2] rfl) (hD.sub [0, 3, 1, 2] (by decide) rfl) (va_recv hK hP (ci := 10) (q0 := 0) rfl rfl) rfl hl.1 rfl (Nat.le_of_ble_eq_true rfl) dL_law_1187 ⟨by show _ + 0 ≤ 600000; omega, by show _ + 0 ≤ 7302250; omega⟩) hP hD hS hA [0, 3, 1, 2] [4, 5] rfl rfl (by decide) (by decide) (fun r W' H locs hw hP hD hS => ?_)
  obtain ⟨rfl, rfl⟩ := hw
  have hP : va_P g.1 vwCl [(q188, .inr (11, fs203)), (q200, .inl (gI g, 2, .inl f215))] H := hP
  have hD : va_D A [(q188, .inr (11, fs203)), (q200, .inl (gI g, 2, .inl f215))] := hD
  refine lv_aload_n hx hb dL_law_1190 rfl (lv_at hl 1 rfl) ?_
  refine lv_aload_n hx hb dL_law_1191 rfl (lv_at hl 3 rfl) ?_
  refine lv_iload_n hx hb dL_law_1192 rfl (lv_at hl 0 rfl) ?_
  refine lv_iconst (v := 1) hx hb dL_law_1193 (by decide) ?_
  refine lv_iadd hx hb dL_law_1194 ?_
  refine lv_tope (y := 1) (by decide) ?_
  refine sc_ld hx hb hX hbl hbA hS 1 rfl (by decide) (by decide) dL_law_1195 ?_
  refine lv_aload_n hx hb dL_law_1196 rfl (lv_at hl 3 rfl) ?_
  refine lv_iload_n hx hb dL_law_1197 rfl (lv_at hl 0 rfl) ?_
  refine lv_iconst (v := 2) hx hb dL_law_1198 (by decide) ?_
  refine lv_iadd hx hb dL_law_1199 ?_
  refine lv_tope (y := 2) (by decide) ?_
  refine sc_ld hx hb hX hbl hbA hS 2 rfl (by decide) (by decide) dL_law_1200 ?_
  refine kI (wc := [(q188, .inr (11, fs203)), (q200, .inl (gI g, 2, .inl f215))]) (wr := []) (rV (As := [.int (xs 1), .int (xs 2)]) (rest := [.int (-1)]) (meth2 := "") hcx (c_X11_ask (hf218) (hf221) (hf236) (hf250) H.size) (gdV q66_4 q66_5 q66_6 q1_5 q66_7) dvX11_ask ⟨Nat.le_of_ble_eq_true rfl, Nat.le_of_ble_eq_true rfl⟩ (hP.sub [0, 1] rfl) (hD.sub [0, 1] (by decide) rfl) (va_recv hK hP (ci := 11) (q0 := 0) rfl rfl) rfl hl.1 rfl (Nat.le_of_ble_eq_true rfl) dL_law_1201 ⟨by show _ + 0 ≤ 600000; omega, by show _ + 0 ≤ 7302250; omega⟩) hP hD hS hA [0, 1] [] rfl rfl (by decide) (by decide) (fun r W' H locs hw hP hD hS => ?_)
  obtain ⟨rfl, rfl⟩ := hw
  have hP : va_P g.1 vwCl [] H := hP
  have hD : va_D A [] := hD
  refine lv_icmp_eq (tgt := 1278) hx hb dL_law_1204 (by decide) (fun _ => ?_) (fun c1001 => absurd (by decide) c1001)
  refine lv_iinc (v := 6) (lv' := [(3, .int 6), (2, .ref q188), (1, .ref q1), (0, .ref b)]) hx hb dL_law_1278 hl (k := 0) rfl (by decide) (by decide) rfl (fun ls hl => ?_)
  refine lv_goto (tgt := 18) hx hb dL_law_1281 (by decide) ?_
  refine lv_iload_n hx hb dL_law_18 rfl (lv_at hl 0 rfl) ?_
  refine lv_aload_n hx hb dL_law_19 rfl (lv_at hl 3 rfl) ?_
  refine va_slen hx hb hX hbl hbA hS dL_law_20 ?_
  refine lv_tope (y := 6) (by decide) ?_
  refine lv_bipush (v := 6) hx hb dL_law_21 (by decide) ?_
  refine lv_isub hx hb dL_law_23 ?_
  refine lv_tope (y := 0) (by decide) ?_
  refine lv_icmp_gt (tgt := 1284) hx hb dL_law_24 (by decide) (fun _ => ?_) (fun c1002 => absurd (by decide) c1002)
  refine lv_iconst (v := 1) hx hb dL_law_1284 (by decide) ?_
  refine va_forget (fun q hq => hAl _ (hS.2.2 q hq)) ?_
  refine W.widen (k := 600000) (n := 7302250) (by omega) (by omega) ?_
  exact lw_ret hx hb hr hlocks dL_law_1285

set_option maxHeartbeats 40000000 in
set_option maxRecDepth 100000 in
theorem lc_39_0 {p : Program} {l : Launch} {e : Env} {s : State} {m : MethodId} {below : List Frame} {meth : Method} {c : Code} {g : Gx} {b : Nat} {xs : Nat → Int32} {A : Nat → Prop} {H : Heap} {locs : List Loc} {ls : Array Slot} {nc ns : Nat} {q1 : Nat} {q2 : Nat} {q3 : Nat} {q52 : Nat} {q73 : Nat} {q13 : Nat} {q67 : Nat} {q76 : Nat} {q11 : Nat} {q86 : Nat} {q84 : Nat} {q12 : Nat} {q85 : Nat} {f95 : Nat → Option Nat} {q22 : Nat} {q28 : Nat} {q34 : Nat} {q23 : Nat} {q24 : Nat} {q25 : Nat} {q26 : Nat} {q27 : Nat} {f108 : Nat → Int32} {f109 : Nat → Int32} {f110 : Nat → Int32} {f111 : Nat → Int32} {f112 : Nat → Int32} {q68 : Nat} {q69 : Nat} {q70 : Nat} {q71 : Nat} {q72 : Nat} {x151 : Int32} {f152 : Nat → Int32} {f153 : Nat → Int32} {f154 : Nat → Int32} {f155 : Nat → Int32} {f156 : Nat → Int32} {f179 : Nat → Int32} {q188 : Nat} {fs203 : List Value} {q189 : Nat} {q195 : Nat} {q200 : Nat} {q196 : Nat} {q197 : Nat} {q201 : Nat} {q198 : Nat} {q199 : Nat} {q190 : Nat} {q191 : Nat} {q192 : Nat} {q193 : Nat} {q194 : Nat} {q202 : Nat} {f209 : Nat → Int32} {f214 : Nat → Int32} {f217 : Nat → Int32} (hi : xs 1 = 0) (hnc : nc ≤ 1000) (hns : ns ≤ 100000) (hcx : Cx p s m #[Value.ref b] meth c cL_law 4 ret RL meth.name g) (hX : va_X b 6 xs s s.heap) (hbl : b < s.heap.size) (hbA : ¬ A b) (hA : ∀ q : Nat, s.heap.size ≤ q → A q) (hAl : ∀ q : Nat, A q → s.heap.size ≤ q) (hf180 : f95 0 = some q22) (hf181 : f95 1 = some q28) (hf182 : f95 2 = some q34) (hf185 : f179 0 = 0) (hf186 : f179 1 = 0) (hf187 : f179 2 = 0) (hf218 : fs203.length = 69) (hf219 : fs203[0]? = some (Value.ref q189)) (hf220 : fs203[11]? = some (Value.ref q195)) (hf221 : fs203[12]? = some (Value.ref q200)) (hf222 : fs203[13]? = some (Value.ref q196)) (hf223 : fs203[14]? = some (Value.ref q197)) (hf224 : fs203[15]? = some (Value.ref q201)) (hf225 : fs203[16]? = some (Value.ref q198)) (hf226 : fs203[46]? = some (Value.ref q199)) (hf227 : fs203[48]? = some (Value.ref q190)) (hf228 : fs203[51]? = some (Value.ref q191)) (hf229 : fs203[53]? = some (Value.ref q192)) (hf230 : fs203[56]? = some (Value.ref q193)) (hf231 : fs203[67]? = some (Value.ref q194)) (hf232 : fs203[68]? = some (Value.ref q202)) (hf233 : fs203[2]? = some (Value.int 0)) (hf234 : fs203[4]? = some (Value.int 0)) (hf235 : fs203[5]? = some (Value.int (-1))) (hf236 : fs203[34]? = some (Value.int 0)) (hf237 : fs203[49]? = some (Value.int 0)) (hf238 : fs203[50]? = some (Value.int 0)) (hf239 : fs203[54]? = some (Value.int 0)) (hf240 : fs203[65]? = some (Value.int 0)) (hf241 : fs203[66]? = some (Value.int 0)) (hf246 : f214 20 = 0) (hf247 : f214 21 = 0) (hf248 : f214 22 = 0) (hf249 : f214 23 = 0) (hf252 : f217 0 = 0) (hf253 : f217 1 = 0) (hf254 : f217 2 = 0) (hP : va_P g.1 vwCl [(q1, .inr (10, [.ref q2, .int 0, .ref q3, .ref q52, .ref q73, .ref q13, .ref q67, .ref q76, .ref q11, .ref q86, .ref q84, .ref q12, .ref q85, .int 0])), (q11, .inl (gO g, 3, .inr (.inr (.inr (.inr f95))))), (q22, .inr (7, [.ref q23, .ref q24, .ref q25, .ref q26, .ref q27, .int 0, .int 0, .int 0, .int 0, .int 0])), (q23, .inl (gI g, 5, .inl f108)), (q24, .inl (gI g, 5, .inl f109)), (q25, .inl (gI g, 5, .inl f110)), (q26, .inl (gI g, 5, .inl f111)), (q27, .inl (gI g, 5, .inl f112)), (q67, .inr (7, [.ref q68, .ref q69, .ref q70, .ref q71, .ref q72, .int 0, .int 0, .int 0, .int 0, .int x151])), (q68, .inl (gI g, 5, .inl f152)), (q69, .inl (gI g, 5, .inl f153)), (q70, .inl (gI g, 5, .inl f154)), (q71, .inl (gI g, 5, .inl f155)), (q72, .inl (gI g, 5, .inl f156)), (q86, .inl (gZ g, 3, .inl f179)), (q188, .inr (11, fs203)), (q194, .inl (gI g, 72, .inl f209)), (q199, .inl (gI g, 24, .inl f214)), (q202, .inl (gZ g, 3, .inl f217))] H) (hD : va_D A [(q1, .inr (10, [.ref q2, .int 0, .ref q3, .ref q52, .ref q73, .ref q13, .ref q67, .ref q76, .ref q11, .ref q86, .ref q84, .ref q12, .ref q85, .int 0])), (q11, .inl (gO g, 3, .inr (.inr (.inr (.inr f95))))), (q22, .inr (7, [.ref q23, .ref q24, .ref q25, .ref q26, .ref q27, .int 0, .int 0, .int 0, .int 0, .int 0])), (q23, .inl (gI g, 5, .inl f108)), (q24, .inl (gI g, 5, .inl f109)), (q25, .inl (gI g, 5, .inl f110)), (q26, .inl (gI g, 5, .inl f111)), (q27, .inl (gI g, 5, .inl f112)), (q67, .inr (7, [.ref q68, .ref q69, .ref q70, .ref q71, .ref q72, .int 0, .int 0, .int 0, .int 0, .int x151])), (q68, .inl (gI g, 5, .inl f152)), (q69, .inl (gI g, 5, .inl f153)), (q70, .inl (gI g, 5, .inl f154)), (q71, .inl (gI g, 5, .inl f155)), (q72, .inl (gI g, 5, .inl f156)), (q86, .inl (gZ g, 3, .inl f179)), (q188, .inr (11, fs203)), (q194, .inl (gI g, 72, .inl f209)), (q199, .inl (gI g, 24, .inl f214)), (q202, .inl (gZ g, 3, .inl f217))]) (hS : va_S A s.heap H locs) (hl : lv_has ls 4 [(3, .int 0), (2, .ref q188), (1, .ref q1), (0, .ref b)]) : W p l e room_1 s m #[Value.ref b] below meth c H locs nc ns (lw_Z below #[Value.ref b] s) (F0 m 1209 ls []) := by
  obtain ⟨hx, hb, hml, hr, hlocks, hown, hts, hE, hnm⟩ := id hcx
  have hK := hE.1
  refine lv_aload_n hx hb dL_law_1209 rfl (lv_at hl 2 rfl) ?_
  refine lv_aload_n hx hb dL_law_1210 rfl (lv_at hl 3 rfl) ?_
  refine lv_iload_n hx hb dL_law_1211 rfl (lv_at hl 0 rfl) ?_
  refine lv_iconst (v := 1) hx hb dL_law_1212 (by decide) ?_
  refine lv_iadd hx hb dL_law_1213 ?_
  refine lv_tope (y := 1) (by decide) ?_
  refine sc_ld hx hb hX hbl hbA hS 1 rfl (by decide) (by decide) dL_law_1214 ?_
  refine lv_tope (y := 0) hi ?_
  refine kI (wc := [(q1, .inr (10, [.ref q2, .int 0, .ref q3, .ref q52, .ref q73, .ref q13, .ref q67, .ref q76, .ref q11, .ref q86, .ref q84, .ref q12, .ref q85, .int 0])), (q11, .inl (gO g, 3, .inr (.inr (.inr (.inr f95))))), (q22, .inr (7, [.ref q23, .ref q24, .ref q25, .ref q26, .ref q27, .int 0, .int 0, .int 0, .int 0, .int 0])), (q23, .inl (gI g, 5, .inl f108)), (q24, .inl (gI g, 5, .inl f109)), (q25, .inl (gI g, 5, .inl f110)), (q26, .inl (gI g, 5, .inl f111)), (q27, .inl (gI g, 5, .inl f112)), (q67, .inr (7, [.ref q68, .ref q69, .ref q70, .ref q71, .ref q72, .int 0, .int 0, .int 0, .int 0, .int x151])), (q68, .inl (gI g, 5, .inl f152)), (q69, .inl (gI g, 5, .inl f153)), (q70, .inl (gI g, 5, .inl f154)), (q71, .inl (gI g, 5, .inl f155)), (q72, .inl (gI g, 5, .inl f156)), (q86, .inl (gZ g, 3, .inl f179))]) (wr := [(q188, .inr (11, fs203)), (q194, .inl (gI g, 72, .inl f209)), (q199, .inl (gI g, 24, .inl f214)), (q202, .inl (gZ g, 3, .inl f217))]) (rV (As := [.int 0]) (rest := []) (meth2 := "") hcx (c_X10_image_0 (hf180) H.size) (gdV q66_12 q66_13 q66_14 q1_2 q66_15) dvX10_image ⟨Nat.le_of_ble_eq_true rfl, Nat.le_of_ble_eq_true rfl⟩ (hP.sub [0, 1, 2, 3, 4, 5, 6, 7, 8, 9, 10, 11, 12, 13, 14] rfl) (hD.sub [0, 1, 2, 3, 4, 5, 6, 7, 8, 9, 10, 11, 12, 13, 14] (by decide) rfl) (va_recv hK hP (ci := 10) (q0 := 0) rfl rfl) rfl hl.1 rfl (Nat.le_of_ble_eq_true rfl) dL_law_1215 ⟨by show _ + 0 ≤ 600000; omega, by show _ + 0 ≤ 7302250; omega⟩) hP hD hS hA [0, 1, 2, 3, 4, 5, 6, 7, 8, 9, 10, 11, 12, 13, 14] [15, 16, 17, 18] rfl rfl (by decide) (by decide) (fun r W' H locs hw hP hD hS => ?_)
  obtain ⟨rfl, rfl⟩ := hw
  have hP : va_P g.1 vwCl [(q188, .inr (11, fs203)), (q194, .inl (gI g, 72, .inl f209)), (q199, .inl (gI g, 24, .inl f214)), (q202, .inl (gZ g, 3, .inl f217))] H := hP
  have hD : va_D A [(q188, .inr (11, fs203)), (q194, .inl (gI g, 72, .inl f209)), (q199, .inl (gI g, 24, .inl f214)), (q202, .inl (gZ g, 3, .inl f217))] := hD
  refine lv_aload_n hx hb dL_law_1218 rfl (lv_at hl 1 rfl) ?_
  refine lv_aload_n hx hb dL_law_1219 rfl (lv_at hl 3 rfl) ?_
  refine lv_iload_n hx hb dL_law_1220 rfl (lv_at hl 0 rfl) ?_
  refine lv_iconst (v := 1) hx hb dL_law_1221 (by decide) ?_
  refine lv_iadd hx hb dL_law_1222 ?_
  refine lv_tope (y := 1) (by decide) ?_
  refine sc_ld hx hb hX hbl hbA hS 1 rfl (by decide) (by decide) dL_law_1223 ?_
  refine lv_tope (y := 0) hi ?_
  refine kI (wc := [(q188, .inr (11, fs203)), (q199, .inl (gI g, 24, .inl f214)), (q194, .inl (gI g, 72, .inl f209)), (q202, .inl (gZ g, 3, .inl f217))]) (wr := []) (rV (As := [.int 0]) (rest := [.int 0]) (meth2 := "") hcx (c_X11_image_0 (hf218) (hf226) (hf231) (hf232) (hf248) H.size) (gdV q66_17 q66_18 q66_19 q1_5 q66_20) dvX11_image ⟨Nat.le_of_ble_eq_true rfl, Nat.le_of_ble_eq_true rfl⟩ (hP.sub [0, 2, 1, 3] rfl) (hD.sub [0, 2, 1, 3] (by decide) rfl) (va_recv hK hP (ci := 11) (q0 := 0) rfl rfl) rfl hl.1 rfl (Nat.le_of_ble_eq_true rfl) dL_law_1224 ⟨by show _ + 0 ≤ 600000; omega, by show _ + 0 ≤ 7302250; omega⟩) hP hD hS hA [0, 2, 1, 3] [] rfl rfl (by decide) (by decide) (fun r W' H locs hw hP hD hS => ?_)
  obtain ⟨rfl, rfl⟩ := hw
  have hP : va_P g.1 vwCl [] H := hP
  have hD : va_D A [] := hD
  refine lv_icmp_eq (tgt := 1278) hx hb dL_law_1227 (by decide) (fun _ => ?_) (fun c1001 => absurd (by decide) c1001)
  refine lv_iinc (v := 6) (lv' := [(3, .int 6), (2, .ref q188), (1, .ref q1), (0, .ref b)]) hx hb dL_law_1278 hl (k := 0) rfl (by decide) (by decide) rfl (fun ls hl => ?_)
  refine lv_goto (tgt := 18) hx hb dL_law_1281 (by decide) ?_
  refine lv_iload_n hx hb dL_law_18 rfl (lv_at hl 0 rfl) ?_
  refine lv_aload_n hx hb dL_law_19 rfl (lv_at hl 3 rfl) ?_
  refine va_slen hx hb hX hbl hbA hS dL_law_20 ?_
  refine lv_tope (y := 6) (by decide) ?_
  refine lv_bipush (v := 6) hx hb dL_law_21 (by decide) ?_
  refine lv_isub hx hb dL_law_23 ?_
  refine lv_tope (y := 0) (by decide) ?_
  refine lv_icmp_gt (tgt := 1284) hx hb dL_law_24 (by decide) (fun _ => ?_) (fun c1002 => absurd (by decide) c1002)
  refine lv_iconst (v := 1) hx hb dL_law_1284 (by decide) ?_
  refine va_forget (fun q hq => hAl _ (hS.2.2 q hq)) ?_
  refine W.widen (k := 600000) (n := 7302250) (by omega) (by omega) ?_
  exact lw_ret hx hb hr hlocks dL_law_1285

set_option maxHeartbeats 40000000 in
set_option maxRecDepth 100000 in
theorem lc_39_1 {p : Program} {l : Launch} {e : Env} {s : State} {m : MethodId} {below : List Frame} {meth : Method} {c : Code} {g : Gx} {b : Nat} {xs : Nat → Int32} {A : Nat → Prop} {H : Heap} {locs : List Loc} {ls : Array Slot} {nc ns : Nat} {q1 : Nat} {q2 : Nat} {q3 : Nat} {q52 : Nat} {q73 : Nat} {q13 : Nat} {q67 : Nat} {q76 : Nat} {q11 : Nat} {q86 : Nat} {q84 : Nat} {q12 : Nat} {q85 : Nat} {f95 : Nat → Option Nat} {q22 : Nat} {q28 : Nat} {q34 : Nat} {q29 : Nat} {q30 : Nat} {q31 : Nat} {q32 : Nat} {q33 : Nat} {f113 : Nat → Int32} {f114 : Nat → Int32} {f115 : Nat → Int32} {f116 : Nat → Int32} {f117 : Nat → Int32} {q68 : Nat} {q69 : Nat} {q70 : Nat} {q71 : Nat} {q72 : Nat} {x151 : Int32} {f152 : Nat → Int32} {f153 : Nat → Int32} {f154 : Nat → Int32} {f155 : Nat → Int32} {f156 : Nat → Int32} {f179 : Nat → Int32} {q188 : Nat} {fs203 : List Value} {q189 : Nat} {q195 : Nat} {q200 : Nat} {q196 : Nat} {q197 : Nat} {q201 : Nat} {q198 : Nat} {q199 : Nat} {q190 : Nat} {q191 : Nat} {q192 : Nat} {q193 : Nat} {q194 : Nat} {q202 : Nat} {f209 : Nat → Int32} {f214 : Nat → Int32} {f217 : Nat → Int32} (hi : xs 1 = 1) (hnc : nc ≤ 1000) (hns : ns ≤ 100000) (hcx : Cx p s m #[Value.ref b] meth c cL_law 4 ret RL meth.name g) (hX : va_X b 6 xs s s.heap) (hbl : b < s.heap.size) (hbA : ¬ A b) (hA : ∀ q : Nat, s.heap.size ≤ q → A q) (hAl : ∀ q : Nat, A q → s.heap.size ≤ q) (hf180 : f95 0 = some q22) (hf181 : f95 1 = some q28) (hf182 : f95 2 = some q34) (hf185 : f179 0 = 0) (hf186 : f179 1 = 0) (hf187 : f179 2 = 0) (hf218 : fs203.length = 69) (hf219 : fs203[0]? = some (Value.ref q189)) (hf220 : fs203[11]? = some (Value.ref q195)) (hf221 : fs203[12]? = some (Value.ref q200)) (hf222 : fs203[13]? = some (Value.ref q196)) (hf223 : fs203[14]? = some (Value.ref q197)) (hf224 : fs203[15]? = some (Value.ref q201)) (hf225 : fs203[16]? = some (Value.ref q198)) (hf226 : fs203[46]? = some (Value.ref q199)) (hf227 : fs203[48]? = some (Value.ref q190)) (hf228 : fs203[51]? = some (Value.ref q191)) (hf229 : fs203[53]? = some (Value.ref q192)) (hf230 : fs203[56]? = some (Value.ref q193)) (hf231 : fs203[67]? = some (Value.ref q194)) (hf232 : fs203[68]? = some (Value.ref q202)) (hf233 : fs203[2]? = some (Value.int 0)) (hf234 : fs203[4]? = some (Value.int 0)) (hf235 : fs203[5]? = some (Value.int (-1))) (hf236 : fs203[34]? = some (Value.int 0)) (hf237 : fs203[49]? = some (Value.int 0)) (hf238 : fs203[50]? = some (Value.int 0)) (hf239 : fs203[54]? = some (Value.int 0)) (hf240 : fs203[65]? = some (Value.int 0)) (hf241 : fs203[66]? = some (Value.int 0)) (hf246 : f214 20 = 0) (hf247 : f214 21 = 0) (hf248 : f214 22 = 0) (hf249 : f214 23 = 0) (hf252 : f217 0 = 0) (hf253 : f217 1 = 0) (hf254 : f217 2 = 0) (hP : va_P g.1 vwCl [(q1, .inr (10, [.ref q2, .int 0, .ref q3, .ref q52, .ref q73, .ref q13, .ref q67, .ref q76, .ref q11, .ref q86, .ref q84, .ref q12, .ref q85, .int 0])), (q11, .inl (gO g, 3, .inr (.inr (.inr (.inr f95))))), (q28, .inr (7, [.ref q29, .ref q30, .ref q31, .ref q32, .ref q33, .int 0, .int 0, .int 0, .int 0, .int 0])), (q29, .inl (gI g, 5, .inl f113)), (q30, .inl (gI g, 5, .inl f114)), (q31, .inl (gI g, 5, .inl f115)), (q32, .inl (gI g, 5, .inl f116)), (q33, .inl (gI g, 5, .inl f117)), (q67, .inr (7, [.ref q68, .ref q69, .ref q70, .ref q71, .ref q72, .int 0, .int 0, .int 0, .int 0, .int x151])), (q68, .inl (gI g, 5, .inl f152)), (q69, .inl (gI g, 5, .inl f153)), (q70, .inl (gI g, 5, .inl f154)), (q71, .inl (gI g, 5, .inl f155)), (q72, .inl (gI g, 5, .inl f156)), (q86, .inl (gZ g, 3, .inl f179)), (q188, .inr (11, fs203)), (q194, .inl (gI g, 72, .inl f209)), (q199, .inl (gI g, 24, .inl f214)), (q202, .inl (gZ g, 3, .inl f217))] H) (hD : va_D A [(q1, .inr (10, [.ref q2, .int 0, .ref q3, .ref q52, .ref q73, .ref q13, .ref q67, .ref q76, .ref q11, .ref q86, .ref q84, .ref q12, .ref q85, .int 0])), (q11, .inl (gO g, 3, .inr (.inr (.inr (.inr f95))))), (q28, .inr (7, [.ref q29, .ref q30, .ref q31, .ref q32, .ref q33, .int 0, .int 0, .int 0, .int 0, .int 0])), (q29, .inl (gI g, 5, .inl f113)), (q30, .inl (gI g, 5, .inl f114)), (q31, .inl (gI g, 5, .inl f115)), (q32, .inl (gI g, 5, .inl f116)), (q33, .inl (gI g, 5, .inl f117)), (q67, .inr (7, [.ref q68, .ref q69, .ref q70, .ref q71, .ref q72, .int 0, .int 0, .int 0, .int 0, .int x151])), (q68, .inl (gI g, 5, .inl f152)), (q69, .inl (gI g, 5, .inl f153)), (q70, .inl (gI g, 5, .inl f154)), (q71, .inl (gI g, 5, .inl f155)), (q72, .inl (gI g, 5, .inl f156)), (q86, .inl (gZ g, 3, .inl f179)), (q188, .inr (11, fs203)), (q194, .inl (gI g, 72, .inl f209)), (q199, .inl (gI g, 24, .inl f214)), (q202, .inl (gZ g, 3, .inl f217))]) (hS : va_S A s.heap H locs) (hl : lv_has ls 4 [(3, .int 0), (2, .ref q188), (1, .ref q1), (0, .ref b)]) : W p l e room_1 s m #[Value.ref b] below meth c H locs nc ns (lw_Z below #[Value.ref b] s) (F0 m 1209 ls []) := by
  obtain ⟨hx, hb, hml, hr, hlocks, hown, hts, hE, hnm⟩ := id hcx
  have hK := hE.1
  refine lv_aload_n hx hb dL_law_1209 rfl (lv_at hl 2 rfl) ?_
  refine lv_aload_n hx hb dL_law_1210 rfl (lv_at hl 3 rfl) ?_
  refine lv_iload_n hx hb dL_law_1211 rfl (lv_at hl 0 rfl) ?_
  refine lv_iconst (v := 1) hx hb dL_law_1212 (by decide) ?_
  refine lv_iadd hx hb dL_law_1213 ?_
  refine lv_tope (y := 1) (by decide) ?_
  refine sc_ld hx hb hX hbl hbA hS 1 rfl (by decide) (by decide) dL_law_1214 ?_
  refine lv_tope (y := 1) hi ?_
  refine kI (wc := [(q1, .inr (10, [.ref q2, .int 0, .ref q3, .ref q52, .ref q73, .ref q13, .ref q67, .ref q76, .ref q11, .ref q86, .ref q84, .ref q12, .ref q85, .int 0])), (q11, .inl (gO g, 3, .inr (.inr (.inr (.inr f95))))), (q28, .inr (7, [.ref q29, .ref q30, .ref q31, .ref q32, .ref q33, .int 0, .int 0, .int 0, .int 0, .int 0])), (q29, .inl (gI g, 5, .inl f113)), (q30, .inl (gI g, 5, .inl f114)), (q31, .inl (gI g, 5, .inl f115)), (q32, .inl (gI g, 5, .inl f116)), (q33, .inl (gI g, 5, .inl f117)), (q67, .inr (7, [.ref q68, .ref q69, .ref q70, .ref q71, .ref q72, .int 0, .int 0, .int 0, .int 0, .int x151])), (q68, .inl (gI g, 5, .inl f152)), (q69, .inl (gI g, 5, .inl f153)), (q70, .inl (gI g, 5, .inl f154)), (q71, .inl (gI g, 5, .inl f155)), (q72, .inl (gI g, 5, .inl f156)), (q86, .inl (gZ g, 3, .inl f179))]) (wr := [(q188, .inr (11, fs203)), (q194, .inl (gI g, 72, .inl f209)), (q199, .inl (gI g, 24, .inl f214)), (q202, .inl (gZ g, 3, .inl f217))]) (rV (As := [.int 1]) (rest := []) (meth2 := "") hcx (c_X10_image_1 (hf181) H.size) (gdV q66_12 q66_13 q66_14 q1_2 q66_15) dvX10_image ⟨Nat.le_of_ble_eq_true rfl, Nat.le_of_ble_eq_true rfl⟩ (hP.sub [0, 1, 2, 3, 4, 5, 6, 7, 8, 9, 10, 11, 12, 13, 14] rfl) (hD.sub [0, 1, 2, 3, 4, 5, 6, 7, 8, 9, 10, 11, 12, 13, 14] (by decide) rfl) (va_recv hK hP (ci := 10) (q0 := 0) rfl rfl) rfl hl.1 rfl (Nat.le_of_ble_eq_true rfl) dL_law_1215 ⟨by show _ + 0 ≤ 600000; omega, by show _ + 0 ≤ 7302250; omega⟩) hP hD hS hA [0, 1, 2, 3, 4, 5, 6, 7, 8, 9, 10, 11, 12, 13, 14] [15, 16, 17, 18] rfl rfl (by decide) (by decide) (fun r W' H locs hw hP hD hS => ?_)
  obtain ⟨rfl, rfl⟩ := hw
  have hP : va_P g.1 vwCl [(q188, .inr (11, fs203)), (q194, .inl (gI g, 72, .inl f209)), (q199, .inl (gI g, 24, .inl f214)), (q202, .inl (gZ g, 3, .inl f217))] H := hP
  have hD : va_D A [(q188, .inr (11, fs203)), (q194, .inl (gI g, 72, .inl f209)), (q199, .inl (gI g, 24, .inl f214)), (q202, .inl (gZ g, 3, .inl f217))] := hD
  refine lv_aload_n hx hb dL_law_1218 rfl (lv_at hl 1 rfl) ?_
  refine lv_aload_n hx hb dL_law_1219 rfl (lv_at hl 3 rfl) ?_
  refine lv_iload_n hx hb dL_law_1220 rfl (lv_at hl 0 rfl) ?_
  refine lv_iconst (v := 1) hx hb dL_law_1221 (by decide) ?_
  refine lv_iadd hx hb dL_law_1222 ?_
  refine lv_tope (y := 1) (by decide) ?_
  refine sc_ld hx hb hX hbl hbA hS 1 rfl (by decide) (by decide) dL_law_1223 ?_
  refine lv_tope (y := 1) hi ?_
  refine kI (wc := [(q188, .inr (11, fs203)), (q199, .inl (gI g, 24, .inl f214)), (q194, .inl (gI g, 72, .inl f209)), (q202, .inl (gZ g, 3, .inl f217))]) (wr := []) (rV (As := [.int 1]) (rest := [.int 0]) (meth2 := "") hcx (c_X11_image_1 (hf218) (hf226) (hf231) (hf232) (hf248) H.size) (gdV q66_17 q66_18 q66_19 q1_5 q66_20) dvX11_image ⟨Nat.le_of_ble_eq_true rfl, Nat.le_of_ble_eq_true rfl⟩ (hP.sub [0, 2, 1, 3] rfl) (hD.sub [0, 2, 1, 3] (by decide) rfl) (va_recv hK hP (ci := 11) (q0 := 0) rfl rfl) rfl hl.1 rfl (Nat.le_of_ble_eq_true rfl) dL_law_1224 ⟨by show _ + 0 ≤ 600000; omega, by show _ + 0 ≤ 7302250; omega⟩) hP hD hS hA [0, 2, 1, 3] [] rfl rfl (by decide) (by decide) (fun r W' H locs hw hP hD hS => ?_)
  obtain ⟨rfl, rfl⟩ := hw
  have hP : va_P g.1 vwCl [] H := hP
  have hD : va_D A [] := hD
  refine lv_icmp_eq (tgt := 1278) hx hb dL_law_1227 (by decide) (fun _ => ?_) (fun c1001 => absurd (by decide) c1001)
  refine lv_iinc (v := 6) (lv' := [(3, .int 6), (2, .ref q188), (1, .ref q1), (0, .ref b)]) hx hb dL_law_1278 hl (k := 0) rfl (by decide) (by decide) rfl (fun ls hl => ?_)
  refine lv_goto (tgt := 18) hx hb dL_law_1281 (by decide) ?_
  refine lv_iload_n hx hb dL_law_18 rfl (lv_at hl 0 rfl) ?_
  refine lv_aload_n hx hb dL_law_19 rfl (lv_at hl 3 rfl) ?_
  refine va_slen hx hb hX hbl hbA hS dL_law_20 ?_
  refine lv_tope (y := 6) (by decide) ?_
  refine lv_bipush (v := 6) hx hb dL_law_21 (by decide) ?_
  refine lv_isub hx hb dL_law_23 ?_
  refine lv_tope (y := 0) (by decide) ?_
  refine lv_icmp_gt (tgt := 1284) hx hb dL_law_24 (by decide) (fun _ => ?_) (fun c1002 => absurd (by decide) c1002)
  refine lv_iconst (v := 1) hx hb dL_law_1284 (by decide) ?_
  refine va_forget (fun q hq => hAl _ (hS.2.2 q hq)) ?_
  refine W.widen (k := 600000) (n := 7302250) (by omega) (by omega) ?_
  exact lw_ret hx hb hr hlocks dL_law_1285

set_option maxHeartbeats 40000000 in
set_option maxRecDepth 100000 in
theorem lc_39_2 {p : Program} {l : Launch} {e : Env} {s : State} {m : MethodId} {below : List Frame} {meth : Method} {c : Code} {g : Gx} {b : Nat} {xs : Nat → Int32} {A : Nat → Prop} {H : Heap} {locs : List Loc} {ls : Array Slot} {nc ns : Nat} {q1 : Nat} {q2 : Nat} {q3 : Nat} {q52 : Nat} {q73 : Nat} {q13 : Nat} {q67 : Nat} {q76 : Nat} {q11 : Nat} {q86 : Nat} {q84 : Nat} {q12 : Nat} {q85 : Nat} {f95 : Nat → Option Nat} {q22 : Nat} {q28 : Nat} {q34 : Nat} {q35 : Nat} {q36 : Nat} {q37 : Nat} {q38 : Nat} {q39 : Nat} {f118 : Nat → Int32} {f119 : Nat → Int32} {f120 : Nat → Int32} {f121 : Nat → Int32} {f122 : Nat → Int32} {q68 : Nat} {q69 : Nat} {q70 : Nat} {q71 : Nat} {q72 : Nat} {x151 : Int32} {f152 : Nat → Int32} {f153 : Nat → Int32} {f154 : Nat → Int32} {f155 : Nat → Int32} {f156 : Nat → Int32} {f179 : Nat → Int32} {q188 : Nat} {fs203 : List Value} {q189 : Nat} {q195 : Nat} {q200 : Nat} {q196 : Nat} {q197 : Nat} {q201 : Nat} {q198 : Nat} {q199 : Nat} {q190 : Nat} {q191 : Nat} {q192 : Nat} {q193 : Nat} {q194 : Nat} {q202 : Nat} {f209 : Nat → Int32} {f214 : Nat → Int32} {f217 : Nat → Int32} (hi : xs 1 = 2) (hnc : nc ≤ 1000) (hns : ns ≤ 100000) (hcx : Cx p s m #[Value.ref b] meth c cL_law 4 ret RL meth.name g) (hX : va_X b 6 xs s s.heap) (hbl : b < s.heap.size) (hbA : ¬ A b) (hA : ∀ q : Nat, s.heap.size ≤ q → A q) (hAl : ∀ q : Nat, A q → s.heap.size ≤ q) (hf180 : f95 0 = some q22) (hf181 : f95 1 = some q28) (hf182 : f95 2 = some q34) (hf185 : f179 0 = 0) (hf186 : f179 1 = 0) (hf187 : f179 2 = 0) (hf218 : fs203.length = 69) (hf219 : fs203[0]? = some (Value.ref q189)) (hf220 : fs203[11]? = some (Value.ref q195)) (hf221 : fs203[12]? = some (Value.ref q200)) (hf222 : fs203[13]? = some (Value.ref q196)) (hf223 : fs203[14]? = some (Value.ref q197)) (hf224 : fs203[15]? = some (Value.ref q201)) (hf225 : fs203[16]? = some (Value.ref q198)) (hf226 : fs203[46]? = some (Value.ref q199)) (hf227 : fs203[48]? = some (Value.ref q190)) (hf228 : fs203[51]? = some (Value.ref q191)) (hf229 : fs203[53]? = some (Value.ref q192)) (hf230 : fs203[56]? = some (Value.ref q193)) (hf231 : fs203[67]? = some (Value.ref q194)) (hf232 : fs203[68]? = some (Value.ref q202)) (hf233 : fs203[2]? = some (Value.int 0)) (hf234 : fs203[4]? = some (Value.int 0)) (hf235 : fs203[5]? = some (Value.int (-1))) (hf236 : fs203[34]? = some (Value.int 0)) (hf237 : fs203[49]? = some (Value.int 0)) (hf238 : fs203[50]? = some (Value.int 0)) (hf239 : fs203[54]? = some (Value.int 0)) (hf240 : fs203[65]? = some (Value.int 0)) (hf241 : fs203[66]? = some (Value.int 0)) (hf246 : f214 20 = 0) (hf247 : f214 21 = 0) (hf248 : f214 22 = 0) (hf249 : f214 23 = 0) (hf252 : f217 0 = 0) (hf253 : f217 1 = 0) (hf254 : f217 2 = 0) (hP : va_P g.1 vwCl [(q1, .inr (10, [.ref q2, .int 0, .ref q3, .ref q52, .ref q73, .ref q13, .ref q67, .ref q76, .ref q11, .ref q86, .ref q84, .ref q12, .ref q85, .int 0])), (q11, .inl (gO g, 3, .inr (.inr (.inr (.inr f95))))), (q34, .inr (7, [.ref q35, .ref q36, .ref q37, .ref q38, .ref q39, .int 0, .int 0, .int 0, .int 0, .int 0])), (q35, .inl (gI g, 5, .inl f118)), (q36, .inl (gI g, 5, .inl f119)), (q37, .inl (gI g, 5, .inl f120)), (q38, .inl (gI g, 5, .inl f121)), (q39, .inl (gI g, 5, .inl f122)), (q67, .inr (7, [.ref q68, .ref q69, .ref q70, .ref q71, .ref q72, .int 0, .int 0, .int 0, .int 0, .int x151])), (q68, .inl (gI g, 5, .inl f152)), (q69, .inl (gI g, 5, .inl f153)), (q70, .inl (gI g, 5, .inl f154)), (q71, .inl (gI g, 5, .inl f155)), (q72, .inl (gI g, 5, .inl f156)), (q86, .inl (gZ g, 3, .inl f179)), (q188, .inr (11, fs203)), (q194, .inl (gI g, 72, .inl f209)), (q199, .inl (gI g, 24, .inl f214)), (q202, .inl (gZ g, 3, .inl f217))] H) (hD : va_D A [(q1, .inr (10, [.ref q2, .int 0, .ref q3, .ref q52, .ref q73, .ref q13, .ref q67, .ref q76, .ref q11, .ref q86, .ref q84, .ref q12, .ref q85, .int 0])), (q11, .inl (gO g, 3, .inr (.inr (.inr (.inr f95))))), (q34, .inr (7, [.ref q35, .ref q36, .ref q37, .ref q38, .ref q39, .int 0, .int 0, .int 0, .int 0, .int 0])), (q35, .inl (gI g, 5, .inl f118)), (q36, .inl (gI g, 5, .inl f119)), (q37, .inl (gI g, 5, .inl f120)), (q38, .inl (gI g, 5, .inl f121)), (q39, .inl (gI g, 5, .inl f122)), (q67, .inr (7, [.ref q68, .ref q69, .ref q70, .ref q71, .ref q72, .int 0, .int 0, .int 0, .int 0, .int x151])), (q68, .inl (gI g, 5, .inl f152)), (q69, .inl (gI g, 5, .inl f153)), (q70, .inl (gI g, 5, .inl f154)), (q71, .inl (gI g, 5, .inl f155)), (q72, .inl (gI g, 5, .inl f156)), (q86, .inl (gZ g, 3, .inl f179)), (q188, .inr (11, fs203)), (q194, .inl (gI g, 72, .inl f209)), (q199, .inl (gI g, 24, .inl f214)), (q202, .inl (gZ g, 3, .inl f217))]) (hS : va_S A s.heap H locs) (hl : lv_has ls 4 [(3, .int 0), (2, .ref q188), (1, .ref q1), (0, .ref b)]) : W p l e room_1 s m #[Value.ref b] below meth c H locs nc ns (lw_Z below #[Value.ref b] s) (F0 m 1209 ls []) := by
  obtain ⟨hx, hb, hml, hr, hlocks, hown, hts, hE, hnm⟩ := id hcx
  have hK := hE.1
  refine lv_aload_n hx hb dL_law_1209 rfl (lv_at hl 2 rfl) ?_
  refine lv_aload_n hx hb dL_law_1210 rfl (lv_at hl 3 rfl) ?_
  refine lv_iload_n hx hb dL_law_1211 rfl (lv_at hl 0 rfl) ?_
  refine lv_iconst (v := 1) hx hb dL_law_1212 (by decide) ?_
  refine lv_iadd hx hb dL_law_1213 ?_
  refine lv_tope (y := 1) (by decide) ?_
  refine sc_ld hx hb hX hbl hbA hS 1 rfl (by decide) (by decide) dL_law_1214 ?_
  refine lv_tope (y := 2) hi ?_
  refine kI (wc := [(q1, .inr (10, [.ref q2, .int 0, .ref q3, .ref q52, .ref q73, .ref q13, .ref q67, .ref q76, .ref q11, .ref q86, .ref q84, .ref q12, .ref q85, .int 0])), (q11, .inl (gO g, 3, .inr (.inr (.inr (.inr f95))))), (q34, .inr (7, [.ref q35, .ref q36, .ref q37, .ref q38, .ref q39, .int 0, .int 0, .int 0, .int 0, .int 0])), (q35, .inl (gI g, 5, .inl f118)), (q36, .inl (gI g, 5, .inl f119)), (q37, .inl (gI g, 5, .inl f120)), (q38, .inl (gI g, 5, .inl f121)), (q39, .inl (gI g, 5, .inl f122)), (q67, .inr (7, [.ref q68, .ref q69, .ref q70, .ref q71, .ref q72, .int 0, .int 0, .int 0, .int 0, .int x151])), (q68, .inl (gI g, 5, .inl f152)), (q69, .inl (gI g, 5, .inl f153)), (q70, .inl (gI g, 5, .inl f154)), (q71, .inl (gI g, 5, .inl f155)), (q72, .inl (gI g, 5, .inl f156)), (q86, .inl (gZ g, 3, .inl f179))]) (wr := [(q188, .inr (11, fs203)), (q194, .inl (gI g, 72, .inl f209)), (q199, .inl (gI g, 24, .inl f214)), (q202, .inl (gZ g, 3, .inl f217))]) (rV (As := [.int 2]) (rest := []) (meth2 := "") hcx (c_X10_image_2 (hf182) H.size) (gdV q66_12 q66_13 q66_14 q1_2 q66_15) dvX10_image ⟨Nat.le_of_ble_eq_true rfl, Nat.le_of_ble_eq_true rfl⟩ (hP.sub [0, 1, 2, 3, 4, 5, 6, 7, 8, 9, 10, 11, 12, 13, 14] rfl) (hD.sub [0, 1, 2, 3, 4, 5, 6, 7, 8, 9, 10, 11, 12, 13, 14] (by decide) rfl) (va_recv hK hP (ci := 10) (q0 := 0) rfl rfl) rfl hl.1 rfl (Nat.le_of_ble_eq_true rfl) dL_law_1215 ⟨by show _ + 0 ≤ 600000; omega, by show _ + 0 ≤ 7302250; omega⟩) hP hD hS hA [0, 1, 2, 3, 4, 5, 6, 7, 8, 9, 10, 11, 12, 13, 14] [15, 16, 17, 18] rfl rfl (by decide) (by decide) (fun r W' H locs hw hP hD hS => ?_)
  obtain ⟨rfl, rfl⟩ := hw
  have hP : va_P g.1 vwCl [(q188, .inr (11, fs203)), (q194, .inl (gI g, 72, .inl f209)), (q199, .inl (gI g, 24, .inl f214)), (q202, .inl (gZ g, 3, .inl f217))] H := hP
  have hD : va_D A [(q188, .inr (11, fs203)), (q194, .inl (gI g, 72, .inl f209)), (q199, .inl (gI g, 24, .inl f214)), (q202, .inl (gZ g, 3, .inl f217))] := hD
  refine lv_aload_n hx hb dL_law_1218 rfl (lv_at hl 1 rfl) ?_
  refine lv_aload_n hx hb dL_law_1219 rfl (lv_at hl 3 rfl) ?_
  refine lv_iload_n hx hb dL_law_1220 rfl (lv_at hl 0 rfl) ?_
  refine lv_iconst (v := 1) hx hb dL_law_1221 (by decide) ?_
  refine lv_iadd hx hb dL_law_1222 ?_
  refine lv_tope (y := 1) (by decide) ?_
  refine sc_ld hx hb hX hbl hbA hS 1 rfl (by decide) (by decide) dL_law_1223 ?_
  refine lv_tope (y := 2) hi ?_
  refine kI (wc := [(q188, .inr (11, fs203)), (q199, .inl (gI g, 24, .inl f214)), (q194, .inl (gI g, 72, .inl f209)), (q202, .inl (gZ g, 3, .inl f217))]) (wr := []) (rV (As := [.int 2]) (rest := [.int 0]) (meth2 := "") hcx (c_X11_image_2 (hf218) (hf226) (hf231) (hf232) (hf248) H.size) (gdV q66_17 q66_18 q66_19 q1_5 q66_20) dvX11_image ⟨Nat.le_of_ble_eq_true rfl, Nat.le_of_ble_eq_true rfl⟩ (hP.sub [0, 2, 1, 3] rfl) (hD.sub [0, 2, 1, 3] (by decide) rfl) (va_recv hK hP (ci := 11) (q0 := 0) rfl rfl) rfl hl.1 rfl (Nat.le_of_ble_eq_true rfl) dL_law_1224 ⟨by show _ + 0 ≤ 600000; omega, by show _ + 0 ≤ 7302250; omega⟩) hP hD hS hA [0, 2, 1, 3] [] rfl rfl (by decide) (by decide) (fun r W' H locs hw hP hD hS => ?_)
  obtain ⟨rfl, rfl⟩ := hw
  have hP : va_P g.1 vwCl [] H := hP
  have hD : va_D A [] := hD
  refine lv_icmp_eq (tgt := 1278) hx hb dL_law_1227 (by decide) (fun _ => ?_) (fun c1001 => absurd (by decide) c1001)
  refine lv_iinc (v := 6) (lv' := [(3, .int 6), (2, .ref q188), (1, .ref q1), (0, .ref b)]) hx hb dL_law_1278 hl (k := 0) rfl (by decide) (by decide) rfl (fun ls hl => ?_)
  refine lv_goto (tgt := 18) hx hb dL_law_1281 (by decide) ?_
  refine lv_iload_n hx hb dL_law_18 rfl (lv_at hl 0 rfl) ?_
  refine lv_aload_n hx hb dL_law_19 rfl (lv_at hl 3 rfl) ?_
  refine va_slen hx hb hX hbl hbA hS dL_law_20 ?_
  refine lv_tope (y := 6) (by decide) ?_
  refine lv_bipush (v := 6) hx hb dL_law_21 (by decide) ?_
  refine lv_isub hx hb dL_law_23 ?_
  refine lv_tope (y := 0) (by decide) ?_
  refine lv_icmp_gt (tgt := 1284) hx hb dL_law_24 (by decide) (fun _ => ?_) (fun c1002 => absurd (by decide) c1002)
  refine lv_iconst (v := 1) hx hb dL_law_1284 (by decide) ?_
  refine va_forget (fun q hq => hAl _ (hS.2.2 q hq)) ?_
  refine W.widen (k := 600000) (n := 7302250) (by omega) (by omega) ?_
  exact lw_ret hx hb hr hlocks dL_law_1285

set_option maxHeartbeats 40000000 in
set_option maxRecDepth 100000 in
theorem lc_39_out {p : Program} {l : Launch} {e : Env} {s : State} {m : MethodId} {below : List Frame} {meth : Method} {c : Code} {g : Gx} {b : Nat} {xs : Nat → Int32} {A : Nat → Prop} {H : Heap} {locs : List Loc} {ls : Array Slot} {nc ns : Nat} {q1 : Nat} {q2 : Nat} {q3 : Nat} {q52 : Nat} {q73 : Nat} {q13 : Nat} {q67 : Nat} {q76 : Nat} {q11 : Nat} {q86 : Nat} {q84 : Nat} {q12 : Nat} {q85 : Nat} {q188 : Nat} {fs203 : List Value} {q189 : Nat} {q195 : Nat} {q200 : Nat} {q196 : Nat} {q197 : Nat} {q201 : Nat} {q198 : Nat} {q199 : Nat} {q190 : Nat} {q191 : Nat} {q192 : Nat} {q193 : Nat} {q194 : Nat} {q202 : Nat} (ho : ¬ xs 1 = 0 ∧ ¬ xs 1 = 1 ∧ ¬ xs 1 = 2) (hnc : nc ≤ 1000) (hns : ns ≤ 100000) (hcx : Cx p s m #[Value.ref b] meth c cL_law 4 ret RL meth.name g) (hX : va_X b 6 xs s s.heap) (hbl : b < s.heap.size) (hbA : ¬ A b) (hA : ∀ q : Nat, s.heap.size ≤ q → A q) (hAl : ∀ q : Nat, A q → s.heap.size ≤ q) (hf218 : fs203.length = 69) (hf219 : fs203[0]? = some (Value.ref q189)) (hf220 : fs203[11]? = some (Value.ref q195)) (hf221 : fs203[12]? = some (Value.ref q200)) (hf222 : fs203[13]? = some (Value.ref q196)) (hf223 : fs203[14]? = some (Value.ref q197)) (hf224 : fs203[15]? = some (Value.ref q201)) (hf225 : fs203[16]? = some (Value.ref q198)) (hf226 : fs203[46]? = some (Value.ref q199)) (hf227 : fs203[48]? = some (Value.ref q190)) (hf228 : fs203[51]? = some (Value.ref q191)) (hf229 : fs203[53]? = some (Value.ref q192)) (hf230 : fs203[56]? = some (Value.ref q193)) (hf231 : fs203[67]? = some (Value.ref q194)) (hf232 : fs203[68]? = some (Value.ref q202)) (hf233 : fs203[2]? = some (Value.int 0)) (hf234 : fs203[4]? = some (Value.int 0)) (hf235 : fs203[5]? = some (Value.int (-1))) (hf236 : fs203[34]? = some (Value.int 0)) (hf237 : fs203[49]? = some (Value.int 0)) (hf238 : fs203[50]? = some (Value.int 0)) (hf239 : fs203[54]? = some (Value.int 0)) (hf240 : fs203[65]? = some (Value.int 0)) (hf241 : fs203[66]? = some (Value.int 0)) (hP : va_P g.1 vwCl [(q1, .inr (10, [.ref q2, .int 0, .ref q3, .ref q52, .ref q73, .ref q13, .ref q67, .ref q76, .ref q11, .ref q86, .ref q84, .ref q12, .ref q85, .int 0])), (q188, .inr (11, fs203))] H) (hD : va_D A [(q1, .inr (10, [.ref q2, .int 0, .ref q3, .ref q52, .ref q73, .ref q13, .ref q67, .ref q76, .ref q11, .ref q86, .ref q84, .ref q12, .ref q85, .int 0])), (q188, .inr (11, fs203))]) (hS : va_S A s.heap H locs) (hl : lv_has ls 4 [(3, .int 0), (2, .ref q188), (1, .ref q1), (0, .ref b)]) : W p l e room_1 s m #[Value.ref b] below meth c H locs nc ns (lw_Z below #[Value.ref b] s) (F0 m 1209 ls []) := by
  obtain ⟨hx, hb, hml, hr, hlocks, hown, hts, hE, hnm⟩ := id hcx
  have hK := hE.1
  refine lv_aload_n hx hb dL_law_1209 rfl (lv_at hl 2 rfl) ?_
  refine lv_aload_n hx hb dL_law_1210 rfl (lv_at hl 3 rfl) ?_
  refine lv_iload_n hx hb dL_law_1211 rfl (lv_at hl 0 rfl) ?_
  refine lv_iconst (v := 1) hx hb dL_law_1212 (by decide) ?_
  refine lv_iadd hx hb dL_law_1213 ?_
  refine lv_tope (y := 1) (by decide) ?_
  refine sc_ld hx hb hX hbl hbA hS 1 rfl (by decide) (by decide) dL_law_1214 ?_
  refine kI (wc := [(q1, .inr (10, [.ref q2, .int 0, .ref q3, .ref q52, .ref q73, .ref q13, .ref q67, .ref q76, .ref q11, .ref q86, .ref q84, .ref q12, .ref q85, .int 0]))]) (wr := [(q188, .inr (11, fs203))]) (rV (As := [.int (xs 1)]) (rest := []) (meth2 := "") hcx (c_X10_image_out (by assumption) H.size) (gdV q66_12 q66_13 q66_14 q1_2 q66_15) dvX10_image ⟨Nat.le_of_ble_eq_true rfl, Nat.le_of_ble_eq_true rfl⟩ (hP.sub [0] rfl) (hD.sub [0] (by decide) rfl) (va_recv hK hP (ci := 10) (q0 := 0) rfl rfl) rfl hl.1 rfl (Nat.le_of_ble_eq_true rfl) dL_law_1215 ⟨by show _ + 0 ≤ 600000; omega, by show _ + 0 ≤ 7302250; omega⟩) hP hD hS hA [0] [1] rfl rfl (by decide) (by decide) (fun r W' H locs hw hP hD hS => ?_)
  obtain ⟨rfl, rfl⟩ := hw
  have hP : va_P g.1 vwCl [(q188, .inr (11, fs203))] H := hP
  have hD : va_D A [(q188, .inr (11, fs203))] := hD
  refine lv_aload_n hx hb dL_law_1218 rfl (lv_at hl 1 rfl) ?_
  refine lv_aload_n hx hb dL_law_1219 rfl (lv_at hl 3 rfl) ?_
  refine lv_iload_n hx hb dL_law_1220 rfl (lv_at hl 0 rfl) ?_
  refine lv_iconst (v := 1) hx hb dL_law_1221 (by decide) ?_
  refine lv_iadd hx hb dL_law_1222 ?_
  refine lv_tope (y := 1) (by decide) ?_
  refine sc_ld hx hb hX hbl hbA hS 1 rfl (by decide) (by decide) dL_law_1223 ?_
  refine kI (wc := [(q188, .inr (11, fs203))]) (wr := []) (rV (As := [.int (xs 1)]) (rest := [.int (-1)]) (meth2 := "") hcx (c_X11_image_out (hf218) (by assumption) H.size) (gdV q66_17 q66_18 q66_19 q1_5 q66_20) dvX11_image ⟨Nat.le_of_ble_eq_true rfl, Nat.le_of_ble_eq_true rfl⟩ (hP.sub [0] rfl) (hD.sub [0] (by decide) rfl) (va_recv hK hP (ci := 11) (q0 := 0) rfl rfl) rfl hl.1 rfl (Nat.le_of_ble_eq_true rfl) dL_law_1224 ⟨by show _ + 0 ≤ 600000; omega, by show _ + 0 ≤ 7302250; omega⟩) hP hD hS hA [0] [] rfl rfl (by decide) (by decide) (fun r W' H locs hw hP hD hS => ?_)
  obtain ⟨rfl, rfl⟩ := hw
  have hP : va_P g.1 vwCl [] H := hP
  have hD : va_D A [] := hD
  refine lv_icmp_eq (tgt := 1278) hx hb dL_law_1227 (by decide) (fun _ => ?_) (fun c1001 => absurd (by decide) c1001)
  refine lv_iinc (v := 6) (lv' := [(3, .int 6), (2, .ref q188), (1, .ref q1), (0, .ref b)]) hx hb dL_law_1278 hl (k := 0) rfl (by decide) (by decide) rfl (fun ls hl => ?_)
  refine lv_goto (tgt := 18) hx hb dL_law_1281 (by decide) ?_
  refine lv_iload_n hx hb dL_law_18 rfl (lv_at hl 0 rfl) ?_
  refine lv_aload_n hx hb dL_law_19 rfl (lv_at hl 3 rfl) ?_
  refine va_slen hx hb hX hbl hbA hS dL_law_20 ?_
  refine lv_tope (y := 6) (by decide) ?_
  refine lv_bipush (v := 6) hx hb dL_law_21 (by decide) ?_
  refine lv_isub hx hb dL_law_23 ?_
  refine lv_tope (y := 0) (by decide) ?_
  refine lv_icmp_gt (tgt := 1284) hx hb dL_law_24 (by decide) (fun _ => ?_) (fun c1002 => absurd (by decide) c1002)
  refine lv_iconst (v := 1) hx hb dL_law_1284 (by decide) ?_
  refine va_forget (fun q hq => hAl _ (hS.2.2 q hq)) ?_
  refine W.widen (k := 600000) (n := 7302250) (by omega) (by omega) ?_
  exact lw_ret hx hb hr hlocks dL_law_1285

set_option maxHeartbeats 40000000 in
set_option maxRecDepth 100000 in
theorem lc_40_0 {p : Program} {l : Launch} {e : Env} {s : State} {m : MethodId} {below : List Frame} {meth : Method} {c : Code} {g : Gx} {b : Nat} {xs : Nat → Int32} {A : Nat → Prop} {H : Heap} {locs : List Loc} {ls : Array Slot} {nc ns : Nat} {q1 : Nat} {q2 : Nat} {q3 : Nat} {q52 : Nat} {q73 : Nat} {q13 : Nat} {q67 : Nat} {q76 : Nat} {q11 : Nat} {q86 : Nat} {q84 : Nat} {q12 : Nat} {q85 : Nat} {f179 : Nat → Int32} {q188 : Nat} {fs203 : List Value} {q189 : Nat} {q195 : Nat} {q200 : Nat} {q196 : Nat} {q197 : Nat} {q201 : Nat} {q198 : Nat} {q199 : Nat} {q190 : Nat} {q191 : Nat} {q192 : Nat} {q193 : Nat} {q194 : Nat} {q202 : Nat} {f217 : Nat → Int32} (hi : xs 1 = 0) (hnc : nc ≤ 1000) (hns : ns ≤ 100000) (hcx : Cx p s m #[Value.ref b] meth c cL_law 4 ret RL meth.name g) (hX : va_X b 6 xs s s.heap) (hbl : b < s.heap.size) (hbA : ¬ A b) (hA : ∀ q : Nat, s.heap.size ≤ q → A q) (hAl : ∀ q : Nat, A q → s.heap.size ≤ q) (hf185 : f179 0 = 0) (hf186 : f179 1 = 0) (hf187 : f179 2 = 0) (hf218 : fs203.length = 69) (hf219 : fs203[0]? = some (Value.ref q189)) (hf220 : fs203[11]? = some (Value.ref q195)) (hf221 : fs203[12]? = some (Value.ref q200)) (hf222 : fs203[13]? = some (Value.ref q196)) (hf223 : fs203[14]? = some (Value.ref q197)) (hf224 : fs203[15]? = some (Value.ref q201)) (hf225 : fs203[16]? = some (Value.ref q198)) (hf226 : fs203[46]? = some (Value.ref q199)) (hf227 : fs203[48]? = some (Value.ref q190)) (hf228 : fs203[51]? = some (Value.ref q191)) (hf229 : fs203[53]? = some (Value.ref q192)) (hf230 : fs203[56]? = some (Value.ref q193)) (hf231 : fs203[67]? = some (Value.ref q194)) (hf232 : fs203[68]? = some (Value.ref q202)) (hf233 : fs203[2]? = some (Value.int 0)) (hf234 : fs203[4]? = some (Value.int 0)) (hf235 : fs203[5]? = some (Value.int (-1))) (hf236 : fs203[34]? = some (Value.int 0)) (hf237 : fs203[49]? = some (Value.int 0)) (hf238 : fs203[50]? = some (Value.int 0)) (hf239 : fs203[54]? = some (Value.int 0)) (hf240 : fs203[65]? = some (Value.int 0)) (hf241 : fs203[66]? = some (Value.int 0)) (hf252 : f217 0 = 0) (hf253 : f217 1 = 0) (hf254 : f217 2 = 0) (hP : va_P g.1 vwCl [(q1, .inr (10, [.ref q2, .int 0, .ref q3, .ref q52, .ref q73, .ref q13, .ref q67, .ref q76, .ref q11, .ref q86, .ref q84, .ref q12, .ref q85, .int 0])), (q86, .inl (gZ g, 3, .inl f179)), (q188, .inr (11, fs203)), (q202, .inl (gZ g, 3, .inl f217))] H) (hD : va_D A [(q1, .inr (10, [.ref q2, .int 0, .ref q3, .ref q52, .ref q73, .ref q13, .ref q67, .ref q76, .ref q11, .ref q86, .ref q84, .ref q12, .ref q85, .int 0])), (q86, .inl (gZ g, 3, .inl f179)), (q188, .inr (11, fs203)), (q202, .inl (gZ g, 3, .inl f217))]) (hS : va_S A s.heap H locs) (hl : lv_has ls 4 [(3, .int 0), (2, .ref q188), (1, .ref q1), (0, .ref b)]) : W p l e room_1 s m #[Value.ref b] below meth c H locs nc ns (lw_Z below #[Value.ref b] s) (F0 m 1232 ls []) := by
  obtain ⟨hx, hb, hml, hr, hlocks, hown, hts, hE, hnm⟩ := id hcx
  have hK := hE.1
  refine lv_aload_n hx hb dL_law_1232 rfl (lv_at hl 2 rfl) ?_
  refine lv_aload_n hx hb dL_law_1233 rfl (lv_at hl 3 rfl) ?_
  refine lv_iload_n hx hb dL_law_1234 rfl (lv_at hl 0 rfl) ?_
  refine lv_iconst (v := 1) hx hb dL_law_1235 (by decide) ?_
  refine lv_iadd hx hb dL_law_1236 ?_
  refine lv_tope (y := 1) (by decide) ?_
  refine sc_ld hx hb hX hbl hbA hS 1 rfl (by decide) (by decide) dL_law_1237 ?_
  refine lv_tope (y := 0) hi ?_
  refine kI (wc := [(q1, .inr (10, [.ref q2, .int 0, .ref q3, .ref q52, .ref q73, .ref q13, .ref q67, .ref q76, .ref q11, .ref q86, .ref q84, .ref q12, .ref q85, .int 0])), (q86, .inl (gZ g, 3, .inl f179))]) (wr := [(q188, .inr (11, fs203)), (q202, .inl (gZ g, 3, .inl f217))]) (rV (As := [.int 0]) (rest := []) (meth2 := "") hcx (c_X10_back_0 (hf185) H.size) (gdV q66_21 q66_22 q66_23 q1_2 q67_0) dvX10_back ⟨Nat.le_of_ble_eq_true rfl, Nat.le_of_ble_eq_true rfl⟩ (hP.sub [0, 1] rfl) (hD.sub [0, 1] (by decide) rfl) (va_recv hK hP (ci := 10) (q0 := 0) rfl rfl) rfl hl.1 rfl (Nat.le_of_ble_eq_true rfl) dL_law_1238 ⟨by show _ + 0 ≤ 600000; omega, by show _ + 0 ≤ 7302250; omega⟩) hP hD hS hA [0, 1] [2, 3] rfl rfl (by decide) (by decide) (fun r W' H locs hw hP hD hS => ?_)
  obtain ⟨rfl, rfl⟩ := hw
  have hP : va_P g.1 vwCl [(q188, .inr (11, fs203)), (q202, .inl (gZ g, 3, .inl f217))] H := hP
  have hD : va_D A [(q188, .inr (11, fs203)), (q202, .inl (gZ g, 3, .inl f217))] := hD
  refine lv_aload_n hx hb dL_law_1241 rfl (lv_at hl 1 rfl) ?_
  refine lv_aload_n hx hb dL_law_1242 rfl (lv_at hl 3 rfl) ?_
  refine lv_iload_n hx hb dL_law_1243 rfl (lv_at hl 0 rfl) ?_
  refine lv_iconst (v := 1) hx hb dL_law_1244 (by decide) ?_
  refine lv_iadd hx hb dL_law_1245 ?_
  refine lv_tope (y := 1) (by decide) ?_
  refine sc_ld hx hb hX hbl hbA hS 1 rfl (by decide) (by decide) dL_law_1246 ?_
  refine lv_tope (y := 0) hi ?_
  refine kI (wc := [(q188, .inr (11, fs203)), (q202, .inl (gZ g, 3, .inl f217))]) (wr := []) (rV (As := [.int 0]) (rest := [.int (-1)]) (meth2 := "") hcx (c_X11_back_0 (hf218) (hf232) (hf252) H.size) (gdV q67_1 q67_2 q67_3 q1_5 q67_4) dvX11_back ⟨Nat.le_of_ble_eq_true rfl, Nat.le_of_ble_eq_true rfl⟩ (hP.sub [0, 1] rfl) (hD.sub [0, 1] (by decide) rfl) (va_recv hK hP (ci := 11) (q0 := 0) rfl rfl) rfl hl.1 rfl (Nat.le_of_ble_eq_true rfl) dL_law_1247 ⟨by show _ + 0 ≤ 600000; omega, by show _ + 0 ≤ 7302250; omega⟩) hP hD hS hA [0, 1] [] rfl rfl (by decide) (by decide) (fun r W' H locs hw hP hD hS => ?_)
  obtain ⟨rfl, rfl⟩ := hw
  have hP : va_P g.1 vwCl [] H := hP
  have hD : va_D A [] := hD
  refine lv_icmp_eq (tgt := 1278) hx hb dL_law_1250 (by decide) (fun _ => ?_) (fun c1001 => absurd (by decide) c1001)
  refine lv_iinc (v := 6) (lv' := [(3, .int 6), (2, .ref q188), (1, .ref q1), (0, .ref b)]) hx hb dL_law_1278 hl (k := 0) rfl (by decide) (by decide) rfl (fun ls hl => ?_)
  refine lv_goto (tgt := 18) hx hb dL_law_1281 (by decide) ?_
  refine lv_iload_n hx hb dL_law_18 rfl (lv_at hl 0 rfl) ?_
  refine lv_aload_n hx hb dL_law_19 rfl (lv_at hl 3 rfl) ?_
  refine va_slen hx hb hX hbl hbA hS dL_law_20 ?_
  refine lv_tope (y := 6) (by decide) ?_
  refine lv_bipush (v := 6) hx hb dL_law_21 (by decide) ?_
  refine lv_isub hx hb dL_law_23 ?_
  refine lv_tope (y := 0) (by decide) ?_
  refine lv_icmp_gt (tgt := 1284) hx hb dL_law_24 (by decide) (fun _ => ?_) (fun c1002 => absurd (by decide) c1002)
  refine lv_iconst (v := 1) hx hb dL_law_1284 (by decide) ?_
  refine va_forget (fun q hq => hAl _ (hS.2.2 q hq)) ?_
  refine W.widen (k := 600000) (n := 7302250) (by omega) (by omega) ?_
  exact lw_ret hx hb hr hlocks dL_law_1285

set_option maxHeartbeats 40000000 in
set_option maxRecDepth 100000 in
theorem lc_40_1 {p : Program} {l : Launch} {e : Env} {s : State} {m : MethodId} {below : List Frame} {meth : Method} {c : Code} {g : Gx} {b : Nat} {xs : Nat → Int32} {A : Nat → Prop} {H : Heap} {locs : List Loc} {ls : Array Slot} {nc ns : Nat} {q1 : Nat} {q2 : Nat} {q3 : Nat} {q52 : Nat} {q73 : Nat} {q13 : Nat} {q67 : Nat} {q76 : Nat} {q11 : Nat} {q86 : Nat} {q84 : Nat} {q12 : Nat} {q85 : Nat} {f179 : Nat → Int32} {q188 : Nat} {fs203 : List Value} {q189 : Nat} {q195 : Nat} {q200 : Nat} {q196 : Nat} {q197 : Nat} {q201 : Nat} {q198 : Nat} {q199 : Nat} {q190 : Nat} {q191 : Nat} {q192 : Nat} {q193 : Nat} {q194 : Nat} {q202 : Nat} {f217 : Nat → Int32} (hi : xs 1 = 1) (hnc : nc ≤ 1000) (hns : ns ≤ 100000) (hcx : Cx p s m #[Value.ref b] meth c cL_law 4 ret RL meth.name g) (hX : va_X b 6 xs s s.heap) (hbl : b < s.heap.size) (hbA : ¬ A b) (hA : ∀ q : Nat, s.heap.size ≤ q → A q) (hAl : ∀ q : Nat, A q → s.heap.size ≤ q) (hf185 : f179 0 = 0) (hf186 : f179 1 = 0) (hf187 : f179 2 = 0) (hf218 : fs203.length = 69) (hf219 : fs203[0]? = some (Value.ref q189)) (hf220 : fs203[11]? = some (Value.ref q195)) (hf221 : fs203[12]? = some (Value.ref q200)) (hf222 : fs203[13]? = some (Value.ref q196)) (hf223 : fs203[14]? = some (Value.ref q197)) (hf224 : fs203[15]? = some (Value.ref q201)) (hf225 : fs203[16]? = some (Value.ref q198)) (hf226 : fs203[46]? = some (Value.ref q199)) (hf227 : fs203[48]? = some (Value.ref q190)) (hf228 : fs203[51]? = some (Value.ref q191)) (hf229 : fs203[53]? = some (Value.ref q192)) (hf230 : fs203[56]? = some (Value.ref q193)) (hf231 : fs203[67]? = some (Value.ref q194)) (hf232 : fs203[68]? = some (Value.ref q202)) (hf233 : fs203[2]? = some (Value.int 0)) (hf234 : fs203[4]? = some (Value.int 0)) (hf235 : fs203[5]? = some (Value.int (-1))) (hf236 : fs203[34]? = some (Value.int 0)) (hf237 : fs203[49]? = some (Value.int 0)) (hf238 : fs203[50]? = some (Value.int 0)) (hf239 : fs203[54]? = some (Value.int 0)) (hf240 : fs203[65]? = some (Value.int 0)) (hf241 : fs203[66]? = some (Value.int 0)) (hf252 : f217 0 = 0) (hf253 : f217 1 = 0) (hf254 : f217 2 = 0) (hP : va_P g.1 vwCl [(q1, .inr (10, [.ref q2, .int 0, .ref q3, .ref q52, .ref q73, .ref q13, .ref q67, .ref q76, .ref q11, .ref q86, .ref q84, .ref q12, .ref q85, .int 0])), (q86, .inl (gZ g, 3, .inl f179)), (q188, .inr (11, fs203)), (q202, .inl (gZ g, 3, .inl f217))] H) (hD : va_D A [(q1, .inr (10, [.ref q2, .int 0, .ref q3, .ref q52, .ref q73, .ref q13, .ref q67, .ref q76, .ref q11, .ref q86, .ref q84, .ref q12, .ref q85, .int 0])), (q86, .inl (gZ g, 3, .inl f179)), (q188, .inr (11, fs203)), (q202, .inl (gZ g, 3, .inl f217))]) (hS : va_S A s.heap H locs) (hl : lv_has ls 4 [(3, .int 0), (2, .ref q188), (1, .ref q1), (0, .ref b)]) : W p l e room_1 s m #[Value.ref b] below meth c H locs nc ns (lw_Z below #[Value.ref b] s) (F0 m 1232 ls []) := by
  obtain ⟨hx, hb, hml, hr, hlocks, hown, hts, hE, hnm⟩ := id hcx
  have hK := hE.1
  refine lv_aload_n hx hb dL_law_1232 rfl (lv_at hl 2 rfl) ?_
  refine lv_aload_n hx hb dL_law_1233 rfl (lv_at hl 3 rfl) ?_
  refine lv_iload_n hx hb dL_law_1234 rfl (lv_at hl 0 rfl) ?_
  refine lv_iconst (v := 1) hx hb dL_law_1235 (by decide) ?_
  refine lv_iadd hx hb dL_law_1236 ?_
  refine lv_tope (y := 1) (by decide) ?_
  refine sc_ld hx hb hX hbl hbA hS 1 rfl (by decide) (by decide) dL_law_1237 ?_
  refine lv_tope (y := 1) hi ?_
  refine kI (wc := [(q1, .inr (10, [.ref q2, .int 0, .ref q3, .ref q52, .ref q73, .ref q13, .ref q67, .ref q76, .ref q11, .ref q86, .ref q84, .ref q12, .ref q85, .int 0])), (q86, .inl (gZ g, 3, .inl f179))]) (wr := [(q188, .inr (11, fs203)), (q202, .inl (gZ g, 3, .inl f217))]) (rV (As := [.int 1]) (rest := []) (meth2 := "") hcx (c_X10_back_1 (hf186) H.size) (gdV q66_21 q66_22 q66_23 q1_2 q67_0) dvX10_back ⟨Nat.le_of_ble_eq_true rfl, Nat.le_of_ble_eq_true rfl⟩ (hP.sub [0, 1] rfl) (hD.sub [0, 1] (by decide) rfl) (va_recv hK hP (ci := 10) (q0 := 0) rfl rfl) rfl hl.1 rfl (Nat.le_of_ble_eq_true rfl) dL_law_1238 ⟨by show _ + 0 ≤ 600000; omega, by show _ + 0 ≤ 7302250; omega⟩) hP hD hS hA [0, 1] [2, 3] rfl rfl (by decide) (by decide) (fun r W' H locs hw hP hD hS => ?_)
  obtain ⟨rfl, rfl⟩ := hw
  have hP : va_P g.1 vwCl [(q188, .inr (11, fs203)), (q202, .inl (gZ g, 3, .inl f217))] H := hP
  have hD : va_D A [(q188, .inr (11, fs203)), (q202, .inl (gZ g, 3, .inl f217))] := hD
  refine lv_aload_n hx hb dL_law_1241 rfl (lv_at hl 1 rfl) ?_
  refine lv_aload_n hx hb dL_law_1242 rfl (lv_at hl 3 rfl) ?_
  refine lv_iload_n hx hb dL_law_1243 rfl (lv_at hl 0 rfl) ?_
  refine lv_iconst (v := 1) hx hb dL_law_1244 (by decide) ?_
  refine lv_iadd hx hb dL_law_1245 ?_
  refine lv_tope (y := 1) (by decide) ?_
  refine sc_ld hx hb hX hbl hbA hS 1 rfl (by decide) (by decide) dL_law_1246 ?_
  refine lv_tope (y := 1) hi ?_
  refine kI (wc := [(q188, .inr (11, fs203)), (q202, .inl (gZ g, 3, .inl f217))]) (wr := []) (rV (As := [.int 1]) (rest := [.int (-1)]) (meth2 := "") hcx (c_X11_back_1 (hf218) (hf232) (hf253) H.size) (gdV q67_1 q67_2 q67_3 q1_5 q67_4) dvX11_back ⟨Nat.le_of_ble_eq_true rfl, Nat.le_of_ble_eq_true rfl⟩ (hP.sub [0, 1] rfl) (hD.sub [0, 1] (by decide) rfl) (va_recv hK hP (ci := 11) (q0 := 0) rfl rfl) rfl hl.1 rfl (Nat.le_of_ble_eq_true rfl) dL_law_1247 ⟨by show _ + 0 ≤ 600000; omega, by show _ + 0 ≤ 7302250; omega⟩) hP hD hS hA [0, 1] [] rfl rfl (by decide) (by decide) (fun r W' H locs hw hP hD hS => ?_)
  obtain ⟨rfl, rfl⟩ := hw
  have hP : va_P g.1 vwCl [] H := hP
  have hD : va_D A [] := hD
  refine lv_icmp_eq (tgt := 1278) hx hb dL_law_1250 (by decide) (fun _ => ?_) (fun c1001 => absurd (by decide) c1001)
  refine lv_iinc (v := 6) (lv' := [(3, .int 6), (2, .ref q188), (1, .ref q1), (0, .ref b)]) hx hb dL_law_1278 hl (k := 0) rfl (by decide) (by decide) rfl (fun ls hl => ?_)
  refine lv_goto (tgt := 18) hx hb dL_law_1281 (by decide) ?_
  refine lv_iload_n hx hb dL_law_18 rfl (lv_at hl 0 rfl) ?_
  refine lv_aload_n hx hb dL_law_19 rfl (lv_at hl 3 rfl) ?_
  refine va_slen hx hb hX hbl hbA hS dL_law_20 ?_
  refine lv_tope (y := 6) (by decide) ?_
  refine lv_bipush (v := 6) hx hb dL_law_21 (by decide) ?_
  refine lv_isub hx hb dL_law_23 ?_
  refine lv_tope (y := 0) (by decide) ?_
  refine lv_icmp_gt (tgt := 1284) hx hb dL_law_24 (by decide) (fun _ => ?_) (fun c1002 => absurd (by decide) c1002)
  refine lv_iconst (v := 1) hx hb dL_law_1284 (by decide) ?_
  refine va_forget (fun q hq => hAl _ (hS.2.2 q hq)) ?_
  refine W.widen (k := 600000) (n := 7302250) (by omega) (by omega) ?_
  exact lw_ret hx hb hr hlocks dL_law_1285

set_option maxHeartbeats 40000000 in
set_option maxRecDepth 100000 in
theorem lc_40_2 {p : Program} {l : Launch} {e : Env} {s : State} {m : MethodId} {below : List Frame} {meth : Method} {c : Code} {g : Gx} {b : Nat} {xs : Nat → Int32} {A : Nat → Prop} {H : Heap} {locs : List Loc} {ls : Array Slot} {nc ns : Nat} {q1 : Nat} {q2 : Nat} {q3 : Nat} {q52 : Nat} {q73 : Nat} {q13 : Nat} {q67 : Nat} {q76 : Nat} {q11 : Nat} {q86 : Nat} {q84 : Nat} {q12 : Nat} {q85 : Nat} {f179 : Nat → Int32} {q188 : Nat} {fs203 : List Value} {q189 : Nat} {q195 : Nat} {q200 : Nat} {q196 : Nat} {q197 : Nat} {q201 : Nat} {q198 : Nat} {q199 : Nat} {q190 : Nat} {q191 : Nat} {q192 : Nat} {q193 : Nat} {q194 : Nat} {q202 : Nat} {f217 : Nat → Int32} (hi : xs 1 = 2) (hnc : nc ≤ 1000) (hns : ns ≤ 100000) (hcx : Cx p s m #[Value.ref b] meth c cL_law 4 ret RL meth.name g) (hX : va_X b 6 xs s s.heap) (hbl : b < s.heap.size) (hbA : ¬ A b) (hA : ∀ q : Nat, s.heap.size ≤ q → A q) (hAl : ∀ q : Nat, A q → s.heap.size ≤ q) (hf185 : f179 0 = 0) (hf186 : f179 1 = 0) (hf187 : f179 2 = 0) (hf218 : fs203.length = 69) (hf219 : fs203[0]? = some (Value.ref q189)) (hf220 : fs203[11]? = some (Value.ref q195)) (hf221 : fs203[12]? = some (Value.ref q200)) (hf222 : fs203[13]? = some (Value.ref q196)) (hf223 : fs203[14]? = some (Value.ref q197)) (hf224 : fs203[15]? = some (Value.ref q201)) (hf225 : fs203[16]? = some (Value.ref q198)) (hf226 : fs203[46]? = some (Value.ref q199)) (hf227 : fs203[48]? = some (Value.ref q190)) (hf228 : fs203[51]? = some (Value.ref q191)) (hf229 : fs203[53]? = some (Value.ref q192)) (hf230 : fs203[56]? = some (Value.ref q193)) (hf231 : fs203[67]? = some (Value.ref q194)) (hf232 : fs203[68]? = some (Value.ref q202)) (hf233 : fs203[2]? = some (Value.int 0)) (hf234 : fs203[4]? = some (Value.int 0)) (hf235 : fs203[5]? = some (Value.int (-1))) (hf236 : fs203[34]? = some (Value.int 0)) (hf237 : fs203[49]? = some (Value.int 0)) (hf238 : fs203[50]? = some (Value.int 0)) (hf239 : fs203[54]? = some (Value.int 0)) (hf240 : fs203[65]? = some (Value.int 0)) (hf241 : fs203[66]? = some (Value.int 0)) (hf252 : f217 0 = 0) (hf253 : f217 1 = 0) (hf254 : f217 2 = 0) (hP : va_P g.1 vwCl [(q1, .inr (10, [.ref q2, .int 0, .ref q3, .ref q52, .ref q73, .ref q13, .ref q67, .ref q76, .ref q11, .ref q86, .ref q84, .ref q12, .ref q85, .int 0])), (q86, .inl (gZ g, 3, .inl f179)), (q188, .inr (11, fs203)), (q202, .inl (gZ g, 3, .inl f217))] H) (hD : va_D A [(q1, .inr (10, [.ref q2, .int 0, .ref q3, .ref q52, .ref q73, .ref q13, .ref q67, .ref q76, .ref q11, .ref q86, .ref q84, .ref q12, .ref q85, .int 0])), (q86, .inl (gZ g, 3, .inl f179)), (q188, .inr (11, fs203)), (q202, .inl (gZ g, 3, .inl f217))]) (hS : va_S A s.heap H locs) (hl : lv_has ls 4 [(3, .int 0), (2, .ref q188), (1, .ref q1), (0, .ref b)]) : W p l e room_1 s m #[Value.ref b] below meth c H locs nc ns (lw_Z below #[Value.ref b] s) (F0 m 1232 ls []) := by
  obtain ⟨hx, hb, hml, hr, hlocks, hown, hts, hE, hnm⟩ := id hcx
  have hK := hE.1
  refine lv_aload_n hx hb dL_law_1232 rfl (lv_at hl 2 rfl) ?_
  refine lv_aload_n hx hb dL_law_1233 rfl (lv_at hl 3 rfl) ?_
  refine lv_iload_n hx hb dL_law_1234 rfl (lv_at hl 0 rfl) ?_
  refine lv_iconst (v := 1) hx hb dL_law_1235 (by decide) ?_
  refine lv_iadd hx hb dL_law_1236 ?_
  refine lv_tope (y := 1) (by decide) ?_
  refine sc_ld hx hb hX hbl hbA hS 1 rfl (by decide) (by decide) dL_law_1237 ?_
  refine lv_tope (y := 2) hi ?_
  refine kI (wc := [(q1, .inr (10, [.ref q2, .int 0, .ref q3, .ref q52, .ref q73, .ref q13, .ref q67, .ref q76, .ref q11, .ref q86, .ref q84, .ref q12, .ref q85, .int 0])), (q86, .inl (gZ g, 3, .inl f179))]) (wr := [(q188, .inr (11, fs203)), (q202, .inl (gZ g, 3, .inl f217))]) (rV (As := [.int 2]) (rest := []) (meth2 := "") hcx (c_X10_back_2 (hf187) H.size) (gdV q66_21 q66_22 q66_23 q1_2 q67_0) dvX10_back ⟨Nat.le_of_ble_eq_true rfl, Nat.le_of_ble_eq_true rfl⟩ (hP.sub [0, 1] rfl) (hD.sub [0, 1] (by decide) rfl) (va_recv hK hP (ci := 10) (q0 := 0) rfl rfl) rfl hl.1 rfl (Nat.le_of_ble_eq_true rfl) dL_law_1238 ⟨by show _ + 0 ≤ 600000; omega, by show _ + 0 ≤ 7302250; omega⟩) hP hD hS hA [0, 1] [2, 3] rfl rfl (by decide) (by decide) (fun r W' H locs hw hP hD hS => ?_)
  obtain ⟨rfl, rfl⟩ := hw
  have hP : va_P g.1 vwCl [(q188, .inr (11, fs203)), (q202, .inl (gZ g, 3, .inl f217))] H := hP
  have hD : va_D A [(q188, .inr (11, fs203)), (q202, .inl (gZ g, 3, .inl f217))] := hD
  refine lv_aload_n hx hb dL_law_1241 rfl (lv_at hl 1 rfl) ?_
  refine lv_aload_n hx hb dL_law_1242 rfl (lv_at hl 3 rfl) ?_
  refine lv_iload_n hx hb dL_law_1243 rfl (lv_at hl 0 rfl) ?_
  refine lv_iconst (v := 1) hx hb dL_law_1244 (by decide) ?_
  refine lv_iadd hx hb dL_law_1245 ?_
  refine lv_tope (y := 1) (by decide) ?_
  refine sc_ld hx hb hX hbl hbA hS 1 rfl (by decide) (by decide) dL_law_1246 ?_
  refine lv_tope (y := 2) hi ?_
  refine kI (wc := [(q188, .inr (11, fs203)), (q202, .inl (gZ g, 3, .inl f217))]) (wr := []) (rV (As := [.int 2]) (rest := [.int (-1)]) (meth2 := "") hcx (c_X11_back_2 (hf218) (hf232) (hf254) H.size) (gdV q67_1 q67_2 q67_3 q1_5 q67_4) dvX11_back ⟨Nat.le_of_ble_eq_true rfl, Nat.le_of_ble_eq_true rfl⟩ (hP.sub [0, 1] rfl) (hD.sub [0, 1] (by decide) rfl) (va_recv hK hP (ci := 11) (q0 := 0) rfl rfl) rfl hl.1 rfl (Nat.le_of_ble_eq_true rfl) dL_law_1247 ⟨by show _ + 0 ≤ 600000; omega, by show _ + 0 ≤ 7302250; omega⟩) hP hD hS hA [0, 1] [] rfl rfl (by decide) (by decide) (fun r W' H locs hw hP hD hS => ?_)
  obtain ⟨rfl, rfl⟩ := hw
  have hP : va_P g.1 vwCl [] H := hP
  have hD : va_D A [] := hD
  refine lv_icmp_eq (tgt := 1278) hx hb dL_law_1250 (by decide) (fun _ => ?_) (fun c1001 => absurd (by decide) c1001)
  refine lv_iinc (v := 6) (lv' := [(3, .int 6), (2, .ref q188), (1, .ref q1), (0, .ref b)]) hx hb dL_law_1278 hl (k := 0) rfl (by decide) (by decide) rfl (fun ls hl => ?_)
  refine lv_goto (tgt := 18) hx hb dL_law_1281 (by decide) ?_
  refine lv_iload_n hx hb dL_law_18 rfl (lv_at hl 0 rfl) ?_
  refine lv_aload_n hx hb dL_law_19 rfl (lv_at hl 3 rfl) ?_
  refine va_slen hx hb hX hbl hbA hS dL_law_20 ?_
  refine lv_tope (y := 6) (by decide) ?_
  refine lv_bipush (v := 6) hx hb dL_law_21 (by decide) ?_
  refine lv_isub hx hb dL_law_23 ?_
  refine lv_tope (y := 0) (by decide) ?_
  refine lv_icmp_gt (tgt := 1284) hx hb dL_law_24 (by decide) (fun _ => ?_) (fun c1002 => absurd (by decide) c1002)
  refine lv_iconst (v := 1) hx hb dL_law_1284 (by decide) ?_
  refine va_forget (fun q hq => hAl _ (hS.2.2 q hq)) ?_
  refine W.widen (k := 600000) (n := 7302250) (by omega) (by omega) ?_
  exact lw_ret hx hb hr hlocks dL_law_1285

set_option maxHeartbeats 40000000 in
set_option maxRecDepth 100000 in
theorem lc_40_out {p : Program} {l : Launch} {e : Env} {s : State} {m : MethodId} {below : List Frame} {meth : Method} {c : Code} {g : Gx} {b : Nat} {xs : Nat → Int32} {A : Nat → Prop} {H : Heap} {locs : List Loc} {ls : Array Slot} {nc ns : Nat} {q1 : Nat} {q2 : Nat} {q3 : Nat} {q52 : Nat} {q73 : Nat} {q13 : Nat} {q67 : Nat} {q76 : Nat} {q11 : Nat} {q86 : Nat} {q84 : Nat} {q12 : Nat} {q85 : Nat} {q188 : Nat} {fs203 : List Value} {q189 : Nat} {q195 : Nat} {q200 : Nat} {q196 : Nat} {q197 : Nat} {q201 : Nat} {q198 : Nat} {q199 : Nat} {q190 : Nat} {q191 : Nat} {q192 : Nat} {q193 : Nat} {q194 : Nat} {q202 : Nat} (ho : ¬ xs 1 = 0 ∧ ¬ xs 1 = 1 ∧ ¬ xs 1 = 2) (hnc : nc ≤ 1000) (hns : ns ≤ 100000) (hcx : Cx p s m #[Value.ref b] meth c cL_law 4 ret RL meth.name g) (hX : va_X b 6 xs s s.heap) (hbl : b < s.heap.size) (hbA : ¬ A b) (hA : ∀ q : Nat, s.heap.size ≤ q → A q) (hAl : ∀ q : Nat, A q → s.heap.size ≤ q) (hf218 : fs203.length = 69) (hf219 : fs203[0]? = some (Value.ref q189)) (hf220 : fs203[11]? = some (Value.ref q195)) (hf221 : fs203[12]? = some (Value.ref q200)) (hf222 : fs203[13]? = some (Value.ref q196)) (hf223 : fs203[14]? = some (Value.ref q197)) (hf224 : fs203[15]? = some (Value.ref q201)) (hf225 : fs203[16]? = some (Value.ref q198)) (hf226 : fs203[46]? = some (Value.ref q199)) (hf227 : fs203[48]? = some (Value.ref q190)) (hf228 : fs203[51]? = some (Value.ref q191)) (hf229 : fs203[53]? = some (Value.ref q192)) (hf230 : fs203[56]? = some (Value.ref q193)) (hf231 : fs203[67]? = some (Value.ref q194)) (hf232 : fs203[68]? = some (Value.ref q202)) (hf233 : fs203[2]? = some (Value.int 0)) (hf234 : fs203[4]? = some (Value.int 0)) (hf235 : fs203[5]? = some (Value.int (-1))) (hf236 : fs203[34]? = some (Value.int 0)) (hf237 : fs203[49]? = some (Value.int 0)) (hf238 : fs203[50]? = some (Value.int 0)) (hf239 : fs203[54]? = some (Value.int 0)) (hf240 : fs203[65]? = some (Value.int 0)) (hf241 : fs203[66]? = some (Value.int 0)) (hP : va_P g.1 vwCl [(q1, .inr (10, [.ref q2, .int 0, .ref q3, .ref q52, .ref q73, .ref q13, .ref q67, .ref q76, .ref q11, .ref q86, .ref q84, .ref q12, .ref q85, .int 0])), (q188, .inr (11, fs203))] H) (hD : va_D A [(q1, .inr (10, [.ref q2, .int 0, .ref q3, .ref q52, .ref q73, .ref q13, .ref q67, .ref q76, .ref q11, .ref q86, .ref q84, .ref q12, .ref q85, .int 0])), (q188, .inr (11, fs203))]) (hS : va_S A s.heap H locs) (hl : lv_has ls 4 [(3, .int 0), (2, .ref q188), (1, .ref q1), (0, .ref b)]) : W p l e room_1 s m #[Value.ref b] below meth c H locs nc ns (lw_Z below #[Value.ref b] s) (F0 m 1232 ls []) := by
  obtain ⟨hx, hb, hml, hr, hlocks, hown, hts, hE, hnm⟩ := id hcx
  have hK := hE.1
  refine lv_aload_n hx hb dL_law_1232 rfl (lv_at hl 2 rfl) ?_
  refine lv_aload_n hx hb dL_law_1233 rfl (lv_at hl 3 rfl) ?_
  refine lv_iload_n hx hb dL_law_1234 rfl (lv_at hl 0 rfl) ?_
  refine lv_iconst (v := 1) hx hb dL_law_1235 (by decide) ?_
  refine lv_iadd hx hb dL_law_1236 ?_
  refine lv_tope (y := 1) (by decide) ?_
  refine sc_ld hx hb hX hbl hbA hS 1 rfl (by decide) (by decide) dL_law_1237 ?_
  refine kI (wc := [(q1, .inr (10, [.ref q2, .int 0, .ref q3, .ref q52, .ref q73, .ref q13, .ref q67, .ref q76, .ref q11, .ref q86, .ref q84, .ref q12, .ref q85, .int 0]))]) (wr := [(q188, .inr (11, fs203))]) (rV (As := [.int (xs 1)]) (rest := []) (meth2 := "") hcx (c_X10_back_out (by assumption) H.size) (gdV q66_21 q66_22 q66_23 q1_2 q67_0) dvX10_back ⟨Nat.le_of_ble_eq_true rfl, Nat.le_of_ble_eq_true rfl⟩ (hP.sub [0] rfl) (hD.sub [0] (by decide) rfl) (va_recv hK hP (ci := 10) (q0 := 0) rfl rfl) rfl hl.1 rfl (Nat.le_of_ble_eq_true rfl) dL_law_1238 ⟨by show _ + 0 ≤ 600000; omega, by show _ + 0 ≤ 7302250; omega⟩) hP hD hS hA [0] [1] rfl rfl (by decide) (by decide) (fun r W' H locs hw hP hD hS => ?_)
  obtain ⟨rfl, rfl⟩ := hw
  have hP : va_P g.1 vwCl [(q188, .inr (11, fs203))] H := hP
  have hD : va_D A [(q188, .inr (11, fs203))] := hD
  refine lv_aload_n hx hb dL_law_1241 rfl (lv_at hl 1 rfl) ?_
  refine lv_aload_n hx hb dL_law_1242 rfl (lv_at hl 3 rfl) ?_
  refine lv_iload_n hx hb dL_law_1243 rfl (lv_at hl 0 rfl) ?_
  refine lv_iconst (v := 1) hx hb dL_law_1244 (by decide) ?_
  refine lv_iadd hx hb dL_law_1245 ?_
  refine lv_tope (y := 1) (by decide) ?_
  refine sc_ld hx hb hX hbl hbA hS 1 rfl (by decide) (by decide) dL_law_1246 ?_
  refine kI (wc := [(q188, .inr (11, fs203))]) (wr := []) (rV (As := [.int (xs 1)]) (rest := [.int (-1)]) (meth2 := "") hcx (c_X11_back_out (hf218) (by assumption) H.size) (gdV q67_1 q67_2 q67_3 q1_5 q67_4) dvX11_back ⟨Nat.le_of_ble_eq_true rfl, Nat.le_of_ble_eq_true rfl⟩ (hP.sub [0] rfl) (hD.sub [0] (by decide) rfl) (va_recv hK hP (ci := 11) (q0 := 0) rfl rfl) rfl hl.1 rfl (Nat.le_of_ble_eq_true rfl) dL_law_1247 ⟨by show _ + 0 ≤ 600000; omega, by show _ + 0 ≤ 7302250; omega⟩) hP hD hS hA [0] [] rfl rfl (by decide) (by decide) (fun r W' H locs hw hP hD hS => ?_)
  obtain ⟨rfl, rfl⟩ := hw
  have hP : va_P g.1 vwCl [] H := hP
  have hD : va_D A [] := hD
  refine lv_icmp_eq (tgt := 1278) hx hb dL_law_1250 (by decide) (fun _ => ?_) (fun c1001 => absurd (by decide) c1001)
  refine lv_iinc (v := 6) (lv' := [(3, .int 6), (2, .ref q188), (1, .ref q1), (0, .ref b)]) hx hb dL_law_1278 hl (k := 0) rfl (by decide) (by decide) rfl (fun ls hl => ?_)
  refine lv_goto (tgt := 18) hx hb dL_law_1281 (by decide) ?_
  refine lv_iload_n hx hb dL_law_18 rfl (lv_at hl 0 rfl) ?_
  refine lv_aload_n hx hb dL_law_19 rfl (lv_at hl 3 rfl) ?_
  refine va_slen hx hb hX hbl hbA hS dL_law_20 ?_
  refine lv_tope (y := 6) (by decide) ?_
  refine lv_bipush (v := 6) hx hb dL_law_21 (by decide) ?_
  refine lv_isub hx hb dL_law_23 ?_
  refine lv_tope (y := 0) (by decide) ?_
  refine lv_icmp_gt (tgt := 1284) hx hb dL_law_24 (by decide) (fun _ => ?_) (fun c1002 => absurd (by decide) c1002)
  refine lv_iconst (v := 1) hx hb dL_law_1284 (by decide) ?_
  refine va_forget (fun q hq => hAl _ (hS.2.2 q hq)) ?_
  refine W.widen (k := 600000) (n := 7302250) (by omega) (by omega) ?_
  exact lw_ret hx hb hr hlocks dL_law_1285

set_option maxHeartbeats 40000000 in
set_option maxRecDepth 100000 in
theorem lc_41 {p : Program} {l : Launch} {e : Env} {s : State} {m : MethodId} {below : List Frame} {meth : Method} {c : Code} {g : Gx} {b : Nat} {xs : Nat → Int32} {A : Nat → Prop} {H : Heap} {locs : List Loc} {ls : Array Slot} {nc ns : Nat} {q1 : Nat} {q2 : Nat} {q3 : Nat} {q52 : Nat} {q73 : Nat} {q13 : Nat} {q67 : Nat} {q76 : Nat} {q11 : Nat} {q86 : Nat} {q84 : Nat} {q12 : Nat} {q85 : Nat} {q46 : Nat} {q47 : Nat} {q48 : Nat} {q129 : Nat} {q49 : Nat} {q50 : Nat} {q51 : Nat} {q132 : Nat} {q68 : Nat} {q69 : Nat} {q70 : Nat} {q71 : Nat} {q72 : Nat} {x151 : Int32} {q157 : Nat} {q40 : Nat} {q41 : Nat} {q42 : Nat} {q43 : Nat} {q158 : Nat} {q44 : Nat} {q75 : Nat} {q45 : Nat} {q74 : Nat} {q77 : Nat} {q168 : Nat} {q169 : Nat} {q170 : Nat} {q171 : Nat} {q172 : Nat} {q173 : Nat} {q174 : Nat} {q175 : Nat} {q176 : Nat} {q177 : Nat} {q178 : Nat} {q188 : Nat} {fs203 : List Value} {q189 : Nat} {q195 : Nat} {q200 : Nat} {q196 : Nat} {q197 : Nat} {q201 : Nat} {q198 : Nat} {q199 : Nat} {q190 : Nat} {q191 : Nat} {q192 : Nat} {q193 : Nat} {q194 : Nat} {q202 : Nat} {f210 : Nat → Int32} {f212 : Nat → Int32} {f214 : Nat → Int32} {f215 : Nat → Int32} (hnc : nc ≤ 1000) (hns : ns ≤ 100000) (hcx : Cx p s m #[Value.ref b] meth c cL_law 4 ret RL meth.name g) (hX : va_X b 6 xs s s.heap) (hbl : b < s.heap.size) (hbA : ¬ A b) (hA : ∀ q : Nat, s.heap.size ≤ q → A q) (hAl : ∀ q : Nat, A q → s.heap.size ≤ q) (hf218 : fs203.length = 69) (hf219 : fs203[0]? = some (Value.ref q189)) (hf220 : fs203[11]? = some (Value.ref q195)) (hf221 : fs203[12]? = some (Value.ref q200)) (hf222 : fs203[13]? = some (Value.ref q196)) (hf223 : fs203[14]? = some (Value.ref q197)) (hf224 : fs203[15]? = some (Value.ref q201)) (hf225 : fs203[16]? = some (Value.ref q198)) (hf226 : fs203[46]? = some (Value.ref q199)) (hf227 : fs203[48]? = some (Value.ref q190)) (hf228 : fs203[51]? = some (Value.ref q191)) (hf229 : fs203[53]? = some (Value.ref q192)) (hf230 : fs203[56]? = some (Value.ref q193)) (hf231 : fs203[67]? = some (Value.ref q194)) (hf232 : fs203[68]? = some (Value.ref q202)) (hf233 : fs203[2]? = some (Value.int 0)) (hf234 : fs203[4]? = some (Value.int 0)) (hf235 : fs203[5]? = some (Value.int (-1))) (hf236 : fs203[34]? = some (Value.int 0)) (hf237 : fs203[49]? = some (Value.int 0)) (hf238 : fs203[50]? = some (Value.int 0)) (hf239 : fs203[54]? = some (Value.int 0)) (hf240 : fs203[65]? = some (Value.int 0)) (hf241 : fs203[66]? = some (Value.int 0)) (hf242 : f210 0 = 0) (hf244 : f212 0 = 0) (hf246 : f214 20 = 0) (hf247 : f214 21 = 0) (hf248 : f214 22 = 0) (hf249 : f214 23 = 0) (hf250 : f215 0 = 0) (hP : va_P g.1 vwCl [(q1, .inr (10, [.ref q2, .int 0, .ref q3, .ref q52, .ref q73, .ref q13, .ref q67, .ref q76, .ref q11, .ref q86, .ref q84, .ref q12, .ref q85, .int 0])), (q46, .inr (1, [.ref q47, .ref q48, .ref q129, .int 0, .int 0, .int 0])), (q49, .inr (1, [.ref q50, .ref q51, .ref q132, .int 0, .int 0, .int 0])), (q67, .inr (7, [.ref q68, .ref q69, .ref q70, .ref q71, .ref q72, .int 0, .int 0, .int 0, .int 0, .int x151])), (q73, .inr (9, [.int 0, .int 0, .int 0, .int 0, .int 0, .ref q157, .ref q40, .ref q41, .ref q42, .ref q43, .ref q158, .ref q44, .ref q75, .ref q45, .ref q74, .ref q46, .ref q49])), (q76, .inr (2, [.ref q77, .int 0, .int 0, .int 0])), (q84, .inr (3, [.ref q168, .int 0])), (q85, .inr (6, [.ref q13, .ref q169, .ref q170, .ref q171, .ref q172, .ref q173, .ref q174, .ref q175, .ref q176, .ref q177, .ref q178, .int 0, .int 0])), (q188, .inr (11, fs203)), (q195, .inl (gI g, 2, .inl f210)), (q197, .inl (gI g, 2, .inl f212)), (q199, .inl (gI g, 24, .inl f214)), (q200, .inl (gI g, 2, .inl f215))] H) (hD : va_D A [(q1, .inr (10, [.ref q2, .int 0, .ref q3, .ref q52, .ref q73, .ref q13, .ref q67, .ref q76, .ref q11, .ref q86, .ref q84, .ref q12, .ref q85, .int 0])), (q46, .inr (1, [.ref q47, .ref q48, .ref q129, .int 0, .int 0, .int 0])), (q49, .inr (1, [.ref q50, .ref q51, .ref q132, .int 0, .int 0, .int 0])), (q67, .inr (7, [.ref q68, .ref q69, .ref q70, .ref q71, .ref q72, .int 0, .int 0, .int 0, .int 0, .int x151])), (q73, .inr (9, [.int 0, .int 0, .int 0, .int 0, .int 0, .ref q157, .ref q40, .ref q41, .ref q42, .ref q43, .ref q158, .ref q44, .ref q75, .ref q45, .ref q74, .ref q46, .ref q49])), (q76, .inr (2, [.ref q77, .int 0, .int 0, .int 0])), (q84, .inr (3, [.ref q168, .int 0])), (q85, .inr (6, [.ref q13, .ref q169, .ref q170, .ref q171, .ref q172, .ref q173, .ref q174, .ref q175, .ref q176, .ref q177, .ref q178, .int 0, .int 0])), (q188, .inr (11, fs203)), (q195, .inl (gI g, 2, .inl f210)), (q197, .inl (gI g, 2, .inl f212)), (q199, .inl (gI g, 24, .inl f214)), (q200, .inl (gI g, 2, .inl f215))]) (hS : va_S A s.heap H locs) (hl : lv_has ls 4 [(3, .int 0), (2, .ref q188), (1, .ref q1), (0, .ref b)]) : W p l e room_1 s m #[Value.ref b] below meth c H locs nc ns (lw_Z below #[Value.ref b] s) (F0 m 1255 ls []) := by
  obtain ⟨hx, hb, hml, hr, hlocks, hown, hts, hE, hnm⟩ := id hcx
  have hK := hE.1
  refine lv_aload_n hx hb dL_law_1255 rfl (lv_at hl 2 rfl) ?_
  refine lv_aload_n hx hb dL_law_1256 rfl (lv_at hl 3 rfl) ?_
  refine lv_iload_n hx hb dL_law_1257 rfl (lv_at hl 0 rfl) ?_
  refine lv_iconst (v := 1) hx hb dL_law_1258 (by decide) ?_
  refine lv_iadd hx hb dL_law_1259 ?_
  refine lv_tope (y := 1) (by decide) ?_
  refine sc_ld hx hb hX hbl hbA hS 1 rfl (by decide) (by decide) dL_law_1260 ?_
  refine kI (wc := [(q1, .inr (10, [.ref q2, .int 0, .ref q3, .ref q52, .ref q73, .ref q13, .ref q67, .ref q76, .ref q11, .ref q86, .ref q84, .ref q12, .ref q85, .int 0])), (q73, .inr (9, [.int 0, .int 0, .int 0, .int 0, .int 0, .ref q157, .ref q40, .ref q41, .ref q42, .ref q43, .ref q158, .ref q44, .ref q75, .ref q45, .ref q74, .ref q46, .ref q49])), (q46, .inr (1, [.ref q47, .ref q48, .ref q129, .int 0, .int 0, .int 0])), (q49, .inr (1, [.ref q50, .ref q51, .ref q132, .int 0, .int 0, .int 0])), (q67, .inr (7, [.ref q68, .ref q69, .ref q70, .ref q71, .ref q72, .int 0, .int 0, .int 0, .int 0, .int x151])), (q76, .inr (2, [.ref q77, .int 0, .int 0, .int 0])), (q85, .inr (6, [.ref q13, .ref q169, .ref q170, .ref q171, .ref q172, .ref q173, .ref q174, .ref q175, .ref q176, .ref q177, .ref q178, .int 0, .int 0])), (q84, .inr (3, [.ref q168, .int 0]))]) (wr := [(q188, .inr (11, fs203)), (q195, .inl (gI g, 2, .inl f210)), (q197, .inl (gI g, 2, .inl f212)), (q199, .inl (gI g, 24, .inl f214)), (q200, .inl (gI g, 2, .inl f215))]) (rV (As := [.int (xs 1)]) (rest := []) (meth2 := "") hcx (c_X10_about H.size) (gdV q67_5 q67_6 q67_7 q1_2 q67_8) dvX10_about ⟨Nat.le_of_ble_eq_true rfl, Nat.le_of_ble_eq_true rfl⟩ (hP.sub [0, 4, 1, 2, 3, 5, 7, 6] rfl) (hD.sub [0, 4, 1, 2, 3, 5, 7, 6] (by decide) rfl) (va_recv hK hP (ci := 10) (q0 := 0) rfl rfl) rfl hl.1 rfl (Nat.le_of_ble_eq_true rfl) dL_law_1261 ⟨by show _ + 0 ≤ 600000; omega, by show _ + 0 ≤ 7302250; omega⟩) hP hD hS hA [0, 4, 1, 2, 3, 5, 7, 6] [8, 9, 10, 11, 12] rfl rfl (by decide) (by decide) (fun r1001 W' H locs hw hP hD hS => ?_)
  obtain ⟨hr1002, rfl⟩ := hw
  have hP : va_P g.1 vwCl [(q188, .inr (11, fs203)), (q195, .inl (gI g, 2, .inl f210)), (q197, .inl (gI g, 2, .inl f212)), (q199, .inl (gI g, 24, .inl f214)), (q200, .inl (gI g, 2, .inl f215))] H := hP
  have hD : va_D A [(q188, .inr (11, fs203)), (q195, .inl (gI g, 2, .inl f210)), (q197, .inl (gI g, 2, .inl f212)), (q199, .inl (gI g, 24, .inl f214)), (q200, .inl (gI g, 2, .inl f215))] := hD
  refine lv_aload_n hx hb dL_law_1264 rfl (lv_at hl 1 rfl) ?_
  refine lv_aload_n hx hb dL_law_1265 rfl (lv_at hl 3 rfl) ?_
  refine lv_iload_n hx hb dL_law_1266 rfl (lv_at hl 0 rfl) ?_
  refine lv_iconst (v := 1) hx hb dL_law_1267 (by decide) ?_
  refine lv_iadd hx hb dL_law_1268 ?_
  refine lv_tope (y := 1) (by decide) ?_
  refine sc_ld hx hb hX hbl hbA hS 1 rfl (by decide) (by decide) dL_law_1269 ?_
  refine kI (wc := [(q188, .inr (11, fs203)), (q200, .inl (gI g, 2, .inl f215)), (q195, .inl (gI g, 2, .inl f210)), (q199, .inl (gI g, 24, .inl f214)), (q197, .inl (gI g, 2, .inl f212))]) (wr := []) (rV (As := [.int (xs 1)]) (rest := [.int r1001]) (meth2 := "") hcx (c_X11_about (hf218) (hf221) (hf220) (hf236) (hf226) (hf237) (hf238) (hf240) (hf241) (hf233) (hf223) (hf239) (hf250) (hf242) (hf246) (hf247) (hf248) (hf249) (hf244) H.size) (gdV q67_19 q67_20 q67_21 q1_5 q67_22) dvX11_about ⟨Nat.le_of_ble_eq_true rfl, Nat.le_of_ble_eq_true rfl⟩ (hP.sub [0, 4, 1, 3, 2] rfl) (hD.sub [0, 4, 1, 3, 2] (by decide) rfl) (va_recv hK hP (ci := 11) (q0 := 0) rfl rfl) rfl hl.1 rfl (Nat.le_of_ble_eq_true rfl) dL_law_1270 ⟨by show _ + 0 ≤ 600000; omega, by show _ + 0 ≤ 7302250; omega⟩) hP hD hS hA [0, 4, 1, 3, 2] [] rfl rfl (by decide) (by decide) (fun r1003 W' H locs hw hP hD hS => ?_)
  obtain ⟨hr1004, rfl⟩ := hw
  have hP : va_P g.1 vwCl [] H := hP
  have hD : va_D A [] := hD
  refine lv_icmp_eq (tgt := 1278) hx hb dL_law_1273 (by decide) (fun _ => ?_) (fun c1005 => absurd (hr1002.trans hr1004.symm) c1005)
  refine lv_iinc (v := 6) (lv' := [(3, .int 6), (2, .ref q188), (1, .ref q1), (0, .ref b)]) hx hb dL_law_1278 hl (k := 0) rfl (by decide) (by decide) rfl (fun ls hl => ?_)
  refine lv_goto (tgt := 18) hx hb dL_law_1281 (by decide) ?_
  refine lv_iload_n hx hb dL_law_18 rfl (lv_at hl 0 rfl) ?_
  refine lv_aload_n hx hb dL_law_19 rfl (lv_at hl 3 rfl) ?_
  refine va_slen hx hb hX hbl hbA hS dL_law_20 ?_
  refine lv_tope (y := 6) (by decide) ?_
  refine lv_bipush (v := 6) hx hb dL_law_21 (by decide) ?_
  refine lv_isub hx hb dL_law_23 ?_
  refine lv_tope (y := 0) (by decide) ?_
  refine lv_icmp_gt (tgt := 1284) hx hb dL_law_24 (by decide) (fun _ => ?_) (fun c1006 => absurd (by decide) c1006)
  refine lv_iconst (v := 1) hx hb dL_law_1284 (by decide) ?_
  refine va_forget (fun q hq => hAl _ (hS.2.2 q hq)) ?_
  refine W.widen (k := 600000) (n := 7302250) (by omega) (by omega) ?_
  exact lw_ret hx hb hr hlocks dL_law_1285
