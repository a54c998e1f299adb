/-! TYPES 2: measures, typed beginnings of rows, bits, copies with their row -/
def mN (x : Int32) : Nat := (x.toInt + 1).toNat
theorem mN_m1 : mN (-1) = 0 := by decide
theorem mN_n {a : Nat} (h : a < 2 ^ 31) : mN (nI a) = a + 1 := by
  unfold mN; rw [nI_toInt h]; omega
theorem TN_z {B : Nat} {f : Nat → Int32} : TN 0 B f := fun _ hk => absurd hk (Nat.not_lt_zero _)
theorem TM_z {B : Nat} {f : Nat → Int32} : TM 0 B f := fun _ hk => absurd hk (Nat.not_lt_zero _)
theorem TN_ext {k B m : Nat} {f : Nat → Int32} (h : TN k B f) (hm : m ≤ B) : TN (k + 1) B (upd f k (nI m)) := fun j hj => by
  by_cases e : j = k
  · subst e; exact ⟨m, hm, pk_us⟩
  · rw [pk_un e]; exact h j (by omega)
theorem TM_ext {k B : Nat} {x : Int32} {f : Nat → Int32} (h : TM k B f) (hm : XM B x) : TM (k + 1) B (upd f k x) := fun j hj => by
  by_cases e : j = k
  · subst e; rw [pk_us]; exact hm
  · rw [pk_un e]; exact h j (by omega)
theorem TN_sub {n k B : Nat} {f : Nat → Int32} (h : TN n B f) (hk : k ≤ n) : TN k B f := fun j hj => h j (by omega)
theorem TM_sub {n k B : Nat} {f : Nat → Int32} (h : TM n B f) (hk : k ≤ n) : TM k B f := fun j hj => h j (by omega)
theorem XM_le {B C : Nat} {x : Int32} (h : XM B x) (hc : B ≤ C) : XM C x := h.imp id (fun ⟨m, a, b⟩ => ⟨m, Nat.le_trans a hc, b⟩)
theorem TM_le {n B C : Nat} {f : Nat → Int32} (h : TM n B f) (hc : B ≤ C) : TM n C f := fun k hk => XM_le (h k hk) hc
theorem XM_ge {B : Nat} {x : Int32} (h : XM B x) (h0 : ¬ x < 0) : ∃ m, m ≤ B ∧ x = nI m := h.resolve_left (fun e => h0 (by rw [e]; decide))
theorem XM_lt {B : Nat} {x : Int32} (hB : B < 2 ^ 31) (h : XM B x) (h0 : x < 0) : x = -1 := h.resolve_right (fun ⟨m, a, e⟩ => by rw [e] at h0; exact nI_pos (by omega) h0)
theorem XM_mN {B : Nat} {x : Int32} (hB : B < 2 ^ 31) (h : XM B x) : mN x ≤ B + 1 := by
  rcases h with rfl | ⟨m, hm, rfl⟩
  · rw [mN_m1]; omega
  · rw [mN_n (by omega)]; omega
theorem x_of (x : Int32) : ∃ n, n < 2 ^ 32 ∧ x = nI n := ⟨x.toBitVec.toNat, x.toBitVec.isLt, Int32.toBitVec_inj.mp (by show _ = BitVec.ofNat 32 _; simp)⟩
theorem n_and (a b : Nat) : nI a &&& nI b = nI (a &&& b) := by
  apply Int32.toBitVec_inj.mp
  rw [Int32.toBitVec_and]
  show BitVec.ofNat 32 a &&& BitVec.ofNat 32 b = BitVec.ofNat 32 (a &&& b)
  apply BitVec.eq_of_getLsbD_eq
  intro i hi
  simp [BitVec.getLsbD_and, BitVec.getLsbD_ofNat, Nat.testBit_and, hi]
theorem n_or (a b : Nat) : nI a ||| nI b = nI (a ||| b) := by
  apply Int32.toBitVec_inj.mp
  rw [Int32.toBitVec_or]
  show BitVec.ofNat 32 a ||| BitVec.ofNat 32 b = BitVec.ofNat 32 (a ||| b)
  apply BitVec.eq_of_getLsbD_eq
  intro i hi
  simp [BitVec.getLsbD_or, BitVec.getLsbD_ofNat, Nat.testBit_or, hi]
theorem and_c (x : Int32) {c : Nat} : ∃ m, m ≤ c ∧ x &&& nI c = nI m := by
  obtain ⟨n, _, rfl⟩ := x_of x
  exact ⟨n &&& c, Nat.and_le_right, n_and n c⟩
theorem and_l {a : Nat} (y : Int32) : ∃ m, m ≤ a ∧ nI a &&& y = nI m := by
  obtain ⟨n, _, rfl⟩ := x_of y
  exact ⟨a &&& n, Nat.and_le_left, n_and a n⟩
theorem or_l {a b : Nat} (k : Nat) (ha : a < 2 ^ k) (hb : b < 2 ^ k) : ∃ m, m < 2 ^ k ∧ nI a ||| nI b = nI m := ⟨a ||| b, Nat.or_lt_two_pow ha hb, n_or a b⟩
theorem shl1 : ∀ n, n < 31 → (1 : Int32) <<< (nI n &&& 31) = nI (2 ^ n) := by decide +kernel
theorem shl1e {n B : Nat} (hB : B < 31) (h : n ≤ B) : ∃ m, 1 ≤ m ∧ m ≤ 2 ^ B ∧ (1 : Int32) <<< (nI n &&& 31) = nI m := ⟨2 ^ n, Nat.two_pow_pos n, Nat.pow_le_pow_right (by decide) h, shl1 n (by omega)⟩
theorem decM {a : Nat} (h : a < 2 ^ 31) : XM (a - 1) (nI a - 1) ∧ mN (nI a - 1) = a := by
  cases a with
  | zero => exact ⟨Or.inl (by decide), by decide⟩
  | succ n => rw [nI_pred]; exact ⟨Or.inr ⟨n, by omega, rfl⟩, mN_n (by omega)⟩
theorem incM (x : Int32) : x + Int32.ofInt (-1) = x - 1 := by
  apply Int32.toBitVec_inj.mp
  rw [Int32.toBitVec_add, Int32.toBitVec_sub]
  show x.toBitVec + (-1 : Int32).toBitVec = x.toBitVec - (1 : Int32).toBitVec
  have e : (-1 : Int32).toBitVec = - (1 : Int32).toBitVec := by decide
  rw [e, BitVec.sub_eq_add_neg]
theorem M_add1 {B : Nat} {x : Int32} (hB : B < 2 ^ 30) (h : XM B x) : ∃ m, m ≤ B + 1 ∧ x + 1 = nI m ∧ mN x = m := by
  rcases h with rfl | ⟨m, hm, rfl⟩
  · exact ⟨0, by omega, by decide, mN_m1⟩
  · exact ⟨m + 1, by omega, nI_1 m, mN_n (by omega)⟩
theorem neg_lt {x : Int32} (h : x < 0) {a : Nat} (ha : a < 2 ^ 31) : x < nI a := by
  have h2 : (0 : Int32) ≤ nI a := nI_pos' ha
  rw [Int32.lt_iff_toInt_lt] at h ⊢
  rw [Int32.le_iff_toInt_le] at h2
  omega
theorem bit1 (x : Int32) : ∃ m, m ≤ 1 ∧ x &&& 1 = nI m := and_c x (c := 1)
section ROWS2
variable {p : Program} {l : Launch} {e : Env} {R : Room} {s : State} {m : MethodId} {args : Array Value} {below : List Frame} {meth : Method} {c : Code} {H : Heap} {locs : List Loc} {cells slots : Nat} {Q : State → Prop}
variable {cc : ByteArray} {pc : Nat} {ls : Array Slot} {rest : List Value} {D : va_G} {cl : List vw_C} {A : Nat → Prop} {a : Nat} {tys : List (ClassId × FieldType)} {ws : va_W} {H0 : Heap}
theorem ia_cpe (hexec : p.tables.exec = Jvm.exec) (hb : c.code = cc) (hml : c.maxLocals = ls.size) {own : String} {index : Nat} (hown : s.vm.findClass own = some m.cls) (hlink : (Cond.methodLink own index arraycopyName).before args s = true) (hnat : (Cond.native arraycopyName).before args s = true) (hstat : (Cond.static arraycopyName).before args s = true) (hini : (Cond.initialized "java/lang/System").before args s = true)
    (hK : va_K D cl tys s) (hP : va_P D cl ws H) (hD : va_D A ws) (hS : va_S A H0 H locs) (q0 q1 t0 t1 : Nat) {a0 : Nat} {c0 c1 : ClassId} {n0 n1 : Nat} {f g : Nat → Int32} (ha0 : ws[q0]? = some (a0, .inl (c0, n0, .inl f))) (ha1 : ws[q1]? = some (a, .inl (c1, n1, .inl g))) (ht0 : tys[t0]? = some (c0, .int)) (ht1 : tys[t1]? = some (c1, .int))
    {sp dp n : Int32} (i j k : Nat) (h1 : sp = nI i) (h2 : dp = nI j) (h3 : n = nI k) (h4 : i + k ≤ n0) (h5 : j + k ≤ n1) (h6 : n0 < 2 ^ 31) (h7 : n1 < 2 ^ 31)
    (hframes : 1 ≤ R.frames) (hlocals : (rest.map fun v => v.category).sum + (nativeFrameWords "java/lang/System" "arraycopy" 5 + 11) ≤ R.locals) (hdg : decode cc pc = .ok (.invokestatic index, 3))
    (kk : ∀ (f' : Nat → Int32) (H1 : Heap) (locs1 : List Loc), f' = va_cpy f g i j k → va_P D cl (ws.set q1 (a, .inl (c1, n1, .inl f'))) H1 → va_D A (ws.set q1 (a, .inl (c1, n1, .inl f'))) → va_S A H0 H1 locs1 → W p l e R s m args below meth c H1 locs1 cells slots Q (F0 m (pc + 3) ls rest)) : W p l e R s m args below meth c H locs cells slots Q (F0 m pc ls (.int n :: .int dp :: .ref a :: .int sp :: .ref a0 :: rest)) := by
  subst h1 h2 h3
  have e1 : (nI i).toNatClampNeg = i := nI_clamp (by omega)
  have e2 : (nI j).toNatClampNeg = j := nI_clamp (by omega)
  have e3 : (nI k).toNatClampNeg = k := nI_clamp (by omega)
  refine va_copyi hexec hb hml hown hlink hnat hstat hini hK hP hD hS q0 q1 t0 t1 ha0 ha1 ht0 ht1 rfl (nI_pos (by omega)) (nI_pos (by omega)) (nI_pos (by omega)) (by rw [e1, e3]; exact h4) (by rw [e2, e3]; exact h5) (fun _ _ => rfl) hframes hlocals hdg (fun H1 locs1 => ?_)
  rw [e1, e2, e3]
  exact kk _ H1 locs1 rfl
end ROWS2
