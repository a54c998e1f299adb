/-! TYPES: rows whose entries are bounded, and what comparisons of bounded ints say -/
def TN (n B : Nat) (f : Nat → Int32) : Prop := ∀ k, k < n → ∃ m, m ≤ B ∧ f k = nI m
def TM (n B : Nat) (f : Nat → Int32) : Prop := ∀ k, k < n → f k = -1 ∨ ∃ m, m ≤ B ∧ f k = nI m
def XM (B : Nat) (x : Int32) : Prop := x = -1 ∨ ∃ m, m ≤ B ∧ x = nI m
theorem TN_0 {n B : Nat} : TN n B (fun _ => 0) := fun _ _ => ⟨0, Nat.zero_le _, rfl⟩
theorem TN_le {n B C : Nat} {f : Nat → Int32} (h : TN n B f) (hc : B ≤ C) : TN n C f := fun k hk => by
  obtain ⟨m, h1, h2⟩ := h k hk
  exact ⟨m, Nat.le_trans h1 hc, h2⟩
theorem TM_of {n B : Nat} {f : Nat → Int32} (h : TN n B f) : TM n B f := fun k hk => Or.inr (h k hk)
theorem TN_upd {n B j m : Nat} {f : Nat → Int32} (h : TN n B f) (hm : m ≤ B) : TN n B (upd f j (nI m)) := fun k hk => by
  by_cases e : k = j
  · subst e; exact ⟨m, hm, pk_us⟩
  · obtain ⟨a, b, c⟩ := h k hk
    exact ⟨a, b, (pk_un e).trans c⟩
theorem TM_upd {n B j : Nat} {f : Nat → Int32} {x : Int32} (h : TM n B f) (hm : XM B x) : TM n B (upd f j x) := fun k hk => by
  by_cases e : k = j
  · subst e; rw [pk_us]; exact hm
  · rw [pk_un e]; exact h k hk
theorem XM_m1 {B : Nat} : XM B (-1) := Or.inl rfl
theorem XM_n {B m : Nat} (h : m ≤ B) : XM B (nI m) := Or.inr ⟨m, h, rfl⟩
theorem TN_cpy {n0 n1 B sp dp n : Nat} {f g : Nat → Int32} (hf : TN n0 B f) (hg : TN n1 B g) (h : sp + n ≤ n0) : TN n1 B (va_cpy f g sp dp n) := fun k hk => by
  by_cases e : dp ≤ k ∧ k < dp + n
  · rw [pk_cpy_in e.1 e.2]; exact hf _ (by omega)
  · rw [pk_cpy_out (by omega)]; exact hg k hk
theorem TM_cpy {n0 n1 B sp dp n : Nat} {f g : Nat → Int32} (hf : TM n0 B f) (hg : TM n1 B g) (h : sp + n ≤ n0) : TM n1 B (va_cpy f g sp dp n) := fun k hk => by
  by_cases e : dp ≤ k ∧ k < dp + n
  · rw [pk_cpy_in e.1 e.2]; exact hf _ (by omega)
  · rw [pk_cpy_out (by omega)]; exact hg k hk
theorem nlt {a b : Nat} (ha : a < 2 ^ 31) (hb : b < 2 ^ 31) (c : nI a < nI b) : a < b := (nI_ltI ha hb).mp c
theorem nnlt {a b : Nat} (ha : a < 2 ^ 31) (hb : b < 2 ^ 31) (c : ¬ nI a < nI b) : b ≤ a := Nat.le_of_not_lt (fun q => c ((nI_ltI ha hb).mpr q))
theorem nle {a b : Nat} (ha : a < 2 ^ 31) (hb : b < 2 ^ 31) (c : nI a ≤ nI b) : a ≤ b := (nI_leI ha hb).mp c
theorem nnle {a b : Nat} (ha : a < 2 ^ 31) (hb : b < 2 ^ 31) (c : ¬ nI a ≤ nI b) : b < a := Nat.lt_of_not_le (fun q => c ((nI_leI ha hb).mpr q))
theorem neq {a b : Nat} (ha : a < 2 ^ 31) (hb : b < 2 ^ 31) (c : nI a = nI b) : a = b := (nI_eq ha hb).mp c
theorem nneq {a b : Nat} (ha : a < 2 ^ 31) (hb : b < 2 ^ 31) (c : ¬ nI a = nI b) : a ≠ b := fun q => c ((nI_eq ha hb).mpr q)
theorem nm1 {a : Nat} (ha : a < 2 ^ 31) : ¬ nI a = -1 := by
  intro h
  have h1 := congrArg Int32.toInt h
  rw [nI_toInt ha] at h1
  have e1 : (-1 : Int32).toInt = -1 := by decide
  omega
theorem nneg {a : Nat} (ha : a < 2 ^ 31) : ¬ nI a < 0 := nI_pos ha
/-- an int in bounds is a Nat in bounds -/
theorem inN {x : Int32} {B : Nat} (hB : B < 2 ^ 31) (h0 : ¬ x < 0) (h1 : ¬ nI B < x) : ∃ m, m ≤ B ∧ x = nI m := by
  obtain ⟨j, hj, rfl⟩ := nI_of h0
  exact ⟨j, Nat.le_of_not_lt (fun q => h1 ((nI_ltI hB hj).mpr q)), rfl⟩
theorem inN' {x : Int32} {B : Nat} (hB : B < 2 ^ 31) (h0 : ¬ x < 0) (h1 : ¬ nI B ≤ x) : ∃ m, m < B ∧ x = nI m := by
  obtain ⟨j, hj, rfl⟩ := nI_of h0
  exact ⟨j, Nat.lt_of_not_le (fun q => h1 ((nI_leI hB hj).mpr q)), rfl⟩
