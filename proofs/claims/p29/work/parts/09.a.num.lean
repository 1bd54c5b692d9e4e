/-! PURE 1: numbers, indices, steps of loops -/
theorem tn_nI {n : Nat} (h : n < 2147483648) : tn (nI n) = n := nI_clamp (by omega)
theorem lt_lit (n : Nat) : (OfNat.ofNat n : Int32) = nI n := rfl
theorem b_t {c A B : Prop} (h : c) : ((c → A) ∧ (¬ c → B)) = A := propext ⟨fun x => x.1 h, fun x => ⟨fun _ => x, fun n => absurd h n⟩⟩
theorem b_f {c A B : Prop} (h : ¬ c) : ((c → A) ∧ (¬ c → B)) = B := propext ⟨fun x => x.2 h, fun x => ⟨fun n => absurd n h, fun _ => x⟩⟩
theorem b_t' {c A B : Prop} (h : c) : ((¬ c → A) ∧ (c → B)) = B := propext ⟨fun x => x.2 h, fun x => ⟨fun n => absurd h n, fun _ => x⟩⟩
theorem b_f' {c A B : Prop} (h : ¬ c) : ((¬ c → A) ∧ (c → B)) = A := propext ⟨fun x => x.1 h, fun x => ⟨fun _ => x, fun n => absurd n h⟩⟩
theorem b_and {c A : Prop} (h : c) : (c ∧ A) = A := propext ⟨fun x => x.2, fun x => ⟨h, x⟩⟩
theorem b_all {α : Type} {P : α → Prop} (a : α) : (∀ x : α, x = a → P x) = P a := propext ⟨fun h => h a rfl, fun h x e => e ▸ h⟩
theorem z10 : ¬ (1 : Int32) = 0 := by decide
theorem nz (b : Bool) : narrow .boolean (.int (bI b)) = .int (bI b) := by cases b <;> rfl
theorem bI_0 (b : Bool) : (bI b = 0) = (b = false) := by cases b <;> decide
theorem ex_step {α : Type} {F : Nat → α → Prop} {a a' : α} (h0 : ∀ a, ¬ F 0 a) (hs : ∀ n, F (n + 1) a = F n a') : (∃ n, F n a) = (∃ n, F n a') := by
  apply propext
  constructor
  · rintro ⟨n, h⟩
    cases n with
    | zero => exact absurd h (h0 _)
    | succ n => exact ⟨n, by rw [← hs]; exact h⟩
  · rintro ⟨n, h⟩
    exact ⟨n + 1, by rw [hs]; exact h⟩
theorem ex_out {α : Type} {F : Nat → α → Prop} {a : α} {P : Prop} (h0 : ∀ a, ¬ F 0 a) (hs : ∀ n, F (n + 1) a = P) : (∃ n, F n a) = P := by
  apply propext
  constructor
  · rintro ⟨n, h⟩
    cases n with
    | zero => exact absurd h (h0 _)
    | succ n => rw [hs] at h; exact h
  · intro h
    exact ⟨1, by rw [hs]; exact h⟩
/-- comparisons of small numbers -/
theorem n_le {a b : Nat} (ha : a < 2147483648) (hb : b < 2147483648) : (nI a ≤ nI b) = (a ≤ b) := propext (nI_leI (by omega) (by omega))
theorem n_lt {a b : Nat} (ha : a < 2147483648) (hb : b < 2147483648) : (nI a < nI b) = (a < b) := propext (nI_ltI (by omega) (by omega))
theorem n_eq {a b : Nat} (ha : a < 2147483648) (hb : b < 2147483648) : (nI a = nI b) = (a = b) := propext (nI_eq (by omega) (by omega))
theorem n_neg {a : Nat} (ha : a < 2147483648) : ¬ nI a < 0 := nI_pos (by omega)
theorem n_m1 {a : Nat} (ha : a < 2147483648) : ¬ nI a = -1 := by
  intro e
  have h := n_neg ha
  rw [e] at h
  exact h (by decide)
theorem n_m1' {a : Nat} (ha : a < 2147483648) : ¬ (-1 : Int32) = nI a := fun e => n_m1 ha e.symm
/-- an index below n, or none -/
theorem ixn (x : Int32) {n : Nat} (hn : n < 2147483648) : (∃ k, k < n ∧ x = nI k) ∨ (x < 0 ∨ nI n ≤ x) := by
  rcases pk_ix x (n := n) (by omega) with h | h | h
  · exact Or.inr (Or.inl h)
  · exact Or.inr (Or.inr h)
  · exact Or.inl h
/-- a range of numbers -/
theorem rng (x : Int32) {a b : Nat} (hab : a ≤ b) (hb : b < 2147483647) : (∃ k, a ≤ k ∧ k ≤ b ∧ x = nI k) ∨ (x < nI a ∨ nI b < x) := by
  rcases pk_ix x (n := b + 1) (by omega) with h | h | ⟨k, hk, rfl⟩
  · refine Or.inr (Or.inl ?_)
    rw [Int32.lt_iff_toInt_lt] at h ⊢
    rw [nI_toInt (by omega)]
    have : (0 : Int32).toInt = 0 := by decide
    omega
  · refine Or.inr (Or.inr ?_)
    rw [Int32.le_iff_toInt_le] at h
    rw [Int32.lt_iff_toInt_lt]
    rw [nI_toInt (by omega)] at h ⊢
    omega
  · by_cases h : a ≤ k
    · exact Or.inl ⟨k, h, by omega, rfl⟩
    · refine Or.inr (Or.inl ?_)
      rw [n_lt (by omega) (by omega)]
      omega
theorem l14 (k f : Nat) : (14 + (10 * nI k)) + nI f = nI (14 + 10 * k + f) := by
  show nI 14 + nI 10 * nI k + nI f = _
  rw [pk_mul, nI_add, nI_add]
theorem l214 (k f : Nat) : (214 + (5 * nI k)) + nI f = nI (214 + 5 * k + f) := by
  show nI 214 + nI 5 * nI k + nI f = _
  rw [pk_mul, nI_add, nI_add]
theorem l264 (a b c : Nat) : ((264 + (80 * nI a)) + (8 * nI b)) + nI c = nI (264 + 80 * a + 8 * b + c) := by
  show nI 264 + nI 80 * nI a + nI 8 * nI b + nI c = _
  rw [pk_mul, pk_mul, nI_add, nI_add, nI_add]
theorem l8 (d : Nat) : 8 + nI d = nI (8 + d) := by
  show nI 8 + nI d = _
  rw [nI_add]
theorem st1 (w : V) (p i : Nat) (x : Int32) : st w p i x p = upd (w p) i x := by
  unfold st
  rw [beq_t]
  rfl
theorem st1n {w : V} {p q i : Nat} {x : Int32} (h : q ≠ p) : st w p i x q = w q := by
  unfold st
  rw [beq_f h]
  rfl
theorem sc1n {w : V} {p q i : Nat} {x : Int32} (h : q ≠ p) : sc w p i x q = w q := by
  unfold sc
  rw [beq_f h]
  rfl
theorem u_s {f : Nat → Int32} {k : Nat} {x : Int32} : upd f k x k = x := pk_us
theorem u_n {f : Nat → Int32} {k j : Nat} {x : Int32} (h : j ≠ k) : upd f k x j = f j := pk_un h
