/-! PURE 23: the law's state; a recorded command -/
def SN (G s w : V) : Prop := G 0 6 = w 0 3 ∧ (¬ w 0 3 = 0 → R s (w 3))
def TX (c w : V) : Prop := ∃ n, n ≤ 60 ∧ c 0 1 = nI n ∧ w 0 7 = nI n ∧ ∀ i, i < n → c 1 i = w 5 i ∧ ∃ k, 32 ≤ k ∧ k ≤ 126 ∧ w 5 i = nI k
def LI (G x s H a b c d p w : V) : Prop := R x (w 1) ∧ HR H a b c d w ∧ SN G s w ∧ TX p w
theorem HR_c {H a b c d w w' : V} (h : HR H a b c d w) (h5 : w' 0 5 = w 0 5) (h4 : w' 4 = w 4) : HR H a b c d w' := by
  obtain ⟨o, n, ho, hn, h1, h2, h3, hR⟩ := h
  exact ⟨o, n, ho, hn, h1, h2, h5.trans h3, fun i hi => by rw [h4]; exact hR i hi⟩
theorem SN_c {G s w w' : V} (h : SN G s w) (h0 : w' 0 3 = w 0 3) (h3 : w' 3 = w 3) : SN G s w' := by
  unfold SN at h ⊢
  rw [h0, h3]
  exact h
theorem TX_c {p w w' : V} (h : TX p w) (h0 : w' 0 7 = w 0 7) (h5 : w' 5 = w 5) : TX p w' := by
  obtain ⟨n, h1, h2, h3, h4⟩ := h
  exact ⟨n, h1, h2, h0.trans h3, fun i hi => by rw [h5]; exact h4 i hi⟩
theorem low_of {r : Int32} (h : ¬ r < 0) : -10000001 < r := by
  rw [Int32.lt_iff_toInt_lt] at h ⊢
  have h0 : (0 : Int32).toInt = 0 := by decide
  have h1 : (-10000001 : Int32).toInt = -10000001 := by decide
  omega
/-- the state at the beginning of a command is kept in row 2 -/
def bg (w : V) : V := fO w 2 0 (w 1) 664
theorem bg_n {w : V} {q : Nat} (h : q ≠ 2) : bg w q = w q := fO_ne h
theorem bg_2 (w : V) {j : Nat} (h : j < 664) : bg w 2 j = w 1 j := by
  unfold bg
  rw [fO_at, if_pos (by omega), Nat.sub_zero]
