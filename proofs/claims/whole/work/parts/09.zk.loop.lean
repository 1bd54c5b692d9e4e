/-! PURE 36: the law's loop comes to its end -/
theorem law_all {xs : Nat → Int32} {L : Nat} (hL2 : L ≤ 2560) : ∀ e i, L ≤ i + e → i ≤ 100000 → ∀ G x y t s H a b c d p w, LI G x s H a b c d p w → ∃ n, sl_L_law_18 xs L (fun _ _ _ _ _ _ _ _ _ _ _ _ _ => True) n (nI i) G x y t s H a b c d p w := by
  intro e
  induction e with
  | zero =>
    intro i he hi G x y t s H a b c d p w _
    refine ⟨1, ?_⟩
    show sb_L_law_18 xs L _ _ (nI i) G x y t s H a b c d p w
    have h5 : (nI L - 5 : Int32) < nI i := by
      rw [Int32.lt_iff_toInt_lt, show (nI L - 5 : Int32) = nI L - nI 5 from rfl, pk_sub_toInt (by omega) (by omega), nI_toInt (by omega)]
      omega
    unfold sb_L_law_18
    rw [b_t h5]
    trivial
  | succ e ih =>
    intro i he hi G x y t s H a b c d p w hL
    by_cases h4 : i + 4 < L
    · obtain ⟨G', x', y', t', s', H', a', b', c', d', p', w', h1, h2⟩ := law_step (xs := xs) (y := y) (t := t) h4 hL2 hL
      obtain ⟨n, hn⟩ := ih (i + 5) (by omega) (by omega) G' x' y' t' s' H' a' b' c' d' p' w' h1
      refine ⟨n + 1, ?_⟩
      show sb_L_law_18 xs L _ _ (nI i) G x y t s H a b c d p w
      rw [h2]
      exact hn
    · refine ⟨1, ?_⟩
      show sb_L_law_18 xs L _ _ (nI i) G x y t s H a b c d p w
      have h5 : (nI L - 5 : Int32) < nI i := by
        rw [Int32.lt_iff_toInt_lt, show (nI L - 5 : Int32) = nI L - nI 5 from rfl, pk_sub_toInt (by omega) (by omega), nI_toInt (by omega)]
        omega
      unfold sb_L_law_18
      rw [b_t h5]
      trivial
