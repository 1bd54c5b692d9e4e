/-! PURE 25: the text: signs, digits, numbers -/
/-- the same text on both sides: n signs, c the numbers of its signs, 0 behind the last -/
def Tr (p w : V) (n : Nat) (c : Nat → Nat) : Prop := n ≤ 60 ∧ p 0 1 = nI n ∧ w 0 7 = nI n ∧ (∀ i, i < n → p 1 i = nI (c i) ∧ w 5 i = nI (c i) ∧ 32 ≤ c i ∧ c i ≤ 126) ∧ ∀ i, n ≤ i → c i = 0
theorem Tr.of {p w : V} (h : TX p w) : ∃ n c, Tr p w n c := by
  obtain ⟨n, h1, h2, h3, h4⟩ := h
  refine ⟨n, fun i => if i < n then tn (w 5 i) else 0, h1, h2, h3, fun i hi => ?_, fun i hi => if_neg (by omega)⟩
  obtain ⟨e, k, k1, k2, hk⟩ := h4 i hi
  have q : (if i < n then tn (w 5 i) else 0) = k := by
    rw [if_pos hi, hk, tn_nI (by omega)]
  show p 1 i = nI (if i < n then tn (w 5 i) else 0) ∧ w 5 i = nI (if i < n then tn (w 5 i) else 0) ∧ 32 ≤ (if i < n then tn (w 5 i) else 0) ∧ (if i < n then tn (w 5 i) else 0) ≤ 126
  rw [q, e, hk]
  exact ⟨rfl, rfl, k1, k2⟩
theorem Tr.lt {p w : V} {n : Nat} {c : Nat → Nat} (h : Tr p w n c) (i : Nat) : c i ≤ 126 := by
  by_cases q : i < n
  · exact (h.2.2.2.1 i q).2.2.2
  · rw [h.2.2.2.2 i (by omega)]
    omega
theorem char_nar : ∀ k, k < 127 → narrow .char (.int (nI k)) = .int (nI k) := fun k hk => (pk_charN (by omega)).1
theorem k_sign {p w : V} {n i : Nat} {c : Nat → Nat} {post : Int32 → V → Prop} (h : Tr p w n c) (hi : i < 1000000) : s_X4_signAt p (nI i) post = post (nI (c i)) p := by
  obtain ⟨h1, h2, h3, h4, h5⟩ := h
  unfold s_X4_signAt
  rw [b_f (n_neg (by omega)), h2]
  by_cases q : i < n
  · obtain ⟨e1, e2, e3, e4⟩ := h4 i q
    rw [b_f (nI_ge (by omega) (by omega)), b_f (show ¬ (60 : Int32) ≤ nI i from nI_ge (b := 60) (by omega) (by omega)), b_and (vp_in_nI (by omega) (by decide)), tn_nI (by omega), e1, b_and (char_nar _ (by omega))]
  · rw [b_t (lel (by omega) (by omega)), h5 i (by omega)]
    rfl
/-- what the reference sees at a place -/
def hv (n : Nat) (c : Nat → Nat) (i : Nat) : Int32 := if i < n then nI (c i) else -1
theorem q_here {p w : V} {n i : Nat} {c : Nat → Nat} {post : Int32 → V → Prop} (h : Tr p w n c) (hi : i < 1000000) (h8 : w 0 8 = nI i) : s_X7_here w post = post (hv n c i) w := by
  obtain ⟨h1, h2, h3, h4, h5⟩ := h
  unfold s_X7_here hv
  rw [h3, h8]
  by_cases q : i < n
  · obtain ⟨e1, e2, e3, e4⟩ := h4 i q
    rw [b_f (nI_ge (by omega) (by omega)), b_and (vp_in_nI (by omega) (by decide)), tn_nI (by omega), e2, if_pos q]
  · rw [b_t (lel (by omega) (by omega)), if_neg q]
theorem hv_eq {p w : V} {n i d : Nat} {c : Nat → Nat} (h : Tr p w n c) (hd : 1 ≤ d) (hd2 : d < 1000) : (hv n c i = nI d) = (c i = d) := by
  unfold hv
  by_cases q : i < n
  · rw [if_pos q]
    have := h.lt i
    exact n_eq (by omega) (by omega)
  · rw [if_neg q, h.2.2.2.2 i (by omega)]
    exact propext ⟨fun z => absurd z (n_m1' (by omega)), fun z => by omega⟩
theorem q_hin {p w : V} {n i a b : Nat} {c : Nat → Nat} {post : Int32 → Prop} (h : Tr p w n c) (ha : 1 ≤ a) (ha2 : a < 1000) (hb : b < 1000) : s_X7_in (hv n c i) (nI a) (nI b) post = post (bI (decide (a ≤ c i ∧ c i ≤ b))) := by
  unfold hv
  by_cases q : i < n
  · rw [if_pos q]
    have hl := h.lt i
    by_cases z : a ≤ c i ∧ c i ≤ b
    · rw [q_in_n z.1 z.2 (by omega), decide_eq_true z]
      rfl
    · rw [decide_eq_false z, q_in_f]
      · rfl
      · by_cases z2 : c i < a
        · exact Or.inl (lt_n z2 (by have := h.lt i; omega))
        · exact Or.inr (lt_n (by omega) (by omega))
  · rw [if_neg q, h.2.2.2.2 i (by omega), decide_eq_false (by omega), q_in_f]
    · rfl
    · refine Or.inl ?_
      rw [Int32.lt_iff_toInt_lt]
      have e : (-1 : Int32).toInt = -1 := by decide
      rw [e]
      rw [nI_toInt (by omega)]
      omega
/-- digits: how many from a place on, at most r; their value -/
def dgN (c : Nat → Nat) : Nat → Nat → Nat
  | 0, _ => 0
  | r + 1, i => if 48 ≤ c i ∧ c i ≤ 57 then dgN c r (i + 1) + 1 else 0
def vlN (c : Nat → Nat) : Nat → Nat → Nat → Nat
  | 0, _, a => a
  | k + 1, i, a => vlN c k (i + 1) (10 * a + (c i - 48))
theorem dgN_le (c : Nat → Nat) : ∀ r i, dgN c r i ≤ r
  | 0, _ => Nat.le_refl _
  | r + 1, i => by
    have := dgN_le c r (i + 1)
    rw [dgN]
    split <;> omega
theorem dgN_dig (c : Nat → Nat) : ∀ r i j, j < dgN c r i → 48 ≤ c (i + j) ∧ c (i + j) ≤ 57
  | 0, i, j, h => by
    rw [dgN] at h
    omega
  | r + 1, i, j, h => by
    rw [dgN] at h
    split at h
    · cases j with
      | zero => assumption
      | succ j =>
        have := dgN_dig c r (i + 1) j (by omega)
        rw [show i + 1 + j = i + (j + 1) by omega] at this
        exact this
    · omega
theorem k_dig {k : Nat} {post : Int32 → Prop} (h : k < 1000) : s_X4_isDigit (nI k) post = post (bI (decide (48 ≤ k ∧ k ≤ 57))) := by
  unfold s_X4_isDigit
  by_cases h1 : k < 48
  · rw [b_t (show nI k < 48 from lt_n (n := 48) h1 (by omega)), decide_eq_false (by omega)]
    rfl
  · rw [b_f (show ¬ nI k < 48 from ltl (c := k) (n := 48) (by omega) (by omega))]
    by_cases h2 : 57 < k
    · rw [b_t (show (57 : Int32) < nI k from lt_n (c := 57) h2 (by omega)), decide_eq_false (by omega)]
      rfl
    · rw [b_f (show ¬ (57 : Int32) < nI k from ltl (c := 57) (n := k) (by omega) (by omega)), decide_eq_true (by omega)]
      rfl
theorem k_digits {p w : V} {n i : Nat} {c : Nat → Nat} {post : Int32 → V → Prop} (h : Tr p w n c) (hi : i < 100000) : s_X4_digitsAt p (nI i) post = post (nI (dgN c 4 i)) p := by
  have key : ∀ d k, k + d = 4 → (∃ m, sl_X4_digitsAt_2 post (nI i) (fun x v => post x v) m (nI k) p) = post (nI (k + dgN c d (i + k))) p := by
    intro d
    induction d with
    | zero =>
      intro k hk
      obtain rfl : k = 4 := by omega
      exact xo_X4_digitsAt_2 (fun rec => b_t (show (4 : Int32) ≤ nI 4 by decide))
    | succ d ih =>
      intro k hk
      have hl := h.lt (i + k)
      by_cases q : 48 ≤ c (i + k) ∧ c (i + k) ≤ 57
      · refine (xs_X4_digitsAt_2 (fun rec => ?_)).trans ((ih (k + 1) (by omega)).trans ?_)
        · unfold sb_X4_digitsAt_2
          rw [b_f (show ¬ (4 : Int32) ≤ nI k from nI_ge (b := 4) (by omega) (by omega)), nI_add, k_sign h (by omega), k_dig (by omega), decide_eq_true q, nI_1]
          exact b_f z10
        · rw [dgN, if_pos q, show k + 1 + dgN c d (i + (k + 1)) = k + (dgN c d (i + k + 1) + 1) by rw [Nat.add_assoc i k 1]; omega]
      · rw [dgN, if_neg q, Nat.add_zero]
        refine xo_X4_digitsAt_2 (fun rec => ?_)
        unfold sb_X4_digitsAt_2
        rw [b_f (show ¬ (4 : Int32) ≤ nI k from nI_ge (b := 4) (by omega) (by omega)), nI_add, k_sign h (by omega), k_dig (by omega), decide_eq_false q]
        exact b_t rfl
  have := key 4 0 rfl
  rw [Nat.zero_add, Nat.add_zero] at this
  exact this
theorem dig_step {a k : Nat} (h : 48 ≤ k) : (10 * nI a + nI k) - 48 = nI (10 * a + (k - 48)) := by
  show (nI 10 * nI a + nI k) - nI 48 = _
  rw [pk_mul, nI_add, pk_sub (by omega)]
  congr 1
  omega
theorem k_value {p w : V} {n i K : Nat} {c : Nat → Nat} {post : Int32 → V → Prop} (h : Tr p w n c) (hi : i < 100000) (hK : K ≤ 4) (hd : ∀ j, j < K → 48 ≤ c (i + j)) : s_X4_valueAt p (nI i) (nI K) post = post (nI (vlN c K i 0)) p := by
  have key : ∀ d k a, k + d = K → (∃ m, sl_X4_valueAt_5 post (nI i) (nI K) (fun x _ v => post x v) m (nI a) (nI k) p) = post (nI (vlN c d (i + k) a)) p := by
    intro d
    induction d with
    | zero =>
      intro k a hk
      obtain rfl : k = K := by omega
      exact xo_X4_valueAt_5 (fun rec => b_t (Int32.le_refl _))
    | succ d ih =>
      intro k a hk
      refine (xs_X4_valueAt_5 (fun rec => ?_)).trans ((ih (k + 1) (10 * a + (c (i + k) - 48)) (by omega)).trans ?_)
      · unfold sb_X4_valueAt_5
        rw [b_f (nI_ge (by omega) (by omega)), nI_add, k_sign h (by omega), dig_step (hd k (by omega)), nI_1]
      · rw [vlN, Nat.add_assoc i k 1]
  exact key K 0 0 (by omega)
/-- the reference reads a number -/
theorem Tr.at {p w : V} {n : Nat} {c : Nat → Nat} (h : Tr p w n c) (j : Nat) (x : Int32) (hj : j ≠ 7) : Tr p (st w 0 j x) n c := by
  obtain ⟨h1, h2, h3, h4, h5⟩ := h
  refine ⟨h1, h2, ?_, fun i hi => ?_, h5⟩
  · rw [st1, u_n (fun z => hj z.symm)]
    exact h3
  · rw [st1n (by decide)]
    exact h4 i hi
theorem q_digit {p w : V} {n i : Nat} {c : Nat → Nat} {post : Int32 → V → Prop} (h : Tr p w n c) (hi : i < 1000000) (h8 : w 0 8 = nI i) : s_X7_isDigit w post = post (bI (decide (48 ≤ c i ∧ c i ≤ 57))) w := by
  unfold s_X7_isDigit
  rw [q_here h hi h8]
  show s_X7_in (hv n c i) (nI 48) (nI 57) _ = _
  rw [q_hin h (by omega) (by omega) (by omega)]
  exact b_and (nz _)
theorem st_st0 (w : V) (j : Nat) (x y : Int32) : st (st w 0 j x) 0 j y = st w 0 j y := by
  funext q k
  by_cases hq : q = 0
  · subst hq
    rw [st1, st1, st1]
    by_cases hk : k = j
    · subst hk
      rw [u_s, u_s]
    · rw [u_n hk, u_n hk, u_n hk]
  · rw [st1n hq, st1n hq, st1n hq]
theorem q_numlp {p : V} {n : Nat} {c : Nat → Nat} {post : Int32 → V → Prop} {k0 : Int32 → Int32 → V → Prop} (hk0 : ∀ a b b' v, k0 a b v = k0 a b' v) : ∀ r j i a (w : V), Tr p w n c → j + r = 4 → i < 100000 → w 0 8 = nI i → ¬ w 0 11 = 0 → (∃ m, sl_X7_number_27 post k0 m (nI a) (nI j) w) = k0 (nI (vlN c (dgN c r i) i a)) 0 (st w 0 8 (nI (i + dgN c r i))) := by
  intro r
  induction r with
  | zero =>
    intro j i a w h hj hi h8 h11
    obtain rfl : j = 4 := by omega
    have e : st w 0 8 (nI (i + dgN c 0 i)) = w := by
      rw [show i + dgN c 0 i = i from rfl, ← h8]
      funext q k
      rw [st_eq]
      split
      · rename_i z
        rw [z.1, z.2]
      · rfl
    rw [e]
    exact xo_X7_number_27 (fun rec => (b_t (show (4 : Int32) ≤ nI 4 by decide)).trans (hk0 _ _ _ _))
  | succ r ih =>
    intro j i a w h hj hi h8 h11
    by_cases q : 48 ≤ c i ∧ c i ≤ 57
    · have hin : i < n := by
        by_cases z : i < n
        · exact z
        · have := h.2.2.2.2 i (by omega)
          omega
      have hhv : hv n c i = nI (c i) := if_pos hin
      have hn60 : n ≤ 60 := h.1
      have h11' : ¬ (st w 0 8 (nI (i + 1))) 0 11 = 0 := by
        rw [st1, u_n (by decide)]
        exact h11
      refine (xs_X7_number_27 (fun rec => ?_)).trans ((ih (j + 1) (i + 1) (10 * a + (c i - 48)) (st w 0 8 (nI (i + 1))) (h.at 8 _ (by decide)) (by omega) (by omega) (by rw [st1, u_s]) h11').trans ?_)
      · unfold sb_X7_number_27
        rw [b_f (show ¬ (4 : Int32) ≤ nI j from nI_ge (b := 4) (by omega) (by omega)), b_f h11, q_digit h (by omega) h8, decide_eq_true q]
        refine (b_f z10).trans ?_
        rw [q_here h (by omega) h8, b_all, hhv, dig_step q.1, sc_st, h8, nI_1, nI_1]
      · rw [dgN, if_pos q, vlN, st_st0, show i + 1 + dgN c r (i + 1) = i + (dgN c r (i + 1) + 1) by omega]
    · have e : st w 0 8 (nI (i + dgN c (r + 1) i)) = w := by
        rw [dgN, if_neg q, Nat.add_zero, ← h8]
        funext q k
        rw [st_eq]
        split
        · rename_i z
          rw [z.1, z.2]
        · rfl
      rw [e, dgN, if_neg q]
      refine xo_X7_number_27 (fun rec => ?_)
      unfold sb_X7_number_27
      rw [b_f (show ¬ (4 : Int32) ≤ nI j from nI_ge (b := 4) (by omega) (by omega)), b_f h11, q_digit h (by omega) h8, decide_eq_false q]
      exact (b_t rfl).trans (hk0 _ _ _ _)
/-- a number where there is one -/
theorem q_num_t {p w : V} {n i : Nat} {c : Nat → Nat} {post : Int32 → V → Prop} (h : Tr p w n c) (hi : i < 100000) (h8 : w 0 8 = nI i) (h11 : w 0 11 = 1) (hd : 48 ≤ c i ∧ c i ≤ 57) : s_X7_number w post = post (nI (vlN c (dgN c 4 i) i 0)) (st w 0 8 (nI (i + dgN c 4 i))) := by
  have e : st w 0 11 1 = w := by
    funext q k
    rw [st_eq]
    split
    · rename_i z
      rw [z.1, z.2, h11]
    · rfl
  unfold s_X7_number
  rw [h11, b_f z10, q_digit h (by omega) h8, decide_eq_true hd]
  refine (b_f z10).trans ?_
  rw [b_all, sc_st, e]
  exact q_numlp (fun _ _ _ _ => rfl) 4 0 i 0 w h (by omega) hi h8 (by rw [h11]; exact z10)
/-- no number, or none is wanted any more: the form is broken -/
theorem q_num_f {p w : V} {n i : Nat} {c : Nat → Nat} {post : Int32 → V → Prop} (h : Tr p w n c) (hi : i < 100000) (h8 : w 0 8 = nI i) (hd : w 0 11 = 0 ∨ (w 0 11 = 1 ∧ ¬ (48 ≤ c i ∧ c i ≤ 57))) : s_X7_number w post = post 0 (st w 0 11 0) := by
  have hl : ∀ k0 : Int32 → Int32 → V → Prop, (∃ m, sl_X7_number_27 post k0 m 0 0 (st w 0 11 0)) = k0 0 0 (st w 0 11 0) := fun k0 => by
    refine xo_X7_number_27 (fun rec => ?_)
    unfold sb_X7_number_27
    rw [b_f (by decide), st1, u_s]
    exact b_t rfl
  unfold s_X7_number
  rcases hd with hd | ⟨hd, hq⟩
  · rw [hd, b_t rfl, b_all, sc_st]
    exact hl _
  · rw [hd, b_f z10, q_digit h (by omega) h8, decide_eq_false hq]
    refine (b_t rfl).trans ?_
    rw [b_all, sc_st]
    exact hl _
/-- a sign that is wanted -/
theorem q_sign_t {p w : V} {n i d : Nat} {c : Nat → Nat} {post : V → Prop} (h : Tr p w n c) (hi : i < 100000) (h8 : w 0 8 = nI i) (h11 : w 0 11 = 1) (hd : c i = d) (h1 : 1 ≤ d) (h2 : d < 1000) : s_X7_takesSign w (nI d) post = post (st w 0 8 (nI (i + 1))) := by
  have e : st w 0 11 1 = w := by
    funext q k
    rw [st_eq]
    split
    · rename_i z
      rw [z.1, z.2, h11]
    · rfl
  have hq : hv n c i = nI d := (hv_eq h h1 h2).mpr hd
  unfold s_X7_takesSign
  rw [h11, b_f z10, q_here h (by omega) h8, b_t' hq, b_all, sc_st, e, h11, b_f z10, b_all, sc_st, h8, nI_1]
theorem q_sign_f {p w : V} {n i d : Nat} {c : Nat → Nat} {post : V → Prop} (h : Tr p w n c) (hi : i < 100000) (h8 : w 0 8 = nI i) (hd : w 0 11 = 0 ∨ (w 0 11 = 1 ∧ ¬ c i = d)) (h1 : 1 ≤ d) (h2 : d < 1000) : s_X7_takesSign w (nI d) post = post (st w 0 11 0) := by
  have e8 : (st w 0 11 0) 0 8 = nI i := by
    rw [st1, u_n (by decide)]
    exact h8
  have e : st (st w 0 11 0) 0 8 (nI i) = st w 0 11 0 := by
    funext q k
    rw [st_eq]
    split
    · rename_i z
      rw [z.1, z.2, e8]
    · rfl
  have e11 : (st w 0 11 0) 0 11 = 0 := by rw [st1, u_s]
  unfold s_X7_takesSign
  rcases hd with hd | ⟨hd, hq⟩
  · rw [hd, b_t rfl, b_all, sc_st, e11, b_t rfl, b_all, sc_st, e8, Int32.add_zero, e]
  · have hq' : ¬ hv n c i = nI d := fun z => hq ((hv_eq h h1 h2).mp z)
    rw [hd, b_f z10, q_here h (by omega) h8, b_f' hq', b_all, sc_st, e11, b_t rfl, b_all, sc_st, e8, Int32.add_zero, e]
