/-! PURE 22: the states that undo can restore -/
theorem fmod4 : ∀ m, m < 8 → 0 ≤ (nI m ^^^ (4 : Int32)) := by decide +kernel
theorem k_fmod {m : Nat} {post : Int32 → Prop} (h : m < 8) : s_J9_floorMod_7cf53 (nI m) 4 post = post (nI (m % 4)) := by
  unfold s_J9_floorMod_7cf53
  rw [b_and (by decide), b_t (fmod4 m h)]
  have := pk_rem (a := m) (d := 4) (by omega) (by omega) (by omega)
  exact congrArg post this
def sl4 (q : Nat) (a b c d : V) : V := if q = 0 then a else if q = 1 then b else if q = 2 then c else d
theorem sl4_ne {a b c d A B C D : V} {p q : Nat} (hp : p < 4) (hq : q < 4) (h : p ≠ q) : sl4 p (if q = 0 then A else a) (if q = 1 then B else b) (if q = 2 then C else c) (if q = 3 then D else d) = sl4 p a b c d := by
  have h1 : p = 0 ∨ p = 1 ∨ p = 2 ∨ p = 3 := by omega
  rcases h1 with rfl | rfl | rfl | rfl
  · show (if q = 0 then A else a) = a
    exact if_neg (by omega)
  · show (if q = 1 then B else b) = b
    exact if_neg (by omega)
  · show (if q = 2 then C else c) = c
    exact if_neg (by omega)
  · show (if q = 3 then D else d) = d
    exact if_neg (by omega)
theorem sl4_eq {a b c d A B C D : V} {q : Nat} (hq : q < 4) : sl4 q (if q = 0 then A else a) (if q = 1 then B else b) (if q = 2 then C else c) (if q = 3 then D else d) = sl4 q A B C D := by
  have h1 : q = 0 ∨ q = 1 ∨ q = 2 ∨ q = 3 := by omega
  rcases h1 with rfl | rfl | rfl | rfl <;> rfl
theorem sl4_cp (q : Nat) (a b c d x : V) : sl4 q (cpM a x) (cpM b x) (cpM c x) (cpM d x) = cpM (sl4 q a b c d) x := by
  unfold sl4
  split
  · rfl
  · split
    · rfl
    · split <;> rfl
theorem i40 : (nI 0 = 0) = True := eq_true rfl
/-- one state more, where there is room -/
theorem push_in {H a b c d x : V} {o n : Nat} {post : V → V → V → V → V → V → Prop} (h1 : H 0 1 = nI o) (h2 : H 0 2 = nI n) (ho : o < 4) (hn : n < 4) : s_X0_push H a b c d x post = post (st H 0 2 (nI (n + 1))) (if (o + n) % 4 = 0 then cpM a x else a) (if (o + n) % 4 = 1 then cpM b x else b) (if (o + n) % 4 = 2 then cpM c x else c) (if (o + n) % 4 = 3 then cpM d x else d) x := by
  have hn4 : (nI n = 4) = False := eq_false (show ¬ nI n = nI 4 by rw [n_eq (by omega) (by omega)]; omega)
  have hq : (o + n) % 4 < 4 := by omega
  have hv : vp_in (nI ((o + n) % 4)) 4 := vp_in_nI hq (by decide)
  unfold s_X0_push
  simp only [h1, h2, hn4, nI_add, k_fmod (show o + n < 8 by omega), hv, k_copy, sc_st, nI_1, forall_eq, not_false_eq_true, not_true_eq_false, true_implies, false_implies, and_true, true_and]
  generalize (o + n) % 4 = q at hq
  have h4 : q = 0 ∨ q = 1 ∨ q = 2 ∨ q = 3 := by omega
  rcases h4 with rfl | rfl | rfl | rfl
  · simp only [L0_0, L0_1, L0_2, L0_3, true_implies, false_implies, and_true, true_and]
    rfl
  · simp only [L1_0, L1_1, L1_2, L1_3, true_implies, false_implies, and_true, true_and]
    rfl
  · simp only [L2_0, L2_1, L2_2, L2_3, true_implies, false_implies, and_true, true_and]
    rfl
  · simp only [L3_0, L3_1, L3_2, L3_3, true_implies, false_implies, and_true, true_and]
    rfl
/-- one state more, where there is none: the oldest gives way -/
theorem push_full {H a b c d x : V} {o : Nat} {post : V → V → V → V → V → V → Prop} (h1 : H 0 1 = nI o) (h2 : H 0 2 = nI 4) (ho : o < 4) : s_X0_push H a b c d x post = s_X0_push (st (st H 0 1 (nI ((o + 1) % 4))) 0 2 (nI 3)) a b c d x post := by
  have hr := pk_rem (a := o + 1) (d := 4) (by omega) (by omega) (by omega)
  have hr' : nI (o + 1) - nI (o + 1) / 4 * 4 = nI ((o + 1) % 4) := hr
  have h43 : (nI 4 - 1 : Int32) = nI 3 := by decide
  have g1 : (st (st H 0 1 (nI ((o + 1) % 4))) 0 2 (nI 3)) 0 1 = nI ((o + 1) % 4) := by simp (disch := omega) only [st1, u_s, u_n]
  have g2 : (st (st H 0 1 (nI ((o + 1) % 4))) 0 2 (nI 3)) 0 2 = nI 3 := by simp (disch := omega) only [st1, u_s, u_n]
  have n34 : (nI 3 = 4) = False := L3_4
  conv => rhs; unfold s_X0_push
  unfold s_X0_push
  simp (disch := omega) only [h1, h2, g1, g2, L4_4, L3_4, nI_1, hr', sc_st, st1, u_s, u_n, h43, forall_eq, not_false_eq_true, not_true_eq_false, true_implies, false_implies, and_true, true_and]
/-- the ring and the reference's rows -/
def HR (H a b c d w : V) : Prop := ∃ o n, o < 4 ∧ n ≤ 4 ∧ H 0 1 = nI o ∧ H 0 2 = nI n ∧ w 0 5 = nI n ∧ ∀ i, i < n → R (sl4 ((o + i) % 4) a b c d) (fun j => w 4 (664 * i + j))
theorem l664 (n k : Nat) : 664 * nI n + nI k = nI (664 * n + k) := by
  show nI 664 * nI n + nI k = _
  rw [pk_mul, nI_add]
theorem act_put {w : V} {n : Nat} {a : Int32} {post : Int32 → V → Prop} {k0 : Int32 → V → Prop} (hn : n < 4) (h5 : w 0 5 = nI n) : (∃ m, sl_X7_acted_63 post a k0 m 0 w) = k0 (nI 664) (fO w 4 (664 * n) (w 2) 664) := by
  have key : ∀ d k, k + d = 664 → (∃ m, sl_X7_acted_63 post a k0 m (nI k) (fO w 4 (664 * n) (w 2) k)) = k0 (nI 664) (fO w 4 (664 * n) (w 2) 664) := by
    intro d
    induction d with
    | zero =>
      intro k h
      obtain rfl : k = 664 := by omega
      exact xo_X7_acted_63 (fun rec => b_t (show (664 : Int32) ≤ nI 664 by decide))
    | succ d ih =>
      intro k h
      refine (xs_X7_acted_63 (fun rec => ?_)).trans (ih (k + 1) (by omega))
      unfold sb_X7_acted_63
      rw [b_f (show ¬ (664 : Int32) ≤ nI k from nI_ge (b := 664) (by omega) (by omega)), b_and (vp_in_nI (by omega) (by decide)), fO_ne (by decide), h5, l664, b_and (vp_in_nI (by omega) (by decide)), b_all, tn_nI (by omega), tn_nI (by omega), nI_1, fO_ne (by decide), fO_s]
  have h := key 664 0 rfl
  rw [fO_0] at h
  exact h
theorem act_shift {w : V} {a : Int32} {post : Int32 → V → Prop} {k0 : Int32 → V → Prop} : (∃ m, sl_X7_acted_22 post a k0 m 0 w) = k0 (nI 1992) (fO w 4 0 (fun j => w 4 (j + 664)) 1992) := by
  have key : ∀ d k, k + d = 1992 → (∃ m, sl_X7_acted_22 post a k0 m (nI k) (fO w 4 0 (fun j => w 4 (j + 664)) k)) = k0 (nI 1992) (fO w 4 0 (fun j => w 4 (j + 664)) 1992) := by
    intro d
    induction d with
    | zero =>
      intro k h
      obtain rfl : k = 1992 := by omega
      exact xo_X7_acted_22 (fun rec => b_t (show (1992 : Int32) ≤ nI 1992 by decide))
    | succ d ih =>
      intro k h
      refine (xs_X7_acted_22 (fun rec => ?_)).trans (ih (k + 1) (by omega))
      have e : nI k + 664 = nI (k + 664) := nI_add k 664
      unfold sb_X7_acted_22
      rw [b_f (show ¬ (1992 : Int32) ≤ nI k from nI_ge (b := 1992) (by omega) (by omega)), e, b_and (vp_in_nI (by omega) (by decide)), b_and (vp_in_nI (by omega) (by decide)), b_all, tn_nI (by omega), tn_nI (by omega), nI_1, fO_at w 4 0 _ k (k + 664), if_neg (by omega)]
      have hs := fO_s w 4 0 (fun j => w 4 (j + 664)) k
      rw [Nat.zero_add] at hs
      rw [hs]
  have h := key 1992 0 rfl
  rw [fO_0] at h
  exact h
def actW (w : V) (n : Nat) : V := st (fO w 4 (664 * n) (w 2) 664) 0 5 (nI (n + 1))
def shW (w : V) : V := st (fO w 4 0 (fun j => w 4 (j + 664)) 1992) 0 5 (nI 3)
theorem q_act_in {w : V} {r : Int32} {n : Nat} {post : Int32 → V → Prop} (hr : -10000001 < r) (hn : n < 4) (h5 : w 0 5 = nI n) : s_X7_acted w r post = post r (actW w n) := by
  have hn4 : ¬ nI n = 4 := show ¬ nI n = nI 4 by rw [n_eq (by omega) (by omega)]; omega
  unfold s_X7_acted
  rw [b_t hr, h5, b_f' hn4, act_put hn h5]
  simp only [forall_eq, sc_st]
  rw [fO_ne (by decide), h5, nI_1]
  rfl
theorem q_act_full {w : V} {r : Int32} {post : Int32 → V → Prop} (hr : -10000001 < r) (h5 : w 0 5 = nI 4) : s_X7_acted w r post = post r (actW (shW w) 3) := by
  have h43 : (nI 4 - 1 : Int32) = nI 3 := by decide
  unfold s_X7_acted
  rw [b_t hr, h5, b_t' (show nI 4 = 4 from rfl), act_shift]
  simp only [forall_eq, sc_st]
  rw [fO_ne (by decide), h5, h43]
  have e : (shW w) 0 5 = nI 3 := by
    unfold shW
    rw [st1, u_s]
  have := act_put (w := shW w) (n := 3) (a := r) (post := post) (k0 := fun x2 v => post r (st v 0 5 (v 0 5 + 1))) (by omega) e
  refine Eq.trans this ?_
  rw [fO_ne (by decide), e, nI_1]
  rfl
theorem q_act_err {w : V} {r : Int32} {post : Int32 → V → Prop} (hr : ¬ -10000001 < r) : s_X7_acted w r post = post r (fO w 1 0 (w 2) 664) := by
  unfold s_X7_acted
  rw [b_f hr, q_returns]
theorem actW_4 (w : V) (n j : Nat) (hj : j < 664) : (actW w n) 4 (664 * n + j) = w 2 j := by
  unfold actW
  rw [st1n (by decide), fO_at, if_pos (by omega), show 664 * n + j - 664 * n = j by omega]
theorem actW_4o (w : V) (n i : Nat) (hi : i < 664 * n) : (actW w n) 4 i = w 4 i := by
  unfold actW
  rw [st1n (by decide), fO_at, if_neg (by omega)]
theorem actW_n (w : V) (n q : Nat) (h4 : q ≠ 4) (h0 : q ≠ 0) : (actW w n) q = w q := by
  unfold actW
  rw [st1n h0, fO_ne h4]
theorem actW_0 (w : V) (n j : Nat) : (actW w n) 0 j = if j = 5 then nI (n + 1) else w 0 j := by
  unfold actW
  rw [st1]
  by_cases h : j = 5
  · subst h
    rw [u_s, if_pos rfl]
  · rw [u_n h, fO_ne (by decide), if_neg h]
theorem shW_n (w : V) (q : Nat) (h4 : q ≠ 4) (h0 : q ≠ 0) : (shW w) q = w q := by
  unfold shW
  rw [st1n h0, fO_ne h4]
theorem shW_0 (w : V) (j : Nat) : (shW w) 0 j = if j = 5 then nI 3 else w 0 j := by
  unfold shW
  rw [st1]
  by_cases h : j = 5
  · subst h
    rw [u_s, if_pos rfl]
  · rw [u_n h, fO_ne (by decide), if_neg h]
theorem shW_4 (w : V) (j : Nat) (hj : j < 1992) : (shW w) 4 j = w 4 (j + 664) := by
  unfold shW
  rw [st1n (by decide), fO_at, if_pos (by omega), Nat.sub_zero]
/-- recording a state, on both sides -/
theorem record_in {H a b c d x w : V} {o n : Nat} (ho : o < 4) (hn : n < 4) (h1 : H 0 1 = nI o) (h2 : H 0 2 = nI n) (h5 : w 0 5 = nI n) (hR : ∀ i, i < n → R (sl4 ((o + i) % 4) a b c d) (fun j => w 4 (664 * i + j))) (hx : R x (w 2)) : HR (st H 0 2 (nI (n + 1))) (if (o + n) % 4 = 0 then cpM a x else a) (if (o + n) % 4 = 1 then cpM b x else b) (if (o + n) % 4 = 2 then cpM c x else c) (if (o + n) % 4 = 3 then cpM d x else d) (actW w n) := by
  refine ⟨o, n + 1, ho, by omega, ?_, ?_, ?_, fun i hi => ?_⟩
  · rw [st1, u_n (by decide)]
    exact h1
  · rw [st1, u_s]
  · rw [actW_0, if_pos rfl]
  · by_cases q : i = n
    · subst q
      rw [sl4_eq (by omega), sl4_cp]
      exact R_s (R_v hx (Ag_copy _ _)) (fun j hj => actW_4 w i j hj)
    · rw [sl4_ne (by omega) (by omega) (by omega)]
      exact R_s (hR i (by omega)) (fun j hj => actW_4o w n _ (by omega))
theorem record {H a b c d x w : V} {r : Int32} (h : HR H a b c d w) (hx : R x (w 2)) (hr : -10000001 < r) : ∃ H' a' b' c' d' w', (∀ post, s_X0_push H a b c d x post = post H' a' b' c' d' x) ∧ (∀ post, s_X7_acted w r post = post r w') ∧ HR H' a' b' c' d' w' ∧ (∀ q, q ≠ 0 → q ≠ 4 → w' q = w q) ∧ (∀ j, j ≠ 5 → w' 0 j = w 0 j) := by
  obtain ⟨o, n, ho, hn, h1, h2, h5, hR⟩ := h
  by_cases hn4 : n = 4
  · subst hn4
    have g1 : (st (st H 0 1 (nI ((o + 1) % 4))) 0 2 (nI 3)) 0 1 = nI ((o + 1) % 4) := by simp (disch := omega) only [st1, u_s, u_n]
    have g2 : (st (st H 0 1 (nI ((o + 1) % 4))) 0 2 (nI 3)) 0 2 = nI 3 := by simp (disch := omega) only [st1, u_s, u_n]
    have e5 : (shW w) 0 5 = nI 3 := by rw [shW_0, if_pos rfl]
    refine ⟨_, _, _, _, _, _, fun post => (push_full h1 h2 ho).trans (push_in g1 g2 (by omega) (by omega)), fun post => q_act_full hr h5, record_in (by omega) (by omega) g1 g2 e5 (fun i hi => ?_) (by rw [shW_n w 2 (by decide) (by decide)]; exact hx), fun q q0 q4 => ?_, fun j hj => ?_⟩
    · have := hR (i + 1) (by omega)
      rw [show ((o + 1) % 4 + i) % 4 = (o + (i + 1)) % 4 by omega]
      exact R_s this (fun j hj => by
        show (shW w) 4 (664 * i + j) = w 4 (664 * (i + 1) + j)
        rw [shW_4 w _ (by omega), show 664 * i + j + 664 = 664 * (i + 1) + j by omega])
    · rw [actW_n _ _ _ q4 q0, shW_n _ _ q4 q0]
    · rw [actW_0, if_neg hj, shW_0, if_neg hj]
  · exact ⟨_, _, _, _, _, _, fun post => push_in h1 h2 ho (by omega), fun post => q_act_in hr (by omega) h5, record_in ho (by omega) h1 h2 h5 hR hx, fun q q0 q4 => actW_n _ _ _ q4 q0, fun j hj => by rw [actW_0, if_neg hj]⟩
