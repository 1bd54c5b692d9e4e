/-! PURE 29: the text: one command -/
theorem wch0 : ∀ q, q < 7 → ∀ k, k < 7 → wch q 0 = wch k 0 → q = k := by decide
theorem wln_b (q : Nat) : 1 ≤ wln q ∧ wln q ≤ 5 := by
  unfold wln
  split <;> omega
theorem WD_one {c : Nat → Nat} {i q k : Nat} (hq : q < 7) (hk : k < 7) (h1 : WD c i q) (h2 : WD c i k) : q = k := by
  have b1 := wln_b q
  have b2 := wln_b k
  exact wch0 q hq k hk ((h1 0 (by omega)).symm.trans (h2 0 (by omega)))
theorem wv_lt (c : Nat → Nat) (i : Nat) : ∀ k, (∀ j, j < k → lt_ c (i + j)) → wv c i k < 32 ^ k
  | 0, _ => by
    show 0 < 32 ^ 0
    decide
  | k + 1, h => by
    have h1 := wv_lt c i k (fun j hj => h j (by omega))
    have h2 := h k (by omega)
    unfold lt_ at h2
    rw [wv, Nat.pow_succ]
    omega
theorem k_read_t {p w : V} {n i q : Nat} {c : Nat → Nat} {post : Int32 → V → Prop} (h : Tr p w n c) (hi : i ≤ 100) (hq : q < 7) (hw : WD c i q) : s_X4_readCommand p (nI i) post = s_X4_readNumbers (st p 0 2 (nI q)) (nI (i + wln q)) (nI (hmN q)) (fun r v => narrow .boolean (.int r) = .int r ∧ post r v) := by
  have key : ∀ d k, k + d = q → (∃ m, sl_X4_readCommand_2 post (nI i) (fun _ v => post 0 v) m (nI k) p) = s_X4_readNumbers (st p 0 2 (nI q)) (nI (i + wln q)) (nI (hmN q)) (fun r v => narrow .boolean (.int r) = .int r ∧ post r v) := by
    intro d
    induction d with
    | zero =>
      intro k hk
      obtain rfl : k = q := by omega
      refine xo_X4_readCommand_2 (fun rec => ?_)
      unfold sb_X4_readCommand_2
      rw [b_f (show ¬ (7 : Int32) ≤ nI k from nI_ge (b := 7) (by omega) (by omega)), k_wordOf hq, k_word_t h (by omega) hq hw, b_f z10, b_all, b_and hq, k_len hq, k_many hq, sc_st, nI_add]
    | succ d ih =>
      intro k hk
      have hn : ¬ WD c i k := fun z => by
        have := WD_one hq (show k < 7 by omega) hw z
        omega
      refine (xs_X4_readCommand_2 (fun rec => ?_)).trans (ih (k + 1) (by omega))
      unfold sb_X4_readCommand_2
      rw [b_f (show ¬ (7 : Int32) ≤ nI k from nI_ge (b := 7) (by omega) (by omega)), k_wordOf (by omega), k_word_f h (by omega) (by omega) hn, b_t z00, nI_1]
  exact key q 0 (by omega)
theorem k_read_f {p w : V} {n i : Nat} {c : Nat → Nat} {post : Int32 → V → Prop} (h : Tr p w n c) (hi : i ≤ 100) (hw : ∀ q, q < 7 → ¬ WD c i q) : s_X4_readCommand p (nI i) post = post 0 p := by
  have key : ∀ d k, k + d = 7 → (∃ m, sl_X4_readCommand_2 post (nI i) (fun _ v => post 0 v) m (nI k) p) = post 0 p := by
    intro d
    induction d with
    | zero =>
      intro k hk
      obtain rfl : k = 7 := by omega
      exact xo_X4_readCommand_2 (fun rec => b_t (show (7 : Int32) ≤ nI 7 by decide))
    | succ d ih =>
      intro k hk
      refine (xs_X4_readCommand_2 (fun rec => ?_)).trans (ih (k + 1) (by omega))
      unfold sb_X4_readCommand_2
      rw [b_f (show ¬ (7 : Int32) ≤ nI k from nI_ge (b := 7) (by omega) (by omega)), k_wordOf (by omega), k_word_f h (by omega) (by omega) (hw k (by omega)), b_t z00, nI_1]
  exact key 7 0 rfl
theorem rn_eq {p : V} {x y : Int32} {post : Int32 → V → Prop} : s_X4_readNumbers p x y post = (∃ m, sl_X4_readNumbers_5 post y (fun x3 _ v15 => s_X4_signAt (st v15 0 4 (x3 + 1)) x3 (fun r17 v18 => (¬ r17 = 59 → post 0 v18) ∧ (r17 = 59 → post 1 v18))) m x 0 p) := by
  unfold s_X4_readNumbers
  simp only [forall_eq, sc_st]
/-- no blank behind the word -/
theorem rn_bad {p w : V} {n i M : Nat} {c : Nat → Nat} {post : Int32 → V → Prop} (h : Tr p w n c) (hi : i ≤ 1000) (hM : 1 ≤ M) (hM4 : M ≤ 4) (hc : ¬ c i = 32) : s_X4_readNumbers p (nI i) (nI M) post = post 0 p := by
  have hlt := h.lt i
  rw [rn_eq]
  refine xo_X4_readNumbers_5 (fun rec => ?_)
  unfold sb_X4_readNumbers_5
  rw [b_f (show ¬ nI M ≤ 0 from nI_nle (by omega) (by omega)), b_f (show ¬ (4 : Int32) ≤ 0 by decide), nI_1, k_digits h (by omega), k_sign h (by omega), b_f' (show ¬ nI (c i) = 32 from (show ¬ nI (c i) = nI 32 by rw [n_eq (by omega) (by omega)]; exact hc))]
/-- the reference's way through one command -/
def rfW (w : V) (post : Int32 → V → Prop) (a : Int32) (FK : Int32 → V → Prop) : Prop := s_X7_word w (fun r3 v4 => s_X7_sort r3 (fun r5 => (r5 ≤ 0 → (∃ n, sl_X7_does_49 post a r5 (fun _ v16 => s_X7_takesSign v16 59 (FK r5)) n 0 (st v4 0 11 0))) ∧ (¬ r5 ≤ 0 → (∃ n, sl_X7_does_49 post a r5 (fun _ v16 => s_X7_takesSign v16 59 (FK r5)) n 0 (st v4 0 11 1)))))
def sameQ (p' p : V) : Prop := p' 1 = p 1 ∧ ∀ j, j ≠ 4 → j ≠ 2 → p' 0 j = p 0 j
theorem sameP.q {a b c : V} (h : sameP a b) (h2 : sameQ b c) : sameQ a c := ⟨h.1.trans h2.1, fun j h4 h22 => (h.2 j h4).trans (h2.2 j h4 h22)⟩
theorem sameQ.k (p : V) (x : Int32) : sameQ (st p 0 2 x) p := ⟨st1n (by decide), fun j _ h2 => by rw [st1, u_n h2]⟩
theorem Tr.kq {p w : V} {n : Nat} {c : Nat → Nat} (h : Tr p w n c) (x : Int32) : Tr (st p 0 2 x) w n c := by
  obtain ⟨h1, h2, h3, h4, h5⟩ := h
  refine ⟨h1, ?_, h3, fun i hi => ?_, h5⟩
  · rw [st1, u_n (by decide)]
    exact h2
  · rw [st1n (by decide)]
    exact h4 i hi
theorem cmd {p w : V} {n i : Nat} {c : Nat → Nat} (h : Tr p w n c) (hi : i < n) (h8 : w 0 8 = nI i) :
  (∃ q p' w' e, q < 7 ∧ (∀ post, s_X4_readCommand p (nI i) post = post 1 p') ∧ (∀ post FK, rfW w post (nI i) FK = FK (nI (q + 1)) w') ∧ sameQ p' p ∧ sameW w' w ∧ p' 0 2 = nI q ∧ p' 0 4 = nI e ∧ w' 0 8 = nI e ∧ w' 0 11 = 1 ∧ i + 7 ≤ e ∧ e ≤ n ∧ ∀ k, k < hmN q → ∃ z, z < 100000 ∧ p' 2 k = nI z ∧ w' 6 k = nI z) ∨
  (∃ p' w' F, (∀ post, s_X4_readCommand p (nI i) post = post 0 p') ∧ (∀ post FK, rfW w post (nI i) FK = FK F w') ∧ sameQ p' p ∧ sameW w' w ∧ w' 0 11 = 0) := by
  have hn60 : n ≤ 60 := h.1
  obtain ⟨m, hrun, hend, hmn⟩ := run_ex h i
  have hm60 : m ≤ 60 := by omega
  have hT1 : Tr p (st w 0 8 (nI (i + m))) n c := h.at 8 _ (by decide)
  have h18 : (st w 0 8 (nI (i + m))) 0 8 = nI (i + m) := by rw [st1, u_s]
  by_cases hq : ∃ q, q < 7 ∧ m = wln q ∧ WD c i q
  · obtain ⟨q, hq, rfl, hw⟩ := hq
    have hb := wln_b q
    have hw4 : 4 ≤ wln q := by
      unfold wln
      split <;> omega
    have hhm := hmN_le q hq
    have hI : wI c i (wln q) = nI (cvN q) := by
      unfold wI
      rw [if_pos hb.2, wv_of hq hw]
    have hneg : ¬ nI (q + 1) ≤ 0 := nI_nle (by omega) (by omega)
    have hs1 : sameW (st (st w 0 8 (nI (i + wln q))) 0 11 1) w := (sameW.s11 _ _).tr (sameW.s8 _ _)
    have hT2 : Tr (st p 0 2 (nI q)) (st (st w 0 8 (nI (i + wln q))) 0 11 1) n c := (h.same (sameP.rf p) hs1).kq (nI q)
    have h28 : (st (st w 0 8 (nI (i + wln q))) 0 11 1) 0 8 = nI (i + wln q) := by rw [st1, u_n (by decide)]; exact h18
    have h211 : (st (st w 0 8 (nI (i + wln q))) 0 11 1) 0 11 = 1 := by rw [st1, u_s]
    have hrf : ∀ post a FK, rfW w post a FK = (∃ r, sl_X7_does_49 post a (nI (q + 1)) (fun _ v16 => s_X7_takesSign v16 59 (FK (nI (q + 1)))) r 0 (st (st w 0 8 (nI (i + wln q))) 0 11 1)) := fun post a FK => by
      unfold rfW
      rw [q_word h (by omega) h8 hrun hend hm60, hI, q_sort_t hq, b_f hneg]
    have hcl : ∀ post, s_X4_readCommand p (nI i) post = s_X4_readNumbers (st p 0 2 (nI q)) (nI (i + wln q)) (nI (hmN q)) (fun r v => narrow .boolean (.int r) = .int r ∧ post r v) := fun post => k_read_t h (by omega) hq hw
    rcases form_num (n := n) (M := hmN q) (c := c) (F := nI (q + 1)) (a := nI i) hhm.2 (fun post => q_wants hq) (hmN q) 0 (i + wln q) (st p 0 2 (nI q)) (st (st w 0 8 (nI (i + wln q))) 0 11 1) (by omega) hT2 (by omega) h28 h211 with ⟨p', w', e, a1, a2, a3, a4, a5, a6, a7, a8, a9, a10, a11⟩ | ⟨p', w', a1, a2, a3, a4, a5⟩
    · refine Or.inl ⟨q, p', w', e, hq, fun post => ?_, fun post FK => ?_, a3.q (sameQ.k p _), a4.tr hs1, ?_, a5, a6, a7, by omega, a9, fun k hk => a11 k (Nat.zero_le _) hk⟩
      · rw [hcl, rn_eq]
        exact (a1 (fun r v => narrow .boolean (.int r) = .int r ∧ post r v)).trans (b_and (nz true))
      · rw [hrf]
        exact a2 post (FK (nI (q + 1)))
      · rw [a3.2 2 (by decide), st1, u_s]
    · refine Or.inr ⟨p', w', nI (q + 1), fun post => ?_, fun post FK => ?_, a3.q (sameQ.k p _), a4.tr hs1, a5⟩
      · rw [hcl, rn_eq]
        exact (a1 (fun r v => narrow .boolean (.int r) = .int r ∧ post r v)).trans (b_and (nz false))
      · rw [hrf]
        exact a2 post (FK (nI (q + 1)))
  · have hs1 : sameW (st (st w 0 8 (nI (i + m))) 0 11 0) w := (sameW.s11 _ _).tr (sameW.s8 _ _)
    have hT2 : Tr p (st (st w 0 8 (nI (i + m))) 0 11 0) n c := h.same (sameP.rf p) hs1
    have h28 : (st (st w 0 8 (nI (i + m))) 0 11 0) 0 8 = nI (i + m) := by rw [st1, u_n (by decide)]; exact h18
    have h211 : (st (st w 0 8 (nI (i + m))) 0 11 0) 0 11 = 0 := by rw [st1, u_s]
    have hno : ∀ q, q < 7 → ¬ wI c i m = nI (cvN q) := fun q hq7 z => by
      unfold wI at z
      by_cases h5 : m ≤ 5
      · rw [if_pos h5] at z
        have hlt := wv_lt c i m hrun
        have hp : 32 ^ m ≤ 32 ^ 5 := Nat.pow_le_pow_right (by decide) h5
        have hc : ∀ q, q < 7 → cvN q < 100000000 := by decide
        have hcq := hc q hq7
        rw [n_eq (by omega) (by omega)] at z
        obtain ⟨e1, e2⟩ := wv_to hq7 h5 hrun z
        exact hq ⟨q, hq7, e1, e2⟩
      · rw [if_neg h5] at z
        have hc : ∀ q, q < 7 → cvN q < 100000000 := by decide
        have hcq := hc q hq7
        exact n_m1' (by omega) z
    obtain ⟨w', a1, a2, a3⟩ := form_brk (p := p) (a := nI i) (F := 0) (M := 1) (by omega) (fun post => q_wants0) (i := i + m) (by omega) 1 0 _ (by omega) hT2 h28 h211
    have hrf : ∀ post FK, rfW w post (nI i) FK = FK 0 w' := fun post FK => by
      unfold rfW
      rw [q_word h (by omega) h8 hrun hend hm60, q_sort_f hno, b_t (Int32.le_refl _)]
      exact a1 post (FK 0)
    by_cases hw : ∃ q, q < 7 ∧ WD c i q
    · obtain ⟨q, hq7, hw⟩ := hw
      have hb := wln_b q
      have hhm := hmN_le q hq7
      have hml : wln q < m := by
        rcases Nat.lt_trichotomy m (wln q) with z | z | z
        · exact absurd (WD_lt hq7 hw m z) hend
        · exact absurd ⟨q, hq7, z, hw⟩ hq
        · exact z
      have hlt := hrun (wln q) hml
      unfold lt_ at hlt
      refine Or.inr ⟨st p 0 2 (nI q), w', 0, fun post => ?_, hrf, sameQ.k p _, a2.tr hs1, a3⟩
      rw [k_read_t h (by omega) hq7 hw, rn_bad (h.kq (nI q)) (by omega) hhm.1 hhm.2 (by omega)]
      exact b_and (nz false)
    · exact Or.inr ⟨p, w', 0, fun post => k_read_f h (by omega) (fun q hq7 z => hw ⟨q, hq7, z⟩), hrf, ⟨rfl, fun _ _ _ => rfl⟩, a2.tr hs1, a3⟩
