/-! PURE 27: the text: words -/
def wdL : List (List Nat) := [[108, 101, 110, 100], [98, 97, 99, 107], [107, 101, 101, 112], [115, 101, 108, 108], [103, 114, 97, 100, 101], [114, 97, 116, 101], [119, 97, 105, 116]]
def wln (q : Nat) : Nat := if q = 4 then 5 else 4
def wch (q k : Nat) : Nat := (wdL.getD q []).getD k 0
theorem wch_ok : ∀ q, q < 7 → ∀ k, k < wln q → ((((litByt.getD q []).getD k 0 &&& 255) : Int32).toUInt32 % 65536).toInt32 = nI (wch q k) ∧ 97 ≤ wch q k ∧ wch q k ≤ 122 := by decide +kernel
theorem wln_ok : ∀ q, q < 7 → litLen.getD q 0 = wln q := by decide +kernel
theorem k_len {q : Nat} {post : Int32 → Prop} (hq : q < 7) : s_J0_length_8abf5 q post = post (nI (wln q)) := by
  unfold s_J0_length_8abf5 s_J0_coder_7d493
  rw [b_and hq, b_and hq, b_and hq, b_and hq, wln_ok q hq]
  have h2 : ∀ q, q < 7 → nI (wln q) >>> ((0 : Int32) &&& 31) = nI (wln q) := by decide +kernel
  exact congrArg post (h2 q hq)
theorem k_chr {q k : Nat} {post : Int32 → Prop} (hq : q < 7) (hk : k < wln q) : s_J0_charAt_5068e q (nI k) post = post (nI (wch q k)) := by
  obtain ⟨e, e1, e2⟩ := wch_ok q hq k hk
  have hl : wln q ≤ 5 := by
    unfold wln
    split <;> omega
  unfold s_J0_charAt_5068e s_J0_isLatin1_aae02 s_J1_charAt_3b067 s_J0_checkIndex_df160 s_J3_checkIndex_8e157
  simp only [hq, true_and, e10, not_false_eq_true, false_implies, true_implies]
  rw [b_f (n_neg (by omega)), wln_ok q hq, b_t (lt_n hk (by omega)), b_and (vp_in_nI hk (by omega)), tn_nI (by omega), e, b_and (char_nar _ (by omega)), b_and (char_nar _ (by omega))]
/-- a word stands at a place -/
def WD (c : Nat → Nat) (i q : Nat) : Prop := ∀ k, k < wln q → c (i + k) = wch q k
theorem k_word_t {p w : V} {n i q : Nat} {c : Nat → Nat} {post : Int32 → V → Prop} (h : Tr p w n c) (hi : i < 100000) (hq : q < 7) (hw : WD c i q) : s_X4_isWordAt p q (nI i) post = post 1 p := by
  have hl : wln q ≤ 5 := by
    unfold wln
    split <;> omega
  have key : ∀ d k, k + d = wln q → (∃ m, sl_X4_isWordAt_2 post q (nI i) (fun _ v => post 1 v) m (nI k) p) = post 1 p := by
    intro d
    induction d with
    | zero =>
      intro k hk
      obtain rfl : k = wln q := by omega
      refine xo_X4_isWordAt_2 (fun rec => ?_)
      unfold sb_X4_isWordAt_2
      rw [b_and hq, k_len hq, b_t (Int32.le_refl _)]
    | succ d ih =>
      intro k hk
      refine (xs_X4_isWordAt_2 (fun rec => ?_)).trans (ih (k + 1) (by omega))
      unfold sb_X4_isWordAt_2
      rw [b_and hq, k_len hq, b_f (nI_ge (by omega) (by omega)), nI_add, k_sign h (by omega), b_and hq, k_chr hq (by omega), b_t (show nI (c (i + k)) = nI (wch q k) by rw [hw k (by omega)]), nI_1]
  exact key (wln q) 0 (by omega)
theorem k_word_f {p w : V} {n i q : Nat} {c : Nat → Nat} {post : Int32 → V → Prop} (h : Tr p w n c) (hi : i < 100000) (hq : q < 7) (hw : ¬ WD c i q) : s_X4_isWordAt p q (nI i) post = post 0 p := by
  have hl : wln q ≤ 5 := by
    unfold wln
    split <;> omega
  have hex : ∃ k, k < wln q ∧ ¬ c (i + k) = wch q k := by
    apply Classical.byContradiction
    intro z
    exact hw (fun k hk => Classical.byContradiction (fun z2 => z ⟨k, hk, z2⟩))
  obtain ⟨b, hb, hb2, hb3⟩ := least hex
  have key : ∀ d k, k + d = b → (∃ m, sl_X4_isWordAt_2 post q (nI i) (fun _ v => post 1 v) m (nI k) p) = post 0 p := by
    intro d
    induction d with
    | zero =>
      intro k hk
      obtain rfl : k = b := by omega
      refine xo_X4_isWordAt_2 (fun rec => ?_)
      have h1 := h.lt (i + k)
      have h2 := (wch_ok q hq k hb).2.2
      unfold sb_X4_isWordAt_2
      rw [b_and hq, k_len hq, b_f (nI_ge (by omega) (by omega)), nI_add, k_sign h (by omega), b_and hq, k_chr hq hb, b_f (show ¬ nI (c (i + k)) = nI (wch q k) by rw [n_eq (by omega) (by omega)]; exact hb2)]
    | succ d ih =>
      intro k hk
      refine (xs_X4_isWordAt_2 (fun rec => ?_)).trans (ih (k + 1) (by omega))
      have he : c (i + k) = wch q k := Classical.byContradiction (fun z => hb3 k (by omega) z)
      unfold sb_X4_isWordAt_2
      rw [b_and hq, k_len hq, b_f (nI_ge (by omega) (by omega)), nI_add, k_sign h (by omega), b_and hq, k_chr hq (by omega), b_t (show nI (c (i + k)) = nI (wch q k) by rw [he]), nI_1]
  exact key b 0 (by omega)
/-- the reference reads a word: its letters, and its number -/
def lt_ (c : Nat → Nat) (i : Nat) : Prop := 97 ≤ c i ∧ c i ≤ 122
def wv (c : Nat → Nat) (i : Nat) : Nat → Nat
  | 0 => 0
  | k + 1 => 32 * wv c i k + (c (i + k) - 96)
def wI (c : Nat → Nat) (i m : Nat) : Int32 := if m ≤ 5 then nI (wv c i m) else -1
theorem let_step {a k : Nat} (h : 97 ≤ k) : ((32 * nI a + nI k) - 97) + 1 = nI (32 * a + (k - 96)) := by
  show ((nI 32 * nI a + nI k) - nI 97) + nI 1 = _
  rw [pk_mul, nI_add, pk_sub (by omega), nI_add]
  congr 1
  omega
theorem run_ex {p w : V} {n : Nat} {c : Nat → Nat} (h : Tr p w n c) (i : Nat) : ∃ m, (∀ j, j < m → lt_ c (i + j)) ∧ ¬ lt_ c (i + m) ∧ (i + m ≤ n ∨ m = 0) := by
  have hex : ∃ m, m < n + 1 ∧ ¬ lt_ c (i + m) := ⟨n, by omega, fun z => by
    have e := h.2.2.2.2 (i + n) (by omega)
    have := z.1
    omega⟩
  obtain ⟨m, hm, h1, h2⟩ := least hex
  refine ⟨m, fun j hj => Classical.byContradiction (fun z => h2 j hj z), h1, ?_⟩
  cases m with
  | zero => exact Or.inr rfl
  | succ m =>
    refine Or.inl ?_
    apply Classical.byContradiction
    intro z
    have e := h.2.2.2.2 (i + m) (by omega)
    have e2 : lt_ c (i + m) := Classical.byContradiction (fun z => h2 m (by omega) z)
    have := e2.1
    omega
theorem q_word {p w : V} {n i m : Nat} {c : Nat → Nat} {post : Int32 → V → Prop} (h : Tr p w n c) (hi : i ≤ 100) (h8 : w 0 8 = nI i) (hr : ∀ j, j < m → lt_ c (i + j)) (he : ¬ lt_ c (i + m)) (hm : m ≤ 60) : s_X7_word w post = post (wI c i m) (st w 0 8 (nI (i + m))) := by
  have hn60 : n ≤ 60 := h.1
  have key : ∀ d k, k + d = m → (∃ r, sl_X7_word_4 post (fun x _ v => post x v) r (wI c i k) (nI k) (st w 0 8 (nI (i + k)))) = post (wI c i m) (st w 0 8 (nI (i + m))) := by
    intro d
    induction d with
    | zero =>
      intro k hk
      obtain rfl : k = m := by omega
      have hT := h.at 8 (nI (i + k)) (by decide)
      have h8' : (st w 0 8 (nI (i + k))) 0 8 = nI (i + k) := by rw [st1, u_s]
      refine xo_X7_word_4 (fun rec => ?_)
      unfold sb_X7_word_4
      rw [q_here hT (by omega) h8']
      show s_X7_in (hv n c (i + k)) (nI 97) (nI 122) _ = _
      rw [q_hin hT (by omega) (by omega) (by omega), decide_eq_false (show ¬ (97 ≤ c (i + k) ∧ c (i + k) ≤ 122) from he)]
      exact b_t rfl
    | succ d ih =>
      intro k hk
      have hlk := hr k (by omega)
      have hT := h.at 8 (nI (i + k)) (by decide)
      have h8' : (st w 0 8 (nI (i + k))) 0 8 = nI (i + k) := by rw [st1, u_s]
      have hin : i + k < n := by
        by_cases z : i + k < n
        · exact z
        · have e := h.2.2.2.2 (i + k) (by omega)
          have := hlk.1
          omega
      have hhv : hv n c (i + k) = nI (c (i + k)) := if_pos hin
      refine (xs_X7_word_4 (fun rec => ?_)).trans (ih (k + 1) (by omega))
      unfold sb_X7_word_4
      rw [q_here hT (by omega) h8']
      show s_X7_in (hv n c (i + k)) (nI 97) (nI 122) _ = _
      rw [q_hin hT (by omega) (by omega) (by omega), decide_eq_true (show (97 ≤ c (i + k) ∧ c (i + k) ≤ 122) from hlk)]
      refine (b_f z10).trans ?_
      rw [nI_1]
      by_cases h5 : k + 1 ≤ 5
      · rw [b_t (show nI (k + 1) ≤ 5 from lel (n := 5) h5 (by omega)), q_here hT (by omega) h8', b_all, sc_st, h8', nI_1, st_st0, hhv]
        have e1 : wI c i k = nI (wv c i k) := if_pos (by omega)
        have e2 : wI c i (k + 1) = nI (wv c i (k + 1)) := if_pos h5
        rw [e1, e2, let_step hlk.1, wv, Nat.add_assoc i k 1]
      · rw [b_f (show ¬ nI (k + 1) ≤ 5 from gtl (n := 5) (by omega) (by omega)), b_all, sc_st, h8', nI_1, st_st0]
        have e2 : wI c i (k + 1) = -1 := if_neg h5
        rw [e2, Nat.add_assoc i k 1]
  have := key m 0 (by omega)
  rw [Nat.add_zero, ← h8] at this
  have e : st w 0 8 (w 0 8) = w := by
    funext q k
    rw [st_eq]
    split
    · rename_i z
      rw [z.1, z.2]
    · rfl
  rw [e] at this
  exact this
