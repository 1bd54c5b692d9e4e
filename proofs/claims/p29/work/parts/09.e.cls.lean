/-! PURE 5: what the market's methods answer: equations -/
theorem z00 : (0 : Int32) = 0 := rfl
/-- three tests of an index -/
theorem k_idx_t {c : Int32} {n N k : Nat} {A : Prop} {B : Prop} (hc : c = nI n) (hn : n ≤ N) (hN : N < 1000) (hk : k < n) : ((nI k < 0 → A) ∧ (¬ nI k < 0 → ((c ≤ nI k → A) ∧ (¬ c ≤ nI k → ((nI N ≤ nI k → A) ∧ (¬ nI N ≤ nI k → B)))))) = B := by
  subst hc
  rw [b_f (n_neg (by omega)), b_f (nI_ge (by omega) (by omega)), b_f (nI_ge (by omega) (by omega))]
theorem k_idx_f {c x : Int32} {n : Nat} {X : Int32} {A : Prop} {B : Prop} (hc : c = nI n) (h : x < 0 ∨ nI n ≤ x) : ((x < 0 → A) ∧ (¬ x < 0 → ((c ≤ x → A) ∧ (¬ c ≤ x → ((X ≤ x → A) ∧ (¬ X ≤ x → B)))))) = A := by
  subst hc
  by_cases h1 : x < 0
  · rw [b_t h1]
  · rw [b_f h1, b_t (h.resolve_left h1)]
theorem k_has_t {v : V} {n k : Nat} {post : Int32 → V → Prop} (h : v 6 0 = nI n) (hn : n ≤ 20) (hk : k < n) : s_X5_has v (nI k) post = post 1 v := k_idx_t h hn (by decide) hk
theorem k_has_f {v : V} {n : Nat} {x : Int32} {post : Int32 → V → Prop} (h : v 6 0 = nI n) (hx : x < 0 ∨ nI n ≤ x) : s_X5_has v x post = post 0 v := k_idx_f h hx
theorem k_deal_t {v : V} {n k : Nat} {post : Int32 → V → Prop} (h : v 0 4 = nI n) (hn : n ≤ 6) (hk : k < n) : s_X1_hasDealer v (nI k) post = post 1 v := k_idx_t h hn (by decide) hk
theorem k_deal_f {v : V} {n : Nat} {x : Int32} {post : Int32 → V → Prop} (h : v 0 4 = nI n) (hx : x < 0 ∨ nI n ≤ x) : s_X1_hasDealer v x post = post 0 v := k_idx_f h hx
theorem k_memo_t {v : V} {n k : Nat} {post : Int32 → V → Prop} (h : v 16 0 = nI n) (hn : n ≤ 10) (hk : k < n) : s_X2_has v (nI k) post = post 1 v := k_idx_t h hn (by decide) hk
theorem k_memo_f {v : V} {n : Nat} {x : Int32} {post : Int32 → V → Prop} (h : v 16 0 = nI n) (hx : x < 0 ∨ nI n ≤ x) : s_X2_has v x post = post 0 v := k_idx_f h hx
theorem k_look_t {a b : Nat} {post : Int32 → Prop} (ha : a < 10) (hb : b < 8) : s_X6_isLook (nI a) (nI b) post = post 1 := by
  unfold s_X6_isLook
  rw [b_f (n_neg (by omega)), b_f (show ¬ (10 : Int32) ≤ nI a from nI_ge (b := 10) (by omega) (by omega)), b_f (n_neg (by omega)), b_f (show ¬ (8 : Int32) ≤ nI b from nI_ge (b := 8) (by omega) (by omega))]
/-- not a colour, or not a clarity -/
def noLook (x y : Int32) : Prop := (x < 0 ∨ nI 9 < x) ∨ (y < 0 ∨ nI 7 < y)
theorem lookOr (x y : Int32) : (∃ a b, a < 10 ∧ b < 8 ∧ x = nI a ∧ y = nI b) ∨ noLook x y := by
  rcases rng x (a := 0) (b := 9) (by omega) (by omega) with ⟨a, -, h1, rfl⟩ | h
  · rcases rng y (a := 0) (b := 7) (by omega) (by omega) with ⟨b, -, h2, rfl⟩ | h
    · exact Or.inl ⟨a, b, by omega, by omega, rfl, rfl⟩
    · exact Or.inr (Or.inr h)
  · exact Or.inr (Or.inl h)
theorem up_le {x : Int32} {a b : Nat} (h : nI a < x) (hb : b = a + 1) (ha : a < 1000000) : nI b ≤ x := by
  subst hb
  rw [Int32.lt_iff_toInt_lt, nI_toInt (by omega)] at h
  rw [Int32.le_iff_toInt_le, nI_toInt (by omega)]
  omega
theorem k_look_f {x y : Int32} {post : Int32 → Prop} (h : noLook x y) : s_X6_isLook x y post = post 0 := by
  unfold s_X6_isLook
  by_cases h1 : x < 0
  · rw [b_t h1]
  rw [b_f h1]
  by_cases h2 : (10 : Int32) ≤ x
  · rw [b_t h2]
  rw [b_f h2]
  by_cases h3 : y < 0
  · rw [b_t h3]
  rw [b_f h3]
  rcases h with (h | h) | (h | h)
  · exact absurd h h1
  · exact absurd (up_le h rfl (by omega)) h2
  · exact absurd h h3
  · rw [b_t (show (8 : Int32) ≤ y from up_le h rfl (by omega))]
theorem k_isOut_t {v : V} {k m : Nat} {post : Int32 → V → Prop} (hk : k < 20) (hm : m < 1000000) (h : v 12 k = nI m) : s_X5_isOut v (nI k) post = post 1 v := by
  unfold s_X5_isOut
  rw [b_and (vp_in_nI hk (by decide)), tn_nI (by omega), h, b_f (n_m1 (by omega))]
theorem k_isOut_f {v : V} {k : Nat} {post : Int32 → V → Prop} (hk : k < 20) (h : v 12 k = -1) : s_X5_isOut v (nI k) post = post 0 v := by
  unfold s_X5_isOut
  rw [b_and (vp_in_nI hk (by decide)), tn_nI (by omega), b_t h]
theorem k_isSold_t {v : V} {k : Nat} {post : Int32 → V → Prop} (hk : k < 20) (h : ¬ v 14 k = 0) : s_X5_isSold v (nI k) post = post 1 v := by
  unfold s_X5_isSold
  rw [b_and (vp_in_nI hk (by decide)), tn_nI (by omega), b_f h]
theorem k_isSold_f {v : V} {k : Nat} {post : Int32 → V → Prop} (hk : k < 20) (h : v 14 k = 0) : s_X5_isSold v (nI k) post = post 0 v := by
  unfold s_X5_isSold
  rw [b_and (vp_in_nI hk (by decide)), tn_nI (by omega), b_t h]
theorem k_sieve {v : V} {k x : Nat} {post : Int32 → V → Prop} (hk : k < 20) (hx : x < 1000000) (h : v 7 k = nI x) : s_X5_sieveOf v (nI k) post = post (nI (svN x)) v := by
  unfold s_X5_sieveOf
  rw [b_and (vp_in_nI hk (by decide)), tn_nI (by omega), h]
  have e : ∀ a : Nat, a < 1000 → (nI a ≤ nI x) = (a ≤ x) := fun a ha => n_le (by omega) (by omega)
  have e1 : ((10 : Int32) ≤ nI x) = (10 ≤ x) := e 10 (by omega)
  have e2 : ((25 : Int32) ≤ nI x) = (25 ≤ x) := e 25 (by omega)
  have e3 : ((50 : Int32) ≤ nI x) = (50 ≤ x) := e 50 (by omega)
  have e4 : ((100 : Int32) ≤ nI x) = (100 ≤ x) := e 100 (by omega)
  rw [e1, e2, e3, e4]
  unfold svN
  by_cases h1 : x < 10
  · rw [b_f (by omega), if_pos h1]
    rfl
  · rw [b_t (by omega), if_neg h1]
    by_cases h2 : x < 25
    · rw [b_f (by omega), if_pos h2]
      rfl
    · rw [b_t (by omega), if_neg h2]
      by_cases h3 : x < 50
      · rw [b_f (by omega), if_pos h3]
        rfl
      · rw [b_t (by omega), if_neg h3]
        by_cases h4 : x < 100
        · rw [b_f (by omega), if_pos h4]
          rfl
        · rw [b_t (by omega), if_neg h4]
          rfl
/-- the price list v against the table of rates S -/
def RP (v : V) (S : Nat → Int32) : Prop :=
  (∀ i, i < 24 → v 5 i = 0 ∨ ∃ a b c r, a < 5 ∧ b < 10 ∧ c < 8 ∧ 1 ≤ r ∧ r ≤ 9999 ∧ v 2 i = nI a ∧ v 3 i = nI b ∧ v 4 i = nI c ∧ v 5 i = nI r ∧ S (264 + (80 * a + 8 * b + c)) = nI r) ∧
  (∀ i j, i < 24 → j < 24 → ¬ v 5 i = 0 → ¬ v 5 j = 0 → v 2 i = v 2 j → v 3 i = v 3 j → v 4 i = v 4 j → i = j) ∧
  (∀ a b c, a < 5 → b < 10 → c < 8 → ¬ S (264 + (80 * a + 8 * b + c)) = 0 → ∃ i, i < 24 ∧ ¬ v 5 i = 0 ∧ v 2 i = nI a ∧ v 3 i = nI b ∧ v 4 i = nI c)
theorem k_isEntry {v : V} {i : Nat} {x y z : Int32} {post : Int32 → V → Prop} (hi : i < 24) : s_X3_isEntryOf v (nI i) x y z post = post (bI (decide (¬ v 5 i = 0 ∧ v 2 i = x ∧ v 3 i = y ∧ v 4 i = z))) v := by
  unfold s_X3_isEntryOf
  rw [b_and (vp_in_nI hi (by decide)), tn_nI (by omega)]
  by_cases h1 : v 5 i = 0
  · rw [b_t h1, decide_eq_false (fun q => q.1 h1)]
    rfl
  rw [b_f h1, b_and (vp_in_nI hi (by decide))]
  by_cases h2 : v 2 i = x
  · rw [b_t' h2, b_and (vp_in_nI hi (by decide))]
    by_cases h3 : v 3 i = y
    · rw [b_t' h3, b_and (vp_in_nI hi (by decide))]
      by_cases h4 : v 4 i = z
      · rw [b_t' h4, decide_eq_true ⟨h1, h2, h3, h4⟩]
        rfl
      · rw [b_f' h4, decide_eq_false (fun q => h4 q.2.2.2)]
        rfl
    · rw [b_f' h3, decide_eq_false (fun q => h3 q.2.2.1)]
      rfl
  · rw [b_f' h2, decide_eq_false (fun q => h2 q.2.1)]
    rfl
/-- the entry of a grade -/
def isE (v : V) (a b c i : Nat) : Prop := ¬ v 5 i = 0 ∧ v 2 i = nI a ∧ v 3 i = nI b ∧ v 4 i = nI c
theorem k_isEntry_t {v : V} {i a b c : Nat} {post : Int32 → V → Prop} (hi : i < 24) (h : isE v a b c i) : s_X3_isEntryOf v (nI i) (nI a) (nI b) (nI c) post = post 1 v := by
  rw [k_isEntry hi, decide_eq_true (show ¬ v 5 i = 0 ∧ v 2 i = nI a ∧ v 3 i = nI b ∧ v 4 i = nI c from h)]
  rfl
theorem k_isEntry_f {v : V} {i a b c : Nat} {post : Int32 → V → Prop} (hi : i < 24) (h : ¬ isE v a b c i) : s_X3_isEntryOf v (nI i) (nI a) (nI b) (nI c) post = post 0 v := by
  rw [k_isEntry hi, decide_eq_false (show ¬ (¬ v 5 i = 0 ∧ v 2 i = nI a ∧ v 3 i = nI b ∧ v 4 i = nI c) from h)]
  rfl
theorem k_own_lp {v : V} {a b c : Nat} {post : Int32 → V → Prop} {k0 : Int32 → V → Prop} {i : Nat} (hi : i < 24) (h : isE v a b c i) (ho : ∀ j, j < i → ¬ isE v a b c j) : ∀ d k, k + d = i → (∃ n, sl_X3_ownRate_3 post (nI a) (nI b) (nI c) k0 n (nI k) v) = post (v 5 i) v := by
  intro d
  induction d with
  | zero =>
    intro k hk
    obtain rfl : k = i := by omega
    refine xo_X3_ownRate_3 (fun rec => ?_)
    unfold sb_X3_ownRate_3
    rw [b_f (show ¬ (24 : Int32) ≤ nI k from nI_ge (b := 24) (by omega) (by omega)), k_isEntry_t hi h, b_f z10, b_and (vp_in_nI hi (by decide)), tn_nI (by omega)]
  | succ d ih =>
    intro k hk
    refine (xs_X3_ownRate_3 (fun rec => ?_)).trans (ih (k + 1) (by omega))
    unfold sb_X3_ownRate_3
    rw [b_f (show ¬ (24 : Int32) ≤ nI k from nI_ge (b := 24) (by omega) (by omega)), k_isEntry_f (by omega) (ho k (by omega)), b_t z00, nI_1]
theorem k_own_no {v : V} {a b c : Nat} {post : Int32 → V → Prop} {k0 : Int32 → V → Prop} (ho : ∀ j, j < 24 → ¬ isE v a b c j) : ∀ d k, k + d = 24 → (∃ n, sl_X3_ownRate_3 post (nI a) (nI b) (nI c) k0 n (nI k) v) = k0 (nI 24) v := by
  intro d
  induction d with
  | zero =>
    intro k hk
    obtain rfl : k = 24 := by omega
    exact xo_X3_ownRate_3 (fun rec => b_t (show (24 : Int32) ≤ nI 24 by decide))
  | succ d ih =>
    intro k hk
    refine (xs_X3_ownRate_3 (fun rec => ?_)).trans (ih (k + 1) (by omega))
    unfold sb_X3_ownRate_3
    rw [b_f (show ¬ (24 : Int32) ≤ nI k from nI_ge (b := 24) (by omega) (by omega)), k_isEntry_f (by omega) (ho k (by omega)), b_t z00, nI_1]
/-- the least index with a property -/
theorem least {P : Nat → Prop} {n : Nat} (h : ∃ i, i < n ∧ P i) : ∃ i, i < n ∧ P i ∧ ∀ j, j < i → ¬ P j := by
  obtain ⟨i, hi, hp⟩ := h
  obtain ⟨k, hk, ho⟩ := pk_least P ⟨i, hp⟩
  have hki : k ≤ i := by
    rcases Nat.lt_or_ge i k with q | q
    · exact absurd hp (ho i q)
    · exact q
  exact ⟨k, by omega, hk, ho⟩
theorem RP.own {v : V} {S : Nat → Int32} (h : RP v S) {a b c i : Nat} (ha : a < 5) (hb : b < 10) (hc : c < 8) (hi : i < 24) (he : isE v a b c i) : v 5 i = S (264 + (80 * a + 8 * b + c)) := by
  rcases h.1 i hi with h0 | ⟨a', b', c', r, h1, h2, h3, h4, h5, h6, h7, h8, h9, h10⟩
  · exact absurd h0 he.1
  · have e1 : a = a' := by
      have := he.2.1
      rw [h6, n_eq (by omega) (by omega)] at this
      exact this.symm
    have e2 : b = b' := by
      have := he.2.2.1
      rw [h7, n_eq (by omega) (by omega)] at this
      exact this.symm
    have e3 : c = c' := by
      have := he.2.2.2
      rw [h8, n_eq (by omega) (by omega)] at this
      exact this.symm
    subst e1
    subst e2
    subst e3
    rw [h9, h10]
theorem k_own {v : V} {S : Nat → Int32} {a b c : Nat} {post : Int32 → V → Prop} (h : RP v S) (ha : a < 5) (hb : b < 10) (hc : c < 8) : s_X3_ownRate v (nI a) (nI b) (nI c) post = post (S (264 + (80 * a + 8 * b + c))) v := by
  unfold s_X3_ownRate
  by_cases he : ∃ i, i < 24 ∧ isE v a b c i
  · obtain ⟨i, hi, he, ho⟩ := least he
    exact (k_own_lp hi he ho i 0 (by omega)).trans (by rw [h.own ha hb hc hi he])
  · have h0 : S (264 + (80 * a + 8 * b + c)) = 0 := by
      by_cases q : S (264 + (80 * a + 8 * b + c)) = 0
      · exact q
      · obtain ⟨i, hi, h1, h2, h3, h4⟩ := h.2.2 a b c ha hb hc q
        exact absurd ⟨i, hi, h1, h2, h3, h4⟩ he
    rw [h0]
    exact (k_own_no (fun j hj q => he ⟨j, hj, q⟩) 24 0 rfl)
