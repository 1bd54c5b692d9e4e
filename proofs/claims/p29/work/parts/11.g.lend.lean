/-! P29 7: lending one stone -/
theorem pow_bit (k j : Nat) : 2 ^ k / 2 ^ j % 2 = if j = k then 1 else 0 := by
  by_cases h : j = k
  · rw [if_pos h, h, Nat.div_self (Nat.two_pow_pos k)]
  · rw [if_neg h]
    by_cases h2 : j < k
    · have e : 2 ^ k = 2 ^ j * (2 * 2 ^ (k - j - 1)) := by
        rw [← Nat.pow_succ', ← Nat.pow_add]
        congr 1
        omega
      rw [e, Nat.mul_div_cancel_left _ (Nat.two_pow_pos j)]
      omega
    · rw [Nat.div_eq_of_lt (Nat.pow_lt_pow_right (by decide) (by omega))]
theorem pow20 {k : Nat} (hk : k ≤ 20) : 1 ≤ 2 ^ k ∧ 2 ^ k ≤ 1048576 := by
  have h1 := Nat.two_pow_pos k
  have h2 : 2 ^ k ≤ 2 ^ 20 := Nat.pow_le_pow_right (by decide) hk
  omega
theorem an_lend_x {x : V} {nd ns f o c k : Nat} (v04 : x 0 4 = nI nd) (n1 : nd ≤ 6) (v60 : x 6 0 = nI ns) (n2 : ns ≤ 20) (hf : f ≤ nd) (ho : o ≤ nd) (hc : c ≤ 90) (hk : k ≤ ns) (hb : f = nd ∨ o = nd ∨ f = o ∨ k = ns ∨ c = 0) (post : Int32 → V → Prop) : s_X1_lendStones x (nI f) (nI o) (nI c) (nI (2 ^ k)) post = post (-10000001) x := by
  obtain ⟨p1, p2⟩ := pow20 (k := k) (by omega)
  by_cases h1 : f = nd
  · subst h1
    simp only [s_X1_lendStones, k_deal_f v04 (Or.inr (Int32.le_refl _)), z01, e10, b_all, not_true_eq_false, not_false_eq_true, true_implies, false_implies, and_true, true_and]
  have d1 : f < nd := by omega
  by_cases h2 : o = nd
  · subst h2
    simp only [s_X1_lendStones, k_deal_t v04 n1 d1, k_deal_f v04 (Or.inr (Int32.le_refl _)), z01, e10, b_all, not_true_eq_false, not_false_eq_true, true_implies, false_implies, and_true, true_and]
  have d2 : o < nd := by omega
  by_cases h3 : f = o
  · have q : (nI f = nI o) = True := eq_true (by rw [h3])
    simp only [s_X1_lendStones, k_deal_t v04 n1 d1, k_deal_t v04 n1 d2, q, z01, e10, b_all, not_true_eq_false, not_false_eq_true, true_implies, false_implies, and_true, true_and]
  have qf : (nI f = nI o) = False := eq_false (by rw [n_eq (by omega) (by omega)]; exact h3)
  by_cases h4 : c = 0
  · have q : (nI c < 1) = True := eq_true (by rw [h4]; decide)
    simp only [s_X1_lendStones, k_deal_t v04 n1 d1, k_deal_t v04 n1 d2, qf, q, z01, e10, b_all, not_true_eq_false, not_false_eq_true, true_implies, false_implies, and_true, true_and]
  have f1 : (nI c < 1) = False := eq_false (ltl (n := 1) (by omega) (by omega))
  have f2 : (90 < nI c) = False := eq_false (show ¬ nI 90 < nI c by rw [n_lt (by omega) (by omega)]; omega)
  have q1 : (nI (2 ^ k) ≤ 0) = False := eq_false (nI_nle (by omega) (by omega))
  have hkn : k = ns := by omega
  subst hkn
  have q2 : (nI (2 ^ k / 2 ^ k) = 0) = False := eq_false (by rw [Nat.div_self (Nat.two_pow_pos k)]; decide)
  simp only [s_X1_lendStones, k_deal_t v04 n1 d1, k_deal_t v04 n1 d2, qf, f1, f2, q1, v60, sh_n (show 2 ^ k < 2147483648 by omega) n2, q2, z01, e10, b_all, not_true_eq_false, not_false_eq_true, true_implies, false_implies, and_true, true_and]
theorem an_lend_s {x : V} {S : Nat → Int32} {nd ns nm t g e l f o c k : Nat} (hRn : Rn x S nd ns nm t g e l) (hf : f < nd) (ho : o < nd) (hfo : f ≠ o) (c1 : 1 ≤ c) (c2 : c ≤ 90) (hkn : k < ns) (hgd : ¬ good S f k) (post : Int32 → V → Prop) : s_X1_lendStones x (nI f) (nI o) (nI c) (nI (2 ^ k)) post = post (-10000002) x := by
  have hRn' := hRn
  obtain ⟨hg, hb, ⟨hP, hT⟩, hk, h0, hm, hB⟩ := hRn'
  obtain ⟨n1, n2, n3, n4, n5, n6, v04, S0, v60, S1, v160, S2, v05, S3, L4, S5, v06, S6, v07, S7⟩ := hg
  obtain ⟨p1, p2⟩ := pow20 (k := k) (by omega)
  have qf : (nI f = nI o) = False := eq_false (by rw [n_eq (by omega) (by omega)]; exact hfo)
  have f1 : (nI c < 1) = False := eq_false (ltl (n := 1) c1 (by omega))
  have f2 : (90 < nI c) = False := eq_false (show ¬ nI 90 < nI c by rw [n_lt (by omega) (by omega)]; omega)
  have q1 : (nI (2 ^ k) ≤ 0) = False := eq_false (nI_nle (by omega) (by omega))
  have hlt : 2 ^ k < 2 ^ ns := Nat.pow_lt_pow_right (by decide) hkn
  have q2 : (nI (2 ^ k / 2 ^ ns) = 0) = True := eq_true (by rw [Nat.div_eq_of_lt hlt]; rfl)
  obtain ⟨b, b1, -, b3⟩ := may (v := x) (w := gw S) (z := 2 ^ k) (by rw [gw1]; exact hRn) hf (by omega)
  rw [gw1] at b3
  have hbf : b = false := by
    cases b with
    | false => rfl
    | true => exact absurd (b3 rfl k hkn (by rw [pow_bit, if_pos rfl])) hgd
  subst hbf
  have hc' : ∀ post, s_X1_canLend x (nI f) (nI (2 ^ k)) post = post 0 x := b1
  simp only [s_X1_lendStones, k_deal_t v04 n1 hf, k_deal_t v04 n1 ho, qf, f1, f2, q1, v60, sh_n (show 2 ^ k < 2147483648 by omega) n2, q2, hc', z01, e10, b_all, not_true_eq_false, not_false_eq_true, true_implies, false_implies, and_true, true_and]
theorem can_t {x : V} {S : Nat → Int32} {nd ns nm t g e l f k : Nat} (hRn : Rn x S nd ns nm t g e l) (hkn : k < ns) (hgd : good S f k) (post : Int32 → V → Prop) : s_X1_canLend x (nI f) (nI (2 ^ k)) post = post 1 x := by
  obtain ⟨hg, hb, ⟨hP, hT⟩, hk, h0, hm, hB⟩ := hRn
  obtain ⟨n1, n2, n3, n4, n5, n6, v04, S0, v60, S1, -⟩ := hg
  obtain ⟨p1, p2⟩ := pow20 (k := k) (by omega)
  have hall : ∀ j, j < ns → 2 ^ k / 2 ^ j % 2 = 1 → good S f j := fun j hj hb => by
    rw [pow_bit] at hb
    by_cases q : j = k
    · rw [q]
      exact hgd
    · rw [if_neg q] at hb
      omega
  have key : ∀ d j, j + d = ns → (∃ n, sl_X1_canLend_2 post (nI f) (nI (2 ^ k)) (fun _ v => post 1 v) n (nI j) x) = post 1 x := by
    intro d
    induction d with
    | zero =>
      intro j hj
      obtain rfl : j = ns := by omega
      exact xo_X1_canLend_2 (fun rec => b_t (show x 6 0 ≤ nI j by rw [v60]; exact Int32.le_refl _))
    | succ d ih =>
      intro j hj
      exact (xs_X1_canLend_2 (fun rec => (c_step hP hT (hk j (by omega)) v60 n2 (by omega) (by omega) post _ rec).1 (hall j (by omega)))).trans (ih (j + 1) (by omega))
  exact key ns 0 (by omega)
theorem an_lend_f {x : V} {S : Nat → Int32} {nd ns t g e l f o c k : Nat} (hRn : Rn x S nd ns 10 t g e l) (hf : f < nd) (ho : o < nd) (hfo : f ≠ o) (c1 : 1 ≤ c) (c2 : c ≤ 90) (hkn : k < ns) (hgd : good S f k) (post : Int32 → V → Prop) : s_X1_lendStones x (nI f) (nI o) (nI c) (nI (2 ^ k)) post = post (-10000003) x := by
  have hc' := fun post => can_t hRn hkn hgd post
  obtain ⟨hg, hb, ⟨hP, hT⟩, hk, h0, hm, hB⟩ := hRn
  obtain ⟨n1, n2, n3, n4, n5, n6, v04, S0, v60, S1, v160, S2, v05, S3, L4, S5, v06, S6, v07, S7⟩ := hg
  obtain ⟨p1, p2⟩ := pow20 (k := k) (by omega)
  have qf : (nI f = nI o) = False := eq_false (by rw [n_eq (by omega) (by omega)]; exact hfo)
  have f1 : (nI c < 1) = False := eq_false (ltl (n := 1) c1 (by omega))
  have f2 : (90 < nI c) = False := eq_false (show ¬ nI 90 < nI c by rw [n_lt (by omega) (by omega)]; omega)
  have q1 : (nI (2 ^ k) ≤ 0) = False := eq_false (nI_nle (by omega) (by omega))
  have hlt : 2 ^ k < 2 ^ ns := Nat.pow_lt_pow_right (by decide) hkn
  have q2 : (nI (2 ^ k / 2 ^ ns) = 0) = True := eq_true (by rw [Nat.div_eq_of_lt hlt]; rfl)
  have a0 : (nI 10 < 0) = False := eq_false (by decide)
  have a1 : (nI 10 < 10) = False := eq_false (by decide)
  simp only [s_X1_lendStones, k_deal_t v04 n1 hf, k_deal_t v04 n1 ho, qf, f1, f2, q1, v60, sh_n (show 2 ^ k < 2147483648 by omega) n2, q2, hc', s_X2_add, v160, a0, a1, z01, e10, b_all, not_true_eq_false, not_false_eq_true, true_implies, false_implies, and_true, true_and]
theorem ld_skip {x : V} {ns z : Nat} {o nmI : Int32} (v60 : x 6 0 = nI ns) (n2 : ns ≤ 20) (hz : z < 2147483648) (post : Int32 → V → Prop) (k0 : Int32 → V → Prop) : ∀ d j m', j + d = m' → m' ≤ ns → (∀ i, j ≤ i → i < m' → z / 2 ^ i % 2 = 0) → (∃ n, sl_X1_lendStones_97 post o (nI z) nmI k0 n (nI j) x) = (∃ n, sl_X1_lendStones_97 post o (nI z) nmI k0 n (nI m') x) := by
  intro d
  induction d with
  | zero =>
    intro j m' h _ _
    obtain rfl : j = m' := by omega
    rfl
  | succ d ih =>
    intro j m' h hm hb
    refine (xs_X1_lendStones_97 (fun rec => ?_)).trans (ih (j + 1) m' (by omega) hm (fun i h1 h2 => hb i (by omega) h2))
    have hle : (nI ns ≤ nI j) = False := eq_false (nI_ge (by omega) (by omega))
    have hbit := hb j (Nat.le_refl _) (by omega)
    simp (disch := omega) only [sb_X1_lendStones_97, v60, hle, bit_n hz (show j < 32 by omega), hbit, n01, nI_1, e10, b_all, not_true_eq_false, not_false_eq_true, true_implies, false_implies, and_true, true_and]
theorem an_lend {x : V} {S : Nat → Int32} {nd ns nm t g e l f o c k : Nat} (hRn : Rn x S nd ns nm t g e l) (hf : f < nd) (ho : o < nd) (hfo : f ≠ o) (c1 : 1 ≤ c) (c2 : c ≤ 90) (hkn : k < ns) (hgd : good S f k) (hnm : nm < 10) : ∃ x2, (∀ post, s_X1_lendStones x (nI f) (nI o) (nI c) (nI (2 ^ k)) post = post (nI nm) x2) ∧ x2 6 = x 6 ∧ x2 0 = x 0 ∧ x2 14 = x 14 ∧ x2 16 0 = nI (nm + 1) ∧ x2 19 nm = nI (t + c) ∧ x2 11 k = nI o := by
  have hc' := fun post => can_t hRn hkn hgd post
  obtain ⟨hg, hb, ⟨hP, hT⟩, hk, h0, hm, hB⟩ := hRn
  obtain ⟨n1, n2, n3, n4, n5, n6, v04, S0, v60, S1, v160, S2, v05, S3, L4, S5, v06, S6, v07, S7⟩ := hg
  obtain ⟨p1, p2⟩ := pow20 (k := k) (by omega)
  have k20 : k < 20 := by omega
  have qf : (nI f = nI o) = False := eq_false (by rw [n_eq (by omega) (by omega)]; exact hfo)
  have f1 : (nI c < 1) = False := eq_false (ltl (n := 1) c1 (by omega))
  have f2 : (90 < nI c) = False := eq_false (show ¬ nI 90 < nI c by rw [n_lt (by omega) (by omega)]; omega)
  have q1 : (nI (2 ^ k) ≤ 0) = False := eq_false (nI_nle (by omega) (by omega))
  have hlt : 2 ^ k < 2 ^ ns := Nat.pow_lt_pow_right (by decide) hkn
  have q2 : (nI (2 ^ k / 2 ^ ns) = 0) = True := eq_true (by rw [Nat.div_eq_of_lt hlt]; rfl)
  have a0 : (nI nm < 0) = False := eq_false (n_neg (by omega))
  have a1 : (nI nm < 10) = True := eq_true (lt_n (n := 10) hnm (by omega))
  have a3 : (nI nm = -1) = False := eq_false (n_m1 (by omega))
  obtain ⟨⟨e0, e1, e2, e3, e4, e5, e6, e7, e8⟩, hO, -⟩ := hk k hkn
  obtain ⟨hx, -⟩ | ⟨px, hx9, hx, -⟩ := pS_m1 hT hO
  · exact absurd hx hgd.2.2
  obtain ⟨v1, hv1⟩ : ∃ v1, v1 = st (st (st (st (st (st x 17 nm (nI f)) 18 nm (nI o)) 19 nm (nI t + nI c)) 20 nm (nI (2 ^ k))) 21 nm 0) 16 0 (nI (nm + 1)) := ⟨_, rfl⟩
  have w60 : v1 6 0 = nI ns := by
    subst hv1
    simp (disch := omega) only [st1n]
    exact v60
  have hP2 : RP (st (st v1 11 k (nI o)) 12 k (nI nm)) S := by
    subst hv1
    exact RP_c hP (fun i _ => by simp (disch := omega) only [st1n]) (fun i _ => by simp (disch := omega) only [st1n]) (fun i _ => by simp (disch := omega) only [st1n]) (fun i _ => by simp (disch := omega) only [st1n])
  have pp : ∀ post, s_X1_priceOf (st (st v1 11 k (nI o)) 12 k (nI nm)) (nI k) post = post (nI px) (st (st v1 11 k (nI o)) 12 k (nI nm)) := fun post => by
    rw [k_price hP2 hT hO (by subst hv1; simp (disch := omega) only [st1n]; exact e0) (by subst hv1; simp (disch := omega) only [st1n]; exact e1) (by subst hv1; simp (disch := omega) only [st1n]; exact e2) k20, hx]
  have hle : (nI ns ≤ nI k) = False := eq_false (nI_ge (by omega) (by omega))
  have hbit : 2 ^ k / 2 ^ k % 2 = 1 := by rw [pow_bit, if_pos rfl]
  have hz : 2 ^ k < 2147483648 := by omega
  have u60 : (st (st (st v1 11 k (nI o)) 12 k (nI nm)) 13 k (nI px)) 6 0 = nI ns := by
    simp (disch := omega) only [st1n]
    exact w60
  have hloop : ∀ (post : Int32 → V → Prop) k0, (∃ n, sl_X1_lendStones_97 post (nI o) (nI (2 ^ k)) (nI nm) k0 n (nI 0) v1) = k0 (nI ns) (st (st (st v1 11 k (nI o)) 12 k (nI nm)) 13 k (nI px)) := fun post k0 => by
    refine (ld_skip w60 n2 hz post k0 k 0 k (by omega) (by omega) (fun i _ hi => by rw [pow_bit, if_neg (by omega)])).trans ?_
    refine (xs_X1_lendStones_97 (x6 := nI k) (y6 := nI (k + 1)) (v' := st (st (st v1 11 k (nI o)) 12 k (nI nm)) 13 k (nI px)) (fun rec => ?_)).trans ?_
    · simp (disch := omega) only [sb_X1_lendStones_97, w60, hle, bit_n hz (show k < 32 by omega), hbit, n11, nI_1, vp_in_nI, tn_nI, pp, e10, b_all, not_true_eq_false, not_false_eq_true, true_implies, false_implies, and_true, true_and]
    refine (ld_skip u60 n2 hz post k0 (ns - (k + 1)) (k + 1) ns (by omega) (Nat.le_refl _) (fun i hi _ => by rw [pow_bit, if_neg (by omega)])).trans ?_
    exact xo_X1_lendStones_97 (fun rec => b_t (by rw [u60]; exact Int32.le_refl _))
  refine ⟨st (st (st v1 11 k (nI o)) 12 k (nI nm)) 13 k (nI px), fun post => ?_, ?_, ?_, ?_, ?_, ?_, ?_⟩
  · simp (disch := omega) only [s_X1_lendStones, k_deal_t v04 n1 hf, k_deal_t v04 n1 ho, qf, f1, f2, q1, v60, sh_n hz n2, q2, hc', s_X2_add, v160, v05, a0, a1, a3, vp_in_nI, tn_nI, sc_st, st1, st1n, u_s, u_n, nI_1, z01, e10, b_all, not_true_eq_false, not_false_eq_true, true_implies, false_implies, and_true, true_and]
    rw [← hv1]
    exact hloop post (fun _ v => post (nI nm) v)
  · subst hv1
    simp (disch := omega) only [st1n]
  · subst hv1
    simp (disch := omega) only [st1n]
  · subst hv1
    simp (disch := omega) only [st1n]
  · subst hv1
    simp (disch := omega) only [st1, st1n, u_s, u_n]
  · subst hv1
    simp (disch := omega) only [st1, st1n, u_s, u_n]
    exact nI_add t c
  · simp (disch := omega) only [st1, st1n, u_s, u_n]
