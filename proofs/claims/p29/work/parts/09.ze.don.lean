/-! PURE 30: the text: a command is done -/
theorem lend_bad {x w : V} {nd ns nm t g e l : Nat} (hRn : Rn x (w 1) nd ns nm t g e l) (a b u s : Int32) : (∀ post, s_X1_lendStones x a b u 0 post = post (-10000001) x) ∧ ((s ≤ 0 ∨ ∃ z, 2 ^ ns ≤ z ∧ z < 2147483648 ∧ s = nI z) → ∀ post, s_X7_lends w a b u s post = post (-10000001) w) := by
  obtain ⟨hg, -⟩ := hRn
  obtain ⟨n1, n2, n3, n4, n5, n6, v04, S0, v60, S1, -⟩ := hg
  have hp20 : 2 ^ ns ≤ 2 ^ 20 := Nat.pow_le_pow_right (by decide) n2
  have hp1 := Nat.one_le_two_pow (n := ns)
  constructor
  · intro post
    have h00 : ((0 : Int32) ≤ 0) = True := eq_true (Int32.le_refl _)
    rcases ixn a (n := nd) (by omega) with ⟨f, hf, rfl⟩ | hx
    rotate_left
    · simp only [s_X1_lendStones, k_deal_f v04 hx, e10, z01, b_all, not_true_eq_false, not_false_eq_true, true_implies, false_implies, and_true, true_and, or_self, or_true, true_or, or_false, false_or]
    rcases ixn b (n := nd) (by omega) with ⟨o, ho, rfl⟩ | hy
    rotate_left
    · simp only [s_X1_lendStones, k_deal_t v04 n1 hf, k_deal_f v04 hy, e10, z01, b_all, not_true_eq_false, not_false_eq_true, true_implies, false_implies, and_true, true_and, or_self, or_true, true_or, or_false, false_or]
    by_cases c1 : nI f = nI o
    · simp only [s_X1_lendStones, k_deal_t v04 n1 hf, k_deal_t v04 n1 ho, eq_true c1, e10, z01, b_all, not_true_eq_false, not_false_eq_true, true_implies, false_implies, and_true, true_and, or_self, or_true, true_or, or_false, false_or]
    by_cases c2 : u < 1
    · simp only [s_X1_lendStones, k_deal_t v04 n1 hf, k_deal_t v04 n1 ho, eq_false c1, eq_true c2, e10, z01, b_all, not_true_eq_false, not_false_eq_true, true_implies, false_implies, and_true, true_and, or_self, or_true, true_or, or_false, false_or]
    by_cases c3 : 90 < u
    · simp only [s_X1_lendStones, k_deal_t v04 n1 hf, k_deal_t v04 n1 ho, eq_false c1, eq_false c2, eq_true c3, e10, z01, b_all, not_true_eq_false, not_false_eq_true, true_implies, false_implies, and_true, true_and, or_self, or_true, true_or, or_false, false_or]
    · simp only [s_X1_lendStones, k_deal_t v04 n1 hf, k_deal_t v04 n1 ho, eq_false c1, eq_false c2, eq_false c3, h00, e10, z01, b_all, not_true_eq_false, not_false_eq_true, true_implies, false_implies, and_true, true_and, or_self, or_true, true_or, or_false, false_or]
  · intro hs post
    have q : ∀ post, s_X7_in s 1 (nI (2 ^ ns - 1)) post = post 0 := fun post => q_in_f (by
      rcases hs with hs | ⟨z, z1, z2, rfl⟩
      · refine Or.inl ?_
        rw [Int32.le_iff_toInt_le] at hs
        rw [Int32.lt_iff_toInt_lt]
        have q0 : (0 : Int32).toInt = 0 := by decide
        have q1 : (1 : Int32).toInt = 1 := by decide
        omega
      · refine Or.inr ?_
        rw [n_lt (by omega) (by omega)]
        omega)
    rcases ixn a (n := nd) (by omega) with ⟨f, hf, rfl⟩ | hx
    rotate_left
    · simp only [s_X7_lends, q_isDealer_f S0 (show nd < 1000000 by omega) hx, e10, z01, b_all, not_true_eq_false, not_false_eq_true, true_implies, false_implies, and_true, true_and, or_self, or_true, true_or, or_false, false_or]
    have d1 : ∀ post, s_X7_isDealer w (nI f) post = post 1 w := fun post => q_isDealer_t S0 (show nd < 1000000 by omega) hf
    rcases ixn b (n := nd) (by omega) with ⟨o, ho, rfl⟩ | hy
    rotate_left
    · simp only [s_X7_lends, d1, q_isDealer_f S0 (show nd < 1000000 by omega) hy, e10, z01, b_all, not_true_eq_false, not_false_eq_true, true_implies, false_implies, and_true, true_and, or_self, or_true, true_or, or_false, false_or]
    have d2 : ∀ post, s_X7_isDealer w (nI o) post = post 1 w := fun post => q_isDealer_t S0 (show nd < 1000000 by omega) ho
    by_cases c1 : nI f = nI o
    · simp only [s_X7_lends, d1, d2, eq_true c1, e10, z01, b_all, not_true_eq_false, not_false_eq_true, true_implies, false_implies, and_true, true_and, or_self, or_true, true_or, or_false, false_or]
    by_cases c2 : u < 1 ∨ 90 < u
    · simp only [s_X7_lends, d1, d2, eq_false c1, q_in_f c2, e10, z01, b_all, not_true_eq_false, not_false_eq_true, true_implies, false_implies, and_true, true_and, or_self, or_true, true_or, or_false, false_or]
    · simp only [s_X7_lends, d1, d2, eq_false c1, q_in_t (fun z => c2 (Or.inl z)) (fun z => c2 (Or.inr z)), t_1, S1, full_n n2, q, e10, z01, b_all, not_true_eq_false, not_false_eq_true, true_implies, false_implies, and_true, true_and, or_self, or_true, true_or, or_false, false_or]
/-- one command done on both sides -/
def Don (p x w : V) (F : Int32) : Prop := ∃ r x' S', (∀ post, s_X4_perform p x post = post r p x') ∧ (∀ post, s_X7_called w F post = post r (sa w 1 S')) ∧ ((¬ r < 0 ∧ R x' S') ∨ (bad r ∧ x' = x ∧ S' = w 1))
theorem don {p x w : V} {q : Nat} (hq : q < 7) (hR : R x (w 1)) (hk : p 0 2 = nI q) (hn : ∀ k, k < hmN q → ∃ z, z < 100000 ∧ p 2 k = nI z ∧ w 6 k = nI z) : Don p x w (nI (q + 1)) := by
  have h7 : q = 0 ∨ q = 1 ∨ q = 2 ∨ q = 3 ∨ q = 4 ∨ q = 5 ∨ q = 6 := by omega
  have fo : ((nI q).toInt < 0 ∨ 6 < (nI q).toInt) = False := sw_in (by omega) (by omega) (by omega)
  rcases h7 with rfl | rfl | rfl | rfl | rfl | rfl | rfl
  · have gk : ((nI 1).toInt < 1 ∨ 6 < (nI 1).toInt) = False := sw_in (by omega) (by omega) (by omega)
    obtain ⟨z0, y0, a0, b0⟩ := hn 0 (by decide)
    obtain ⟨z1, y1, a1, b1⟩ := hn 1 (by decide)
    obtain ⟨z2, y2, a2, b2⟩ := hn 2 (by decide)
    obtain ⟨z3, y3, a3, b3⟩ := hn 3 (by decide)
    have hR' := hR
    obtain ⟨nd, ns, nm, t, g, e, hRn⟩ := hR'
    have v60 : x 6 0 = nI ns := hRn.1.2.2.2.2.2.2.2.2.1
    have n2 : ns ≤ 20 := hRn.1.2.1
    by_cases c1 : z3 < ns
    · obtain ⟨r, x', S', h1, h2, h3⟩ := sim_lend hR (nI z0) (nI z1) (nI z2) (1 <<< (nI z3 &&& 31))
      have c2 : (20 ≤ nI z3) = False := eq_false (nI_ge (b := 20) (by omega) (by omega))
      exact ⟨r, x', S', fun post => by simp only [s_X4_perform, hk, L0_0, L0_1, L0_2, L0_3, L0_4, L0_5, L0_6, fo, t_0, t_1, t_2, t_3, a0, b0, a1, b1, a2, b2, a3, b3, k_has_t v60 n2 c1, h1, e10, z01, b_all, not_true_eq_false, not_false_eq_true, true_implies, false_implies, and_true, true_and, or_self, or_true, true_or, or_false, false_or], fun post => by simp only [s_X7_called, show nI (0 + 1) = nI 1 from rfl, L1_1, L1_2, L1_3, L1_4, L1_5, L1_6, gk, t_0, t_1, t_2, t_3, a0, b0, a1, b1, a2, b2, a3, b3, c2, h2, e10, z01, b_all, not_true_eq_false, not_false_eq_true, true_implies, false_implies, and_true, true_and, or_self, or_true, true_or, or_false, false_or], h3⟩
    · have c3 : nI z3 < 0 ∨ nI ns ≤ nI z3 := Or.inr (lel (by omega) (by omega))
      obtain ⟨h1, h2⟩ := lend_bad hRn (nI z0) (nI z1) (nI z2) (if z3 < 20 then 1 <<< (nI z3 &&& 31) else 0)
      by_cases c4 : z3 < 20
      · have c2 : (20 ≤ nI z3) = False := eq_false (nI_ge (b := 20) (by omega) (by omega))
        rw [if_pos c4, one_n (by omega)] at h2
        have hp : 2 ^ ns ≤ 2 ^ z3 := Nat.pow_le_pow_right (by decide) (by omega)
        have hp2 : 2 ^ z3 ≤ 2 ^ 20 := Nat.pow_le_pow_right (by decide) (by omega)
        have h2' := h2 (Or.inr ⟨2 ^ z3, hp, by omega, rfl⟩)
        refine ⟨-10000001, x, w 1, fun post => ?_, fun post => ?_, Or.inr ⟨bad1, rfl, rfl⟩⟩
        · simp only [s_X4_perform, hk, L0_0, L0_1, L0_2, L0_3, L0_4, L0_5, L0_6, fo, t_0, t_1, t_2, t_3, a0, b0, a1, b1, a2, b2, a3, b3, k_has_f v60 c3, h1, e10, z01, b_all, not_true_eq_false, not_false_eq_true, true_implies, false_implies, and_true, true_and, or_self, or_true, true_or, or_false, false_or]
        · rw [sa_self]
          simp only [s_X7_called, show nI (0 + 1) = nI 1 from rfl, L1_1, L1_2, L1_3, L1_4, L1_5, L1_6, gk, t_0, t_1, t_2, t_3, a0, b0, a1, b1, a2, b2, a3, b3, c2, one_n (show z3 < 31 by omega), h2', e10, z01, b_all, not_true_eq_false, not_false_eq_true, true_implies, false_implies, and_true, true_and, or_self, or_true, true_or, or_false, false_or]
      · have c2 : (20 ≤ nI z3) = True := eq_true (lel (c := 20) (by omega) (by omega))
        rw [if_neg c4] at h2
        have h2' := h2 (Or.inl (Int32.le_refl _))
        refine ⟨-10000001, x, w 1, fun post => ?_, fun post => ?_, Or.inr ⟨bad1, rfl, rfl⟩⟩
        · simp only [s_X4_perform, hk, L0_0, L0_1, L0_2, L0_3, L0_4, L0_5, L0_6, fo, t_0, t_1, t_2, t_3, a0, b0, a1, b1, a2, b2, a3, b3, k_has_f v60 c3, h1, e10, z01, b_all, not_true_eq_false, not_false_eq_true, true_implies, false_implies, and_true, true_and, or_self, or_true, true_or, or_false, false_or]
        · rw [sa_self]
          simp only [s_X7_called, show nI (0 + 1) = nI 1 from rfl, L1_1, L1_2, L1_3, L1_4, L1_5, L1_6, gk, t_0, t_1, t_2, t_3, a0, b0, a1, b1, a2, b2, a3, b3, c2, h2', e10, z01, b_all, not_true_eq_false, not_false_eq_true, true_implies, false_implies, and_true, true_and, or_self, or_true, true_or, or_false, false_or]
  · have gk : ((nI 2).toInt < 1 ∨ 6 < (nI 2).toInt) = False := sw_in (by omega) (by omega) (by omega)
    obtain ⟨z0, y0, a0, b0⟩ := hn 0 (by decide)
    obtain ⟨r, x', S', h1, h2, h3⟩ := sim_back hR (nI z0)
    exact ⟨r, x', S', fun post => by simp only [s_X4_perform, hk, L1_0, L1_1, L1_2, L1_3, L1_4, L1_5, L1_6, fo, t_0, t_1, t_2, t_3, a0, b0, h1, e10, z01, b_all, not_true_eq_false, not_false_eq_true, true_implies, false_implies, and_true, true_and, or_self, or_true, true_or, or_false, false_or], fun post => by simp only [s_X7_called, show nI (1 + 1) = nI 2 from rfl, L2_1, L2_2, L2_3, L2_4, L2_5, L2_6, gk, t_0, t_1, t_2, t_3, a0, b0, h2, e10, z01, b_all, not_true_eq_false, not_false_eq_true, true_implies, false_implies, and_true, true_and, or_self, or_true, true_or, or_false, false_or], h3⟩
  · have gk : ((nI 3).toInt < 1 ∨ 6 < (nI 3).toInt) = False := sw_in (by omega) (by omega) (by omega)
    obtain ⟨z0, y0, a0, b0⟩ := hn 0 (by decide)
    obtain ⟨r, x', S', h1, h2, h3⟩ := sim_keep hR (nI z0)
    exact ⟨r, x', S', fun post => by simp only [s_X4_perform, hk, L2_0, L2_1, L2_2, L2_3, L2_4, L2_5, L2_6, fo, t_0, t_1, t_2, t_3, a0, b0, h1, e10, z01, b_all, not_true_eq_false, not_false_eq_true, true_implies, false_implies, and_true, true_and, or_self, or_true, true_or, or_false, false_or], fun post => by simp only [s_X7_called, show nI (2 + 1) = nI 3 from rfl, L3_1, L3_2, L3_3, L3_4, L3_5, L3_6, gk, t_0, t_1, t_2, t_3, a0, b0, h2, e10, z01, b_all, not_true_eq_false, not_false_eq_true, true_implies, false_implies, and_true, true_and, or_self, or_true, true_or, or_false, false_or], h3⟩
  · have gk : ((nI 4).toInt < 1 ∨ 6 < (nI 4).toInt) = False := sw_in (by omega) (by omega) (by omega)
    obtain ⟨z0, y0, a0, b0⟩ := hn 0 (by decide)
    obtain ⟨z1, y1, a1, b1⟩ := hn 1 (by decide)
    obtain ⟨r, x', S', h1, h2, h3⟩ := sim_sell hR (nI z0) (nI z1)
    exact ⟨r, x', S', fun post => by simp only [s_X4_perform, hk, L3_0, L3_1, L3_2, L3_3, L3_4, L3_5, L3_6, fo, t_0, t_1, t_2, t_3, a0, b0, a1, b1, h1, e10, z01, b_all, not_true_eq_false, not_false_eq_true, true_implies, false_implies, and_true, true_and, or_self, or_true, true_or, or_false, false_or], fun post => by simp only [s_X7_called, show nI (3 + 1) = nI 4 from rfl, L4_1, L4_2, L4_3, L4_4, L4_5, L4_6, gk, t_0, t_1, t_2, t_3, a0, b0, a1, b1, h2, e10, z01, b_all, not_true_eq_false, not_false_eq_true, true_implies, false_implies, and_true, true_and, or_self, or_true, true_or, or_false, false_or], h3⟩
  · have gk : ((nI 5).toInt < 1 ∨ 6 < (nI 5).toInt) = False := sw_in (by omega) (by omega) (by omega)
    obtain ⟨z0, y0, a0, b0⟩ := hn 0 (by decide)
    obtain ⟨z1, y1, a1, b1⟩ := hn 1 (by decide)
    obtain ⟨z2, y2, a2, b2⟩ := hn 2 (by decide)
    obtain ⟨r, x', S', h1, h2, h3⟩ := sim_grade hR (nI z0) (nI z1) (nI z2)
    exact ⟨r, x', S', fun post => by simp only [s_X4_perform, hk, L4_0, L4_1, L4_2, L4_3, L4_4, L4_5, L4_6, fo, t_0, t_1, t_2, t_3, a0, b0, a1, b1, a2, b2, h1, e10, z01, b_all, not_true_eq_false, not_false_eq_true, true_implies, false_implies, and_true, true_and, or_self, or_true, true_or, or_false, false_or], fun post => by simp only [s_X7_called, show nI (4 + 1) = nI 5 from rfl, L5_1, L5_2, L5_3, L5_4, L5_5, L5_6, gk, t_0, t_1, t_2, t_3, a0, b0, a1, b1, a2, b2, h2, e10, z01, b_all, not_true_eq_false, not_false_eq_true, true_implies, false_implies, and_true, true_and, or_self, or_true, true_or, or_false, false_or], h3⟩
  · have gk : ((nI 6).toInt < 1 ∨ 6 < (nI 6).toInt) = False := sw_in (by omega) (by omega) (by omega)
    obtain ⟨z0, y0, a0, b0⟩ := hn 0 (by decide)
    obtain ⟨z1, y1, a1, b1⟩ := hn 1 (by decide)
    obtain ⟨z2, y2, a2, b2⟩ := hn 2 (by decide)
    obtain ⟨z3, y3, a3, b3⟩ := hn 3 (by decide)
    obtain ⟨r, x', S', h1, h2, h3⟩ := sim_rate hR (nI z0) (nI z1) (nI z2) (nI z3)
    exact ⟨r, x', S', fun post => by simp only [s_X4_perform, hk, L5_0, L5_1, L5_2, L5_3, L5_4, L5_5, L5_6, fo, t_0, t_1, t_2, t_3, a0, b0, a1, b1, a2, b2, a3, b3, h1, e10, z01, b_all, not_true_eq_false, not_false_eq_true, true_implies, false_implies, and_true, true_and, or_self, or_true, true_or, or_false, false_or], fun post => by simp only [s_X7_called, show nI (5 + 1) = nI 6 from rfl, L6_1, L6_2, L6_3, L6_4, L6_5, L6_6, gk, t_0, t_1, t_2, t_3, a0, b0, a1, b1, a2, b2, a3, b3, h2, e10, z01, b_all, not_true_eq_false, not_false_eq_true, true_implies, false_implies, and_true, true_and, or_self, or_true, true_or, or_false, false_or], h3⟩
  · have gk : ((nI 7).toInt < 1 ∨ 6 < (nI 7).toInt) = True := eq_true (Or.inr (by decide))
    obtain ⟨z0, y0, a0, b0⟩ := hn 0 (by decide)
    obtain ⟨r, x', S', h1, h2, h3⟩ := sim_pause hR (nI z0)
    exact ⟨r, x', S', fun post => by simp only [s_X4_perform, hk, L6_0, L6_1, L6_2, L6_3, L6_4, L6_5, L6_6, fo, t_0, t_1, t_2, t_3, a0, b0, h1, e10, z01, b_all, not_true_eq_false, not_false_eq_true, true_implies, false_implies, and_true, true_and, or_self, or_true, true_or, or_false, false_or], fun post => by simp only [s_X7_called, show nI (6 + 1) = nI 7 from rfl, L7_1, L7_2, L7_3, L7_4, L7_5, L7_6, gk, t_0, t_1, t_2, t_3, a0, b0, h2, e10, z01, b_all, not_true_eq_false, not_false_eq_true, true_implies, false_implies, and_true, true_and, or_self, or_true, true_or, or_false, false_or], h3⟩
