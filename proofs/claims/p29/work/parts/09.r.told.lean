/-! PURE 18: what is told: the same on both sides -/
def Qy (C D : (Int32 → V → Prop) → Prop) (v w : V) : Prop := ∃ r, (∀ post, C post = post r v) ∧ (∀ post, D post = post r w)
theorem Qy.mk {C D : (Int32 → V → Prop) → Prop} {v w : V} {r : Int32} (h1 : ∀ post, C post = post r v) (h2 : ∀ post, D post = post r w) : Qy C D v w := ⟨r, h1, h2⟩
theorem q_non {n : Nat} {post : Int32 → Prop} (h : n < 2147483648) : s_X7_orNone (nI n) post = post (nI n) := by
  unfold s_X7_orNone
  exact b_t (nI_pos' (by omega))
theorem q_nom {post : Int32 → Prop} : s_X7_orNone (-1) post = post (-10000004) := by
  unfold s_X7_orNone
  exact b_f (by decide)
/-- a number of a switch: one of 0..N, or none -/
theorem sw_no {x : Int32} {N c : Nat} (h : x < 0 ∨ nI N < x) (hN : N < 1000) (hc : c ≤ N) : (x = nI c) = False := eq_false (by
  rintro rfl
  rcases h with h | h
  · exact n_neg (by omega) h
  · rw [n_lt (by omega) (by omega)] at h
    omega)
theorem sw_out {x : Int32} {N : Nat} (h : x < 0 ∨ nI N < x) (hN : N < 1000) : (x.toInt < 0 ∨ (N : Int) < x.toInt) = True := eq_true (by
  rcases h with h | h
  · rw [Int32.lt_iff_toInt_lt] at h
    exact Or.inl h
  · rw [Int32.lt_iff_toInt_lt, nI_toInt (by omega)] at h
    exact Or.inr h)
theorem sw_in {c : Nat} {a b : Int} (hc : c < 1000) (ha : a ≤ c) (hb : (c : Int) ≤ b) : ((nI c).toInt < a ∨ b < (nI c).toInt) = False := eq_false (by
  rw [nI_toInt (by omega)]
  omega)
theorem sw_lo {c : Nat} {a b : Int} (hc : c < 1000) (ha : (c : Int) < a) : ((nI c).toInt < a ∨ b < (nI c).toInt) = True := eq_true (by
  rw [nI_toInt (by omega)]
  omega)
theorem j_worth_st {v w : V} {nd ns nm t g e l k : Nat} {x : Int32} (hRn : Rn v (w 1) nd ns nm t g e l) (hkn : k < ns) (acc : Int32) : ∃ acc', (∀ post k0 rec, sb_X1_worthOf_4 post x k0 rec acc (nI k) v = rec acc' (nI (k + 1)) v) ∧ (∀ post k0 rec, sb_X7_worth_4 post x k0 rec acc (nI k) w = rec acc' (nI (k + 1)) w) := by
  obtain ⟨hg, hb, ⟨hP, hT⟩, hk, h0, hm, hB⟩ := hRn
  obtain ⟨n1, n2, n3, n4, n5, n6, v04, S0, v60, S1, v160, S2, v05, S3, L4, S5, v06, S6, v07, S7⟩ := hg
  have k20 : k < 20 := by omega
  obtain ⟨⟨e0, e1, e2, e3, e4, e5, e6, e7, e8⟩, hO, hc⟩ := hk k hkn
  have hle : (nI ns ≤ nI k) = False := eq_false (nI_ge (by omega) (by omega))
  have p1 : ∀ post, s_X1_priceOf v (nI k) post = post (pS (w 1) k) v := fun post => k_price hP hT hO e0 e1 e2 k20
  have p2 : ∀ post, s_X7_price w (nI k) post = post (pS (w 1) k) w := fun post => q_price hT hO k20
  have hm1 : ((-1 : Int32) ≤ 0) = True := eq_true (by decide)
  by_cases hx : w 1 (14 + 10 * k + 3) = x
  · rcases pS_m1 hT hO with ⟨h1, -⟩ | ⟨y, hy, h1, -⟩
    · refine ⟨acc, fun post k0 rec => ?_, fun post k0 rec => ?_⟩
      · simp (disch := omega) only [sb_X1_worthOf_4, p1, h1, hx, t_1, v60, S1, hle, vp_in_nI, tn_nI, nI_1, Int32.add_zero, e3, e4, e5, e6, e7, q_of3 k20, q_of4 k20, q_of5 k20, q_of6 k20, q_of7 k20, e10, z01, b_all, not_true_eq_false, not_false_eq_true, true_implies, false_implies, and_true, true_and, or_self, or_true, true_or, or_false, false_or]
      · simp (disch := omega) only [sb_X7_worth_4, p2, h1, hx, hm1, t_1, v60, S1, hle, vp_in_nI, tn_nI, nI_1, Int32.add_zero, e3, e4, e5, e6, e7, q_of3 k20, q_of4 k20, q_of5 k20, q_of6 k20, q_of7 k20, e10, z01, b_all, not_true_eq_false, not_false_eq_true, true_implies, false_implies, and_true, true_and, or_self, or_true, true_or, or_false, false_or]
    · have q1 : (nI y = -1) = False := eq_false (n_m1 (by omega))
      refine ⟨acc + nI y, fun post k0 rec => ?_, fun post k0 rec => ?_⟩
      · simp (disch := omega) only [sb_X1_worthOf_4, p1, h1, hx, q1, t_1, v60, S1, hle, vp_in_nI, tn_nI, nI_1, Int32.add_zero, e3, e4, e5, e6, e7, q_of3 k20, q_of4 k20, q_of5 k20, q_of6 k20, q_of7 k20, e10, z01, b_all, not_true_eq_false, not_false_eq_true, true_implies, false_implies, and_true, true_and, or_self, or_true, true_or, or_false, false_or]
      · by_cases hy0 : y = 0
        · have q2 : (nI y ≤ 0) = True := eq_true (by subst hy0; decide)
          simp (disch := omega) only [sb_X7_worth_4, p2, h1, hx, q2, t_1, v60, S1, hle, vp_in_nI, tn_nI, nI_1, Int32.add_zero, e3, e4, e5, e6, e7, q_of3 k20, q_of4 k20, q_of5 k20, q_of6 k20, q_of7 k20, e10, z01, b_all, not_true_eq_false, not_false_eq_true, true_implies, false_implies, and_true, true_and, or_self, or_true, true_or, or_false, false_or]
          rw [hy0, show nI 0 = 0 from rfl, Int32.add_zero]
        · have q2 : (nI y ≤ 0) = False := eq_false (nI_nle (by omega) (by omega))
          simp (disch := omega) only [sb_X7_worth_4, p2, h1, hx, q2, t_1, v60, S1, hle, vp_in_nI, tn_nI, nI_1, Int32.add_zero, e3, e4, e5, e6, e7, q_of3 k20, q_of4 k20, q_of5 k20, q_of6 k20, q_of7 k20, e10, z01, b_all, not_true_eq_false, not_false_eq_true, true_implies, false_implies, and_true, true_and, or_self, or_true, true_or, or_false, false_or]
  · refine ⟨acc, fun post k0 rec => ?_, fun post k0 rec => ?_⟩
    · simp (disch := omega) only [sb_X1_worthOf_4, p1, eq_false hx, t_1, v60, S1, hle, vp_in_nI, tn_nI, nI_1, Int32.add_zero, e3, e4, e5, e6, e7, q_of3 k20, q_of4 k20, q_of5 k20, q_of6 k20, q_of7 k20, e10, z01, b_all, not_true_eq_false, not_false_eq_true, true_implies, false_implies, and_true, true_and, or_self, or_true, true_or, or_false, false_or]
    · simp (disch := omega) only [sb_X7_worth_4, p2, eq_false hx, t_1, v60, S1, hle, vp_in_nI, tn_nI, nI_1, Int32.add_zero, e3, e4, e5, e6, e7, q_of3 k20, q_of4 k20, q_of5 k20, q_of6 k20, q_of7 k20, e10, z01, b_all, not_true_eq_false, not_false_eq_true, true_implies, false_implies, and_true, true_and, or_self, or_true, true_or, or_false, false_or]
theorem j_worth {v w : V} {nd ns nm t g e l : Nat} {x : Int32} (hRn : Rn v (w 1) nd ns nm t g e l) : ∀ d k acc, k + d = ns → ∃ r, (∀ post k0, (∃ n, sl_X1_worthOf_4 post x k0 n acc (nI k) v) = k0 r (nI ns) v) ∧ (∀ post k0, (∃ n, sl_X7_worth_4 post x k0 n acc (nI k) w) = k0 r (nI ns) w) := by
  intro d
  induction d with
  | zero =>
    intro k acc hk
    obtain rfl : k = ns := by omega
    obtain ⟨hg, -⟩ := hRn
    obtain ⟨n1, n2, n3, n4, n5, n6, v04, S0, v60, S1, v160, S2, v05, S3, L4, S5, v06, S6, v07, S7⟩ := hg
    exact ⟨acc, fun post k0 => xo_X1_worthOf_4 (fun rec => b_t (show v 6 0 ≤ nI k by rw [v60]; exact Int32.le_refl _)), fun post k0 => xo_X7_worth_4 (fun rec => b_t (show w 1 1 ≤ nI k by rw [S1]; exact Int32.le_refl _))⟩
  | succ d ih =>
    intro k acc hk
    obtain ⟨a1, h1, h2⟩ := j_worth_st  hRn (show k < ns by omega) acc
    obtain ⟨r, h3, h4⟩ := ih (k + 1) a1 (by omega)
    exact ⟨r, fun post k0 => (xs_X1_worthOf_4 (fun rec => h1 post k0 rec)).trans (h3 post k0), fun post k0 => (xs_X7_worth_4 (fun rec => h2 post k0 rec)).trans (h4 post k0)⟩
theorem j_askT_st {v w : V} {nd ns nm t g e l k : Nat} {x : Int32} (hRn : Rn v (w 1) nd ns nm t g e l) (hkn : k < ns) (acc : Int32) : ∃ acc', (∀ post k0 rec, sb_X5_sumAsked_11_5 post x k0 rec acc (nI k) v = rec acc' (nI (k + 1)) v) ∧ (∀ post k0 rec, sb_X7_askedBy_5 post x 1 k0 rec acc (nI k) w = rec acc' (nI (k + 1)) w) := by
  obtain ⟨hg, hb, ⟨hP, hT⟩, hk, h0, hm, hB⟩ := hRn
  obtain ⟨n1, n2, n3, n4, n5, n6, v04, S0, v60, S1, v160, S2, v05, S3, L4, S5, v06, S6, v07, S7⟩ := hg
  have k20 : k < 20 := by omega
  obtain ⟨⟨e0, e1, e2, e3, e4, e5, e6, e7, e8⟩, hO, hc⟩ := hk k hkn
  have hle : (nI ns ≤ nI k) = False := eq_false (nI_ge (by omega) (by omega))
  rcases hc with ⟨o, cc, q1, q2, q3, q4, q5, q6, q7⟩ | ⟨q, cc, q1, q2, q3, q4, q5, q6, q7, q8⟩ | ⟨o, hh, m, a, cc, g1, g2, g3, g4, g5, g6, g7, g8, g9, g10, g11, g12, g13, g14⟩
  · refine ⟨acc, fun post k0 rec => ?_, fun post k0 rec => ?_⟩
    · simp (disch := omega) only [sb_X5_sumAsked_11_5, k_isOut_f k20 (e5.trans q5), t_1, v60, S1, hle, vp_in_nI, tn_nI, nI_1, Int32.add_zero, e3, e4, e5, e6, e7, q_of3 k20, q_of4 k20, q_of5 k20, q_of6 k20, q_of7 k20, e10, z01, b_all, not_true_eq_false, not_false_eq_true, true_implies, false_implies, and_true, true_and, or_self, or_true, true_or, or_false, false_or]
    · simp (disch := omega) only [sb_X7_askedBy_5, q_isOut_f k20 q5, t_1, v60, S1, hle, vp_in_nI, tn_nI, nI_1, Int32.add_zero, e3, e4, e5, e6, e7, q_of3 k20, q_of4 k20, q_of5 k20, q_of6 k20, q_of7 k20, e10, z01, b_all, not_true_eq_false, not_false_eq_true, true_implies, false_implies, and_true, true_and, or_self, or_true, true_or, or_false, false_or]
  · refine ⟨acc, fun post k0 rec => ?_, fun post k0 rec => ?_⟩
    · simp (disch := omega) only [sb_X5_sumAsked_11_5, k_isOut_f k20 (e5.trans q6), t_1, v60, S1, hle, vp_in_nI, tn_nI, nI_1, Int32.add_zero, e3, e4, e5, e6, e7, q_of3 k20, q_of4 k20, q_of5 k20, q_of6 k20, q_of7 k20, e10, z01, b_all, not_true_eq_false, not_false_eq_true, true_implies, false_implies, and_true, true_and, or_self, or_true, true_or, or_false, false_or]
    · simp (disch := omega) only [sb_X7_askedBy_5, q_isOut_f k20 q6, t_1, v60, S1, hle, vp_in_nI, tn_nI, nI_1, Int32.add_zero, e3, e4, e5, e6, e7, q_of3 k20, q_of4 k20, q_of5 k20, q_of6 k20, q_of7 k20, e10, z01, b_all, not_true_eq_false, not_false_eq_true, true_implies, false_implies, and_true, true_and, or_self, or_true, true_or, or_false, false_or]
  · have m10 : m < 10 := by omega
    by_cases hx : nI hh = x
    · refine ⟨acc + nI a, fun post k0 rec => ?_, fun post k0 rec => ?_⟩
      · simp (disch := omega) only [sb_X5_sumAsked_11_5, k_isOut_t k20 (show m < 1000000 by omega) (e5.trans g9), g7, g8, g10, hx, t_1, v60, S1, hle, vp_in_nI, tn_nI, nI_1, Int32.add_zero, e3, e4, e5, e6, e7, q_of3 k20, q_of4 k20, q_of5 k20, q_of6 k20, q_of7 k20, e10, z01, b_all, not_true_eq_false, not_false_eq_true, true_implies, false_implies, and_true, true_and, or_self, or_true, true_or, or_false, false_or]
      · simp (disch := omega) only [sb_X7_askedBy_5, q_isOut_t k20 (show m < 1000000 by omega) g9, g9, q_me1 m10, g14, g10, hx, t_1, v60, S1, hle, vp_in_nI, tn_nI, nI_1, Int32.add_zero, e3, e4, e5, e6, e7, q_of3 k20, q_of4 k20, q_of5 k20, q_of6 k20, q_of7 k20, e10, z01, b_all, not_true_eq_false, not_false_eq_true, true_implies, false_implies, and_true, true_and, or_self, or_true, true_or, or_false, false_or]
    · refine ⟨acc, fun post k0 rec => ?_, fun post k0 rec => ?_⟩
      · simp (disch := omega) only [sb_X5_sumAsked_11_5, k_isOut_t k20 (show m < 1000000 by omega) (e5.trans g9), g7, g8, g10, eq_false hx, t_1, v60, S1, hle, vp_in_nI, tn_nI, nI_1, Int32.add_zero, e3, e4, e5, e6, e7, q_of3 k20, q_of4 k20, q_of5 k20, q_of6 k20, q_of7 k20, e10, z01, b_all, not_true_eq_false, not_false_eq_true, true_implies, false_implies, and_true, true_and, or_self, or_true, true_or, or_false, false_or]
      · simp (disch := omega) only [sb_X7_askedBy_5, q_isOut_t k20 (show m < 1000000 by omega) g9, g9, q_me1 m10, g14, g10, eq_false hx, t_1, v60, S1, hle, vp_in_nI, tn_nI, nI_1, Int32.add_zero, e3, e4, e5, e6, e7, q_of3 k20, q_of4 k20, q_of5 k20, q_of6 k20, q_of7 k20, e10, z01, b_all, not_true_eq_false, not_false_eq_true, true_implies, false_implies, and_true, true_and, or_self, or_true, true_or, or_false, false_or]
theorem j_askT {v w : V} {nd ns nm t g e l : Nat} {x : Int32} (hRn : Rn v (w 1) nd ns nm t g e l) : ∀ d k acc, k + d = ns → ∃ r, (∀ post k0, (∃ n, sl_X5_sumAsked_11_5 post x k0 n acc (nI k) v) = k0 r (nI ns) v) ∧ (∀ post k0, (∃ n, sl_X7_askedBy_5 post x 1 k0 n acc (nI k) w) = k0 r (nI ns) w) := by
  intro d
  induction d with
  | zero =>
    intro k acc hk
    obtain rfl : k = ns := by omega
    obtain ⟨hg, -⟩ := hRn
    obtain ⟨n1, n2, n3, n4, n5, n6, v04, S0, v60, S1, v160, S2, v05, S3, L4, S5, v06, S6, v07, S7⟩ := hg
    exact ⟨acc, fun post k0 => xo_X5_sumAsked_11_5 (fun rec => b_t (show v 6 0 ≤ nI k by rw [v60]; exact Int32.le_refl _)), fun post k0 => xo_X7_askedBy_5 (fun rec => b_t (show w 1 1 ≤ nI k by rw [S1]; exact Int32.le_refl _))⟩
  | succ d ih =>
    intro k acc hk
    obtain ⟨a1, h1, h2⟩ := j_askT_st  hRn (show k < ns by omega) acc
    obtain ⟨r, h3, h4⟩ := ih (k + 1) a1 (by omega)
    exact ⟨r, fun post k0 => (xs_X5_sumAsked_11_5 (fun rec => h1 post k0 rec)).trans (h3 post k0), fun post k0 => (xs_X7_askedBy_5 (fun rec => h2 post k0 rec)).trans (h4 post k0)⟩
theorem j_askF_st {v w : V} {nd ns nm t g e l k : Nat} {x : Int32} (hRn : Rn v (w 1) nd ns nm t g e l) (hkn : k < ns) (acc : Int32) : ∃ acc', (∀ post k0 rec, sb_X5_sumAsked_10_5 post x k0 rec acc (nI k) v = rec acc' (nI (k + 1)) v) ∧ (∀ post k0 rec, sb_X7_askedBy_5 post x 0 k0 rec acc (nI k) w = rec acc' (nI (k + 1)) w) := by
  obtain ⟨hg, hb, ⟨hP, hT⟩, hk, h0, hm, hB⟩ := hRn
  obtain ⟨n1, n2, n3, n4, n5, n6, v04, S0, v60, S1, v160, S2, v05, S3, L4, S5, v06, S6, v07, S7⟩ := hg
  have k20 : k < 20 := by omega
  obtain ⟨⟨e0, e1, e2, e3, e4, e5, e6, e7, e8⟩, hO, hc⟩ := hk k hkn
  have hle : (nI ns ≤ nI k) = False := eq_false (nI_ge (by omega) (by omega))
  rcases hc with ⟨o, cc, q1, q2, q3, q4, q5, q6, q7⟩ | ⟨q, cc, q1, q2, q3, q4, q5, q6, q7, q8⟩ | ⟨o, hh, m, a, cc, g1, g2, g3, g4, g5, g6, g7, g8, g9, g10, g11, g12, g13, g14⟩
  · refine ⟨acc, fun post k0 rec => ?_, fun post k0 rec => ?_⟩
    · simp (disch := omega) only [sb_X5_sumAsked_10_5, k_isOut_f k20 (e5.trans q5), t_1, v60, S1, hle, vp_in_nI, tn_nI, nI_1, Int32.add_zero, e3, e4, e5, e6, e7, q_of3 k20, q_of4 k20, q_of5 k20, q_of6 k20, q_of7 k20, e10, z01, b_all, not_true_eq_false, not_false_eq_true, true_implies, false_implies, and_true, true_and, or_self, or_true, true_or, or_false, false_or]
    · simp (disch := omega) only [sb_X7_askedBy_5, q_isOut_f k20 q5, t_1, v60, S1, hle, vp_in_nI, tn_nI, nI_1, Int32.add_zero, e3, e4, e5, e6, e7, q_of3 k20, q_of4 k20, q_of5 k20, q_of6 k20, q_of7 k20, e10, z01, b_all, not_true_eq_false, not_false_eq_true, true_implies, false_implies, and_true, true_and, or_self, or_true, true_or, or_false, false_or]
  · refine ⟨acc, fun post k0 rec => ?_, fun post k0 rec => ?_⟩
    · simp (disch := omega) only [sb_X5_sumAsked_10_5, k_isOut_f k20 (e5.trans q6), t_1, v60, S1, hle, vp_in_nI, tn_nI, nI_1, Int32.add_zero, e3, e4, e5, e6, e7, q_of3 k20, q_of4 k20, q_of5 k20, q_of6 k20, q_of7 k20, e10, z01, b_all, not_true_eq_false, not_false_eq_true, true_implies, false_implies, and_true, true_and, or_self, or_true, true_or, or_false, false_or]
    · simp (disch := omega) only [sb_X7_askedBy_5, q_isOut_f k20 q6, t_1, v60, S1, hle, vp_in_nI, tn_nI, nI_1, Int32.add_zero, e3, e4, e5, e6, e7, q_of3 k20, q_of4 k20, q_of5 k20, q_of6 k20, q_of7 k20, e10, z01, b_all, not_true_eq_false, not_false_eq_true, true_implies, false_implies, and_true, true_and, or_self, or_true, true_or, or_false, false_or]
  · have m10 : m < 10 := by omega
    by_cases hx : nI o = x
    · refine ⟨acc + nI a, fun post k0 rec => ?_, fun post k0 rec => ?_⟩
      · simp (disch := omega) only [sb_X5_sumAsked_10_5, k_isOut_t k20 (show m < 1000000 by omega) (e5.trans g9), g7, g8, g10, hx, t_1, v60, S1, hle, vp_in_nI, tn_nI, nI_1, Int32.add_zero, e3, e4, e5, e6, e7, q_of3 k20, q_of4 k20, q_of5 k20, q_of6 k20, q_of7 k20, e10, z01, b_all, not_true_eq_false, not_false_eq_true, true_implies, false_implies, and_true, true_and, or_self, or_true, true_or, or_false, false_or]
      · simp (disch := omega) only [sb_X7_askedBy_5, q_isOut_t k20 (show m < 1000000 by omega) g9, g9, q_me0 m10, g13, g10, hx, t_1, v60, S1, hle, vp_in_nI, tn_nI, nI_1, Int32.add_zero, e3, e4, e5, e6, e7, q_of3 k20, q_of4 k20, q_of5 k20, q_of6 k20, q_of7 k20, e10, z01, b_all, not_true_eq_false, not_false_eq_true, true_implies, false_implies, and_true, true_and, or_self, or_true, true_or, or_false, false_or]
    · refine ⟨acc, fun post k0 rec => ?_, fun post k0 rec => ?_⟩
      · simp (disch := omega) only [sb_X5_sumAsked_10_5, k_isOut_t k20 (show m < 1000000 by omega) (e5.trans g9), g7, g8, g10, eq_false hx, t_1, v60, S1, hle, vp_in_nI, tn_nI, nI_1, Int32.add_zero, e3, e4, e5, e6, e7, q_of3 k20, q_of4 k20, q_of5 k20, q_of6 k20, q_of7 k20, e10, z01, b_all, not_true_eq_false, not_false_eq_true, true_implies, false_implies, and_true, true_and, or_self, or_true, true_or, or_false, false_or]
      · simp (disch := omega) only [sb_X7_askedBy_5, q_isOut_t k20 (show m < 1000000 by omega) g9, g9, q_me0 m10, g13, g10, eq_false hx, t_1, v60, S1, hle, vp_in_nI, tn_nI, nI_1, Int32.add_zero, e3, e4, e5, e6, e7, q_of3 k20, q_of4 k20, q_of5 k20, q_of6 k20, q_of7 k20, e10, z01, b_all, not_true_eq_false, not_false_eq_true, true_implies, false_implies, and_true, true_and, or_self, or_true, true_or, or_false, false_or]
theorem j_askF {v w : V} {nd ns nm t g e l : Nat} {x : Int32} (hRn : Rn v (w 1) nd ns nm t g e l) : ∀ d k acc, k + d = ns → ∃ r, (∀ post k0, (∃ n, sl_X5_sumAsked_10_5 post x k0 n acc (nI k) v) = k0 r (nI ns) v) ∧ (∀ post k0, (∃ n, sl_X7_askedBy_5 post x 0 k0 n acc (nI k) w) = k0 r (nI ns) w) := by
  intro d
  induction d with
  | zero =>
    intro k acc hk
    obtain rfl : k = ns := by omega
    obtain ⟨hg, -⟩ := hRn
    obtain ⟨n1, n2, n3, n4, n5, n6, v04, S0, v60, S1, v160, S2, v05, S3, L4, S5, v06, S6, v07, S7⟩ := hg
    exact ⟨acc, fun post k0 => xo_X5_sumAsked_10_5 (fun rec => b_t (show v 6 0 ≤ nI k by rw [v60]; exact Int32.le_refl _)), fun post k0 => xo_X7_askedBy_5 (fun rec => b_t (show w 1 1 ≤ nI k by rw [S1]; exact Int32.le_refl _))⟩
  | succ d ih =>
    intro k acc hk
    obtain ⟨a1, h1, h2⟩ := j_askF_st  hRn (show k < ns by omega) acc
    obtain ⟨r, h3, h4⟩ := ih (k + 1) a1 (by omega)
    exact ⟨r, fun post k0 => (xs_X5_sumAsked_10_5 (fun rec => h1 post k0 rec)).trans (h3 post k0), fun post k0 => (xs_X7_askedBy_5 (fun rec => h2 post k0 rec)).trans (h4 post k0)⟩
theorem c29 : (nI 2 = 9) = False := eq_false (by decide)
theorem c22 : (nI 2 = 2) = True := eq_true rfl
theorem c39 : (nI 3 = 9) = False := eq_false (by decide)
theorem c32 : (nI 3 = 2) = False := eq_false (by decide)
theorem c99 : (nI 9 = 9) = True := eq_true rfl
theorem j_sold_st {v w : V} {nd ns nm t g e l k : Nat}  (hRn : Rn v (w 1) nd ns nm t g e l) (hkn : k < ns) (acc : Int32) : ∃ acc', (∀ post k0 rec, sb_X5_countSold_4 post  k0 rec acc (nI k) v = rec acc' (nI (k + 1)) v) ∧ (∀ post k0 rec, sb_X7_stonesOf_4 post (nI 2) k0 rec acc (nI k) w = rec acc' (nI (k + 1)) w) := by
  obtain ⟨hg, hb, ⟨hP, hT⟩, hk, h0, hm, hB⟩ := hRn
  obtain ⟨n1, n2, n3, n4, n5, n6, v04, S0, v60, S1, v160, S2, v05, S3, L4, S5, v06, S6, v07, S7⟩ := hg
  have k20 : k < 20 := by omega
  obtain ⟨⟨e0, e1, e2, e3, e4, e5, e6, e7, e8⟩, hO, hc⟩ := hk k hkn
  have hle : (nI ns ≤ nI k) = False := eq_false (nI_ge (by omega) (by omega))
  rcases hc with ⟨o, cc, q1, q2, q3, q4, q5, q6, q7⟩ | ⟨q, cc, q1, q2, q3, q4, q5, q6, q7, q8⟩ | ⟨o, hh, m, a, cc, g1, g2, g3, g4, g5, g6, g7, g8, g9, g10, g11, g12, g13, g14⟩
  · refine ⟨acc, fun post k0 rec => ?_, fun post k0 rec => ?_⟩
    · simp (disch := omega) only [sb_X5_countSold_4, k_isSold_f k20 (e7.trans q6), t_1, v60, S1, hle, vp_in_nI, tn_nI, nI_1, Int32.add_zero, e3, e4, e5, e6, e7, q_of3 k20, q_of4 k20, q_of5 k20, q_of6 k20, q_of7 k20, e10, z01, b_all, not_true_eq_false, not_false_eq_true, true_implies, false_implies, and_true, true_and, or_self, or_true, true_or, or_false, false_or]
    · simp (disch := omega) only [sb_X7_stonesOf_4, c29, c22, q_isSold_f k20 (show o < 1000000 by omega) q3, t_1, v60, S1, hle, vp_in_nI, tn_nI, nI_1, Int32.add_zero, e3, e4, e5, e6, e7, q_of3 k20, q_of4 k20, q_of5 k20, q_of6 k20, q_of7 k20, e10, z01, b_all, not_true_eq_false, not_false_eq_true, true_implies, false_implies, and_true, true_and, or_self, or_true, true_or, or_false, false_or]
  · refine ⟨acc + 1, fun post k0 rec => ?_, fun post k0 rec => ?_⟩
    · simp (disch := omega) only [sb_X5_countSold_4, k_isSold_t k20 (nz_of (e7.trans q7) (by omega) (by omega)), t_1, v60, S1, hle, vp_in_nI, tn_nI, nI_1, Int32.add_zero, e3, e4, e5, e6, e7, q_of3 k20, q_of4 k20, q_of5 k20, q_of6 k20, q_of7 k20, e10, z01, b_all, not_true_eq_false, not_false_eq_true, true_implies, false_implies, and_true, true_and, or_self, or_true, true_or, or_false, false_or]
    · simp (disch := omega) only [sb_X7_stonesOf_4, c29, c22, q_isSold_t k20 q4, t_1, v60, S1, hle, vp_in_nI, tn_nI, nI_1, Int32.add_zero, e3, e4, e5, e6, e7, q_of3 k20, q_of4 k20, q_of5 k20, q_of6 k20, q_of7 k20, e10, z01, b_all, not_true_eq_false, not_false_eq_true, true_implies, false_implies, and_true, true_and, or_self, or_true, true_or, or_false, false_or]
  · refine ⟨acc, fun post k0 rec => ?_, fun post k0 rec => ?_⟩
    · simp (disch := omega) only [sb_X5_countSold_4, k_isSold_f k20 (e7.trans g11), t_1, v60, S1, hle, vp_in_nI, tn_nI, nI_1, Int32.add_zero, e3, e4, e5, e6, e7, q_of3 k20, q_of4 k20, q_of5 k20, q_of6 k20, q_of7 k20, e10, z01, b_all, not_true_eq_false, not_false_eq_true, true_implies, false_implies, and_true, true_and, or_self, or_true, true_or, or_false, false_or]
    · simp (disch := omega) only [sb_X7_stonesOf_4, c29, c22, q_isSold_f k20 (show o < 1000000 by omega) g7, t_1, v60, S1, hle, vp_in_nI, tn_nI, nI_1, Int32.add_zero, e3, e4, e5, e6, e7, q_of3 k20, q_of4 k20, q_of5 k20, q_of6 k20, q_of7 k20, e10, z01, b_all, not_true_eq_false, not_false_eq_true, true_implies, false_implies, and_true, true_and, or_self, or_true, true_or, or_false, false_or]
theorem j_sold {v w : V} {nd ns nm t g e l : Nat}  (hRn : Rn v (w 1) nd ns nm t g e l) : ∀ d k acc, k + d = ns → ∃ r, (∀ post k0, (∃ n, sl_X5_countSold_4 post  k0 n acc (nI k) v) = k0 r (nI ns) v) ∧ (∀ post k0, (∃ n, sl_X7_stonesOf_4 post (nI 2) k0 n acc (nI k) w) = k0 r (nI ns) w) := by
  intro d
  induction d with
  | zero =>
    intro k acc hk
    obtain rfl : k = ns := by omega
    obtain ⟨hg, -⟩ := hRn
    obtain ⟨n1, n2, n3, n4, n5, n6, v04, S0, v60, S1, v160, S2, v05, S3, L4, S5, v06, S6, v07, S7⟩ := hg
    exact ⟨acc, fun post k0 => xo_X5_countSold_4 (fun rec => b_t (show v 6 0 ≤ nI k by rw [v60]; exact Int32.le_refl _)), fun post k0 => xo_X7_stonesOf_4 (fun rec => b_t (show w 1 1 ≤ nI k by rw [S1]; exact Int32.le_refl _))⟩
  | succ d ih =>
    intro k acc hk
    obtain ⟨a1, h1, h2⟩ := j_sold_st  hRn (show k < ns by omega) acc
    obtain ⟨r, h3, h4⟩ := ih (k + 1) a1 (by omega)
    exact ⟨r, fun post k0 => (xs_X5_countSold_4 (fun rec => h1 post k0 rec)).trans (h3 post k0), fun post k0 => (xs_X7_stonesOf_4 (fun rec => h2 post k0 rec)).trans (h4 post k0)⟩
theorem j_out_st {v w : V} {nd ns nm t g e l k : Nat}  (hRn : Rn v (w 1) nd ns nm t g e l) (hkn : k < ns) (acc : Int32) : ∃ acc', (∀ post k0 rec, sb_X5_countOut_4 post  k0 rec acc (nI k) v = rec acc' (nI (k + 1)) v) ∧ (∀ post k0 rec, sb_X7_stonesOf_4 post (nI 3) k0 rec acc (nI k) w = rec acc' (nI (k + 1)) w) := by
  obtain ⟨hg, hb, ⟨hP, hT⟩, hk, h0, hm, hB⟩ := hRn
  obtain ⟨n1, n2, n3, n4, n5, n6, v04, S0, v60, S1, v160, S2, v05, S3, L4, S5, v06, S6, v07, S7⟩ := hg
  have k20 : k < 20 := by omega
  obtain ⟨⟨e0, e1, e2, e3, e4, e5, e6, e7, e8⟩, hO, hc⟩ := hk k hkn
  have hle : (nI ns ≤ nI k) = False := eq_false (nI_ge (by omega) (by omega))
  rcases hc with ⟨o, cc, q1, q2, q3, q4, q5, q6, q7⟩ | ⟨q, cc, q1, q2, q3, q4, q5, q6, q7, q8⟩ | ⟨o, hh, m, a, cc, g1, g2, g3, g4, g5, g6, g7, g8, g9, g10, g11, g12, g13, g14⟩
  · refine ⟨acc, fun post k0 rec => ?_, fun post k0 rec => ?_⟩
    · simp (disch := omega) only [sb_X5_countOut_4, k_isOut_f k20 (e5.trans q5), t_1, v60, S1, hle, vp_in_nI, tn_nI, nI_1, Int32.add_zero, e3, e4, e5, e6, e7, q_of3 k20, q_of4 k20, q_of5 k20, q_of6 k20, q_of7 k20, e10, z01, b_all, not_true_eq_false, not_false_eq_true, true_implies, false_implies, and_true, true_and, or_self, or_true, true_or, or_false, false_or]
    · simp (disch := omega) only [sb_X7_stonesOf_4, c39, c32, q_isOut_f k20 q5, t_1, v60, S1, hle, vp_in_nI, tn_nI, nI_1, Int32.add_zero, e3, e4, e5, e6, e7, q_of3 k20, q_of4 k20, q_of5 k20, q_of6 k20, q_of7 k20, e10, z01, b_all, not_true_eq_false, not_false_eq_true, true_implies, false_implies, and_true, true_and, or_self, or_true, true_or, or_false, false_or]
  · refine ⟨acc, fun post k0 rec => ?_, fun post k0 rec => ?_⟩
    · simp (disch := omega) only [sb_X5_countOut_4, k_isOut_f k20 (e5.trans q6), t_1, v60, S1, hle, vp_in_nI, tn_nI, nI_1, Int32.add_zero, e3, e4, e5, e6, e7, q_of3 k20, q_of4 k20, q_of5 k20, q_of6 k20, q_of7 k20, e10, z01, b_all, not_true_eq_false, not_false_eq_true, true_implies, false_implies, and_true, true_and, or_self, or_true, true_or, or_false, false_or]
    · simp (disch := omega) only [sb_X7_stonesOf_4, c39, c32, q_isOut_f k20 q6, t_1, v60, S1, hle, vp_in_nI, tn_nI, nI_1, Int32.add_zero, e3, e4, e5, e6, e7, q_of3 k20, q_of4 k20, q_of5 k20, q_of6 k20, q_of7 k20, e10, z01, b_all, not_true_eq_false, not_false_eq_true, true_implies, false_implies, and_true, true_and, or_self, or_true, true_or, or_false, false_or]
  · refine ⟨acc + 1, fun post k0 rec => ?_, fun post k0 rec => ?_⟩
    · simp (disch := omega) only [sb_X5_countOut_4, k_isOut_t k20 (show m < 1000000 by omega) (e5.trans g9), t_1, v60, S1, hle, vp_in_nI, tn_nI, nI_1, Int32.add_zero, e3, e4, e5, e6, e7, q_of3 k20, q_of4 k20, q_of5 k20, q_of6 k20, q_of7 k20, e10, z01, b_all, not_true_eq_false, not_false_eq_true, true_implies, false_implies, and_true, true_and, or_self, or_true, true_or, or_false, false_or]
    · simp (disch := omega) only [sb_X7_stonesOf_4, c39, c32, q_isOut_t k20 (show m < 1000000 by omega) g9, t_1, v60, S1, hle, vp_in_nI, tn_nI, nI_1, Int32.add_zero, e3, e4, e5, e6, e7, q_of3 k20, q_of4 k20, q_of5 k20, q_of6 k20, q_of7 k20, e10, z01, b_all, not_true_eq_false, not_false_eq_true, true_implies, false_implies, and_true, true_and, or_self, or_true, true_or, or_false, false_or]
theorem j_out {v w : V} {nd ns nm t g e l : Nat}  (hRn : Rn v (w 1) nd ns nm t g e l) : ∀ d k acc, k + d = ns → ∃ r, (∀ post k0, (∃ n, sl_X5_countOut_4 post  k0 n acc (nI k) v) = k0 r (nI ns) v) ∧ (∀ post k0, (∃ n, sl_X7_stonesOf_4 post (nI 3) k0 n acc (nI k) w) = k0 r (nI ns) w) := by
  intro d
  induction d with
  | zero =>
    intro k acc hk
    obtain rfl : k = ns := by omega
    obtain ⟨hg, -⟩ := hRn
    obtain ⟨n1, n2, n3, n4, n5, n6, v04, S0, v60, S1, v160, S2, v05, S3, L4, S5, v06, S6, v07, S7⟩ := hg
    exact ⟨acc, fun post k0 => xo_X5_countOut_4 (fun rec => b_t (show v 6 0 ≤ nI k by rw [v60]; exact Int32.le_refl _)), fun post k0 => xo_X7_stonesOf_4 (fun rec => b_t (show w 1 1 ≤ nI k by rw [S1]; exact Int32.le_refl _))⟩
  | succ d ih =>
    intro k acc hk
    obtain ⟨a1, h1, h2⟩ := j_out_st  hRn (show k < ns by omega) acc
    obtain ⟨r, h3, h4⟩ := ih (k + 1) a1 (by omega)
    exact ⟨r, fun post k0 => (xs_X5_countOut_4 (fun rec => h1 post k0 rec)).trans (h3 post k0), fun post k0 => (xs_X7_stonesOf_4 (fun rec => h2 post k0 rec)).trans (h4 post k0)⟩
theorem j_sum_st {v w : V} {nd ns nm t g e l k : Nat}  (hRn : Rn v (w 1) nd ns nm t g e l) (hkn : k < ns) (acc : Int32) : ∃ acc', (∀ post k0 rec, sb_X5_sumSold_4 post  k0 rec acc (nI k) v = rec acc' (nI (k + 1)) v) ∧ (∀ post k0 rec, sb_X7_stonesOf_4 post (nI 9) k0 rec acc (nI k) w = rec acc' (nI (k + 1)) w) := by
  obtain ⟨hg, hb, ⟨hP, hT⟩, hk, h0, hm, hB⟩ := hRn
  obtain ⟨n1, n2, n3, n4, n5, n6, v04, S0, v60, S1, v160, S2, v05, S3, L4, S5, v06, S6, v07, S7⟩ := hg
  have k20 : k < 20 := by omega
  obtain ⟨⟨e0, e1, e2, e3, e4, e5, e6, e7, e8⟩, hO, hc⟩ := hk k hkn
  have hle : (nI ns ≤ nI k) = False := eq_false (nI_ge (by omega) (by omega))
  refine ⟨acc + w 1 (14 + 10 * k + 7), fun post k0 rec => ?_, fun post k0 rec => ?_⟩
  · simp (disch := omega) only [sb_X5_sumSold_4, t_1, v60, S1, hle, vp_in_nI, tn_nI, nI_1, Int32.add_zero, e3, e4, e5, e6, e7, q_of3 k20, q_of4 k20, q_of5 k20, q_of6 k20, q_of7 k20, e10, z01, b_all, not_true_eq_false, not_false_eq_true, true_implies, false_implies, and_true, true_and, or_self, or_true, true_or, or_false, false_or]
  · simp (disch := omega) only [sb_X7_stonesOf_4, c99, t_1, v60, S1, hle, vp_in_nI, tn_nI, nI_1, Int32.add_zero, e3, e4, e5, e6, e7, q_of3 k20, q_of4 k20, q_of5 k20, q_of6 k20, q_of7 k20, e10, z01, b_all, not_true_eq_false, not_false_eq_true, true_implies, false_implies, and_true, true_and, or_self, or_true, true_or, or_false, false_or]
theorem j_sum {v w : V} {nd ns nm t g e l : Nat}  (hRn : Rn v (w 1) nd ns nm t g e l) : ∀ d k acc, k + d = ns → ∃ r, (∀ post k0, (∃ n, sl_X5_sumSold_4 post  k0 n acc (nI k) v) = k0 r (nI ns) v) ∧ (∀ post k0, (∃ n, sl_X7_stonesOf_4 post (nI 9) k0 n acc (nI k) w) = k0 r (nI ns) w) := by
  intro d
  induction d with
  | zero =>
    intro k acc hk
    obtain rfl : k = ns := by omega
    obtain ⟨hg, -⟩ := hRn
    obtain ⟨n1, n2, n3, n4, n5, n6, v04, S0, v60, S1, v160, S2, v05, S3, L4, S5, v06, S6, v07, S7⟩ := hg
    exact ⟨acc, fun post k0 => xo_X5_sumSold_4 (fun rec => b_t (show v 6 0 ≤ nI k by rw [v60]; exact Int32.le_refl _)), fun post k0 => xo_X7_stonesOf_4 (fun rec => b_t (show w 1 1 ≤ nI k by rw [S1]; exact Int32.le_refl _))⟩
  | succ d ih =>
    intro k acc hk
    obtain ⟨a1, h1, h2⟩ := j_sum_st  hRn (show k < ns by omega) acc
    obtain ⟨r, h3, h4⟩ := ih (k + 1) a1 (by omega)
    exact ⟨r, fun post k0 => (xs_X5_sumSold_4 (fun rec => h1 post k0 rec)).trans (h3 post k0), fun post k0 => (xs_X7_stonesOf_4 (fun rec => h2 post k0 rec)).trans (h4 post k0)⟩
theorem set_out {v w : V} {nd ns nm t g e l : Nat} {x : Int32} (hRn : Rn v (w 1) nd ns nm t g e l) : (∀ post, s_X5_setWhere_12 v x post = post (setF (fun k => w 1 (14 + 10 * k + 5)) x ns) v) ∧ (∀ post, s_X7_outBy w x post = post (setF (fun k => w 1 (14 + 10 * k + 5)) x ns) w) := by
  obtain ⟨hg, hb, ⟨hP, hT⟩, hk, h0, hm, hB⟩ := hRn
  obtain ⟨n1, n2, n3, n4, n5, n6, v04, S0, v60, S1, -⟩ := hg
  refine ⟨fun post => ?_, fun post => q_outBy S1 n2⟩
  rw [k_memoSet v60 n2, setF_cong ns (fun i hi => (hk i hi).1.2.2.2.2.2.1)]
theorem j_open_st {v w : V} {nd ns nm t g e l k : Nat}  (hRn : Rn v (w 1) nd ns nm t g e l) (hkn : k < nm) (acc : Int32) : ∃ acc', (∀ post k0 rec, sb_X1_countOpen_4 post  k0 rec acc (nI k) v = rec acc' (nI (k + 1)) v) ∧ (∀ post k0 rec, sb_X7_openMemos_4 post  k0 rec acc (nI k) w = rec acc' (nI (k + 1)) w) := by
  have hRn' := hRn
  obtain ⟨hg, hb, ⟨hP, hT⟩, hk, h0, hm, hB⟩ := hRn
  obtain ⟨n1, n2, n3, n4, n5, n6, v04, S0, v60, S1, v160, S2, v05, S3, L4, S5, v06, S6, v07, S7⟩ := hg
  have hle : (nI nm ≤ nI k) = False := eq_false (nI_ge (by omega) (by omega))
  obtain ⟨s1, s2⟩ := set_out (x := nI k) hRn'
  by_cases hx : setF (fun j => w 1 (14 + 10 * j + 5)) (nI k) ns = 0
  · refine ⟨acc, fun post k0 rec => ?_, fun post k0 rec => ?_⟩
    · simp only [sb_X1_countOpen_4, v160, hle, s_X1_isOpen, s1, hx, nI_1, e10, z01, b_all, not_true_eq_false, not_false_eq_true, true_implies, false_implies, and_true, true_and, or_self, or_true, true_or, or_false, false_or]
    · simp only [sb_X7_openMemos_4, t_2, S2, hle, s2, hx, nI_1, Int32.add_zero, e10, z01, b_all, not_true_eq_false, not_false_eq_true, true_implies, false_implies, and_true, true_and, or_self, or_true, true_or, or_false, false_or]
  · refine ⟨acc + 1, fun post k0 rec => ?_, fun post k0 rec => ?_⟩
    · simp only [sb_X1_countOpen_4, v160, hle, s_X1_isOpen, s1, eq_false hx, nI_1, e10, z01, b_all, not_true_eq_false, not_false_eq_true, true_implies, false_implies, and_true, true_and, or_self, or_true, true_or, or_false, false_or]
    · simp only [sb_X7_openMemos_4, t_2, S2, hle, s2, eq_false hx, nI_1, Int32.add_zero, e10, z01, b_all, not_true_eq_false, not_false_eq_true, true_implies, false_implies, and_true, true_and, or_self, or_true, true_or, or_false, false_or]
theorem j_open {v w : V} {nd ns nm t g e l : Nat}  (hRn : Rn v (w 1) nd ns nm t g e l) : ∀ d k acc, k + d = nm → ∃ r, (∀ post k0, (∃ n, sl_X1_countOpen_4 post  k0 n acc (nI k) v) = k0 r (nI nm) v) ∧ (∀ post k0, (∃ n, sl_X7_openMemos_4 post  k0 n acc (nI k) w) = k0 r (nI nm) w) := by
  intro d
  induction d with
  | zero =>
    intro k acc hk
    obtain rfl : k = nm := by omega
    obtain ⟨hg, -⟩ := hRn
    obtain ⟨n1, n2, n3, n4, n5, n6, v04, S0, v60, S1, v160, S2, v05, S3, L4, S5, v06, S6, v07, S7⟩ := hg
    exact ⟨acc, fun post k0 => xo_X1_countOpen_4 (fun rec => b_t (show v 16 0 ≤ nI k by rw [v160]; exact Int32.le_refl _)), fun post k0 => xo_X7_openMemos_4 (fun rec => b_t (show w 1 2 ≤ nI k by rw [S2]; exact Int32.le_refl _))⟩
  | succ d ih =>
    intro k acc hk
    obtain ⟨a1, h1, h2⟩ := j_open_st  hRn (show k < nm by omega) acc
    obtain ⟨r, h3, h4⟩ := ih (k + 1) a1 (by omega)
    exact ⟨r, fun post k0 => (xs_X1_countOpen_4 (fun rec => h1 post k0 rec)).trans (h3 post k0), fun post k0 => (xs_X7_openMemos_4 (fun rec => h2 post k0 rec)).trans (h4 post k0)⟩
theorem k_entries {v : V} {post : Int32 → V → Prop} : s_X3_entries v post = post (nI (cz (v 5) 24)) v := by
  have key : ∀ d k, k + d = 24 → (∃ n, sl_X3_entries_4 post (fun x _ v => post x v) n (nI (cz (v 5) k)) (nI k) v) = post (nI (cz (v 5) 24)) v := by
    intro d
    induction d with
    | zero =>
      intro k hk
      obtain rfl : k = 24 := by omega
      exact xo_X3_entries_4 (fun rec => b_t (show (24 : Int32) ≤ nI 24 by decide))
    | succ d ih =>
      intro k hk
      refine (xs_X3_entries_4 (fun rec => ?_)).trans (ih (k + 1) (by omega))
      have f : ((24 : Int32) ≤ nI k) = False := eq_false (nI_ge (b := 24) (by omega) (by omega))
      by_cases hx : v 5 k = 0
      · simp (disch := omega) only [sb_X3_entries_4, f, vp_in_nI, tn_nI, hx, cz, if_true, Nat.add_zero, nI_1, e10, z01, b_all, not_true_eq_false, not_false_eq_true, true_implies, false_implies, and_true, true_and, or_self, or_true, true_or, or_false, false_or]
      · simp (disch := omega) only [sb_X3_entries_4, f, vp_in_nI, tn_nI, eq_false hx, cz, if_false, nI_1, e10, z01, b_all, not_true_eq_false, not_false_eq_true, true_implies, false_implies, and_true, true_and, or_self, or_true, true_or, or_false, false_or]
  exact key 24 0 rfl
theorem k_bal {v : V} {nd : Nat} {post : Int32 → V → Prop} (h : v 0 4 = nI nd) (hd : nd ≤ 6) : s_X1_sumOfBalances v post = post (sI (v 22) nd) v := by
  have key : ∀ d k, k + d = nd → (∃ n, sl_X1_sumOfBalances_4 post (fun x _ v => post x v) n (sI (v 22) k) (nI k) v) = post (sI (v 22) nd) v := by
    intro d
    induction d with
    | zero =>
      intro k hk
      obtain rfl : k = nd := by omega
      exact xo_X1_sumOfBalances_4 (fun rec => b_t (show v 0 4 ≤ nI k by rw [h]; exact Int32.le_refl _))
    | succ d ih =>
      intro k hk
      refine (xs_X1_sumOfBalances_4 (fun rec => ?_)).trans (ih (k + 1) (by omega))
      have f : (nI nd ≤ nI k) = False := eq_false (nI_ge (by omega) (by omega))
      simp (disch := omega) only [sb_X1_sumOfBalances_4, h, f, vp_in_nI, tn_nI, sI, nI_1, e10, z01, b_all, not_true_eq_false, not_false_eq_true, true_implies, false_implies, and_true, true_and, or_self, or_true, true_or, or_false, false_or]
  exact key nd 0 (by omega)
theorem q_bal {w : V} {post : Int32 → V → Prop} : s_X7_balances w post = post (sI (fun d => w 1 (8 + d)) 6) w := by
  have key : ∀ d k, k + d = 6 → (∃ n, sl_X7_balances_4 post (fun x _ v => post x v) n (sI (fun d => w 1 (8 + d)) k) (nI k) w) = post (sI (fun d => w 1 (8 + d)) 6) w := by
    intro d
    induction d with
    | zero =>
      intro k hk
      obtain rfl : k = 6 := by omega
      exact xo_X7_balances_4 (fun rec => b_t (show (6 : Int32) ≤ nI 6 by decide))
    | succ d ih =>
      intro k hk
      refine (xs_X7_balances_4 (fun rec => ?_)).trans (ih (k + 1) (by omega))
      have f : ((6 : Int32) ≤ nI k) = False := eq_false (nI_ge (b := 6) (by omega) (by omega))
      simp (disch := omega) only [sb_X7_balances_4, f, l8, vp_in_nI, tn_nI, sI, nI_1, e10, z01, b_all, not_true_eq_false, not_false_eq_true, true_implies, false_implies, and_true, true_and, or_self, or_true, true_or, or_false, false_or]
  exact key 6 0 rfl
theorem sI_cut {f g : Nat → Int32} {n : Nat} (h1 : ∀ d, d < n → f d = g d) : ∀ k, (∀ d, n ≤ d → d < n + k → g d = 0) → sI f n = sI g (n + k)
  | 0, _ => by
    have : ∀ j, j ≤ n → sI f j = sI g j := by
      intro j
      induction j with
      | zero => intro _; rfl
      | succ j ih =>
        intro hj
        rw [sI, sI, ih (by omega), h1 j (by omega)]
    exact this n (Nat.le_refl _)
  | k + 1, h => by
    rw [show n + (k + 1) = n + k + 1 by omega, sI, h (n + k) (by omega) (by omega), Int32.add_zero]
    exact sI_cut h1 k (fun d a b => h d a (by omega))
