/-! PURE 21: best, grades -/
def bInv (S : Nat → Int32) (ns : Nat) (found dear : Int32) : Prop := found = -1 ∨ ∃ f x, f < ns ∧ found = nI f ∧ dear = nI x ∧ x ≤ 99890 ∧ pS S f = nI x
theorem best_st {v w : V} {nd ns nm t g e l k c : Nat} {x : Int32} (hRn : Rn v (w 1) nd ns nm t g e l) (hkn : k < ns) (hc9 : c ≤ 99999) (found dear : Int32) (hI : bInv (w 1) ns found dear) : ∃ found' dear', bInv (w 1) ns found' dear' ∧ (∀ post k0 rec, sb_X1_dearestHeld_8 post x (nI c) k0 rec found dear (nI k) v = rec found' dear' (nI (k + 1)) v) ∧ (∀ post k0 rec, sb_X7_best_26 post x (nI c) k0 rec found (nI k) w = rec found' (nI (k + 1)) w) := by
  obtain ⟨hg, hb, ⟨hP, hT⟩, hk, h0, hm, hB⟩ := hRn
  obtain ⟨n1, n2, n3, n4, n5, n6, v04, S0, v60, S1, v160, S2, v05, S3, L4, S5, v06, S6, v07, S7⟩ := hg
  have k20 : k < 20 := by omega
  obtain ⟨⟨e0, e1, e2, e3, e4, e5, e6, e7, e8⟩, hO, -⟩ := hk k hkn
  have hle : (nI ns ≤ nI k) = False := eq_false (nI_ge (by omega) (by omega))
  have p1 : ∀ post, s_X1_priceOf v (nI k) post = post (pS (w 1) k) v := fun post => k_price hP hT hO e0 e1 e2 k20
  have p2 : ∀ post, s_X7_price w (nI k) post = post (pS (w 1) k) w := fun post => q_price hT hO k20
  by_cases hx : w 1 (14 + 10 * k + 4) = x
  rotate_left
  · refine ⟨found, dear, hI, fun post k0 rec => ?_, fun post k0 rec => ?_⟩
    · simp (disch := omega) only [sb_X1_dearestHeld_8, eq_false hx, t_1, v60, S1, hle, vp_in_nI, tn_nI, nI_1, e4, p1, p2, q_of4 k20, q_of0 k20, e10, z01, b_all, not_true_eq_false, not_false_eq_true, true_implies, false_implies, and_true, true_and, or_self, or_true, true_or, or_false, false_or]
    · simp (disch := omega) only [sb_X7_best_26, eq_false hx, t_1, v60, S1, hle, vp_in_nI, tn_nI, nI_1, e4, p1, p2, q_of4 k20, q_of0 k20, e10, z01, b_all, not_true_eq_false, not_false_eq_true, true_implies, false_implies, and_true, true_and, or_self, or_true, true_or, or_false, false_or]
  rcases pS_m1 hT hO with ⟨h1, -⟩ | ⟨y, hy, h1, -⟩
  · have q0 : ∀ post, s_X7_in (-1) 0 (nI c) post = post 0 := fun post => q_in_f (Or.inl (by decide))
    refine ⟨found, dear, hI, fun post k0 rec => ?_, fun post k0 rec => ?_⟩
    · simp (disch := omega) only [sb_X1_dearestHeld_8, hx, h1, t_1, v60, S1, hle, vp_in_nI, tn_nI, nI_1, e4, p1, p2, q_of4 k20, q_of0 k20, e10, z01, b_all, not_true_eq_false, not_false_eq_true, true_implies, false_implies, and_true, true_and, or_self, or_true, true_or, or_false, false_or]
    · simp (disch := omega) only [sb_X7_best_26, hx, h1, q0, t_1, v60, S1, hle, vp_in_nI, tn_nI, nI_1, e4, p1, p2, q_of4 k20, q_of0 k20, e10, z01, b_all, not_true_eq_false, not_false_eq_true, true_implies, false_implies, and_true, true_and, or_self, or_true, true_or, or_false, false_or]
  have ym : (nI y = -1) = False := eq_false (n_m1 (by omega))
  by_cases hyc : y ≤ c
  rotate_left
  · have q1 : (nI y ≤ nI c) = False := eq_false (gtl (by omega) (by omega))
    have q0 : ∀ post, s_X7_in (nI y) 0 (nI c) post = post 0 := fun post => q_in_f (Or.inr (lt_n (by omega) (by omega)))
    refine ⟨found, dear, hI, fun post k0 rec => ?_, fun post k0 rec => ?_⟩
    · simp (disch := omega) only [sb_X1_dearestHeld_8, hx, h1, ym, q1, t_1, v60, S1, hle, vp_in_nI, tn_nI, nI_1, e4, p1, p2, q_of4 k20, q_of0 k20, e10, z01, b_all, not_true_eq_false, not_false_eq_true, true_implies, false_implies, and_true, true_and, or_self, or_true, true_or, or_false, false_or]
    · simp (disch := omega) only [sb_X7_best_26, hx, h1, q0, t_1, v60, S1, hle, vp_in_nI, tn_nI, nI_1, e4, p1, p2, q_of4 k20, q_of0 k20, e10, z01, b_all, not_true_eq_false, not_false_eq_true, true_implies, false_implies, and_true, true_and, or_self, or_true, true_or, or_false, false_or]
  have q1 : (nI y ≤ nI c) = True := eq_true (lel hyc (by omega))
  have q0 : ∀ post, s_X7_in (nI y) 0 (nI c) post = post 1 := fun post => q_in_n (a := 0) (by omega) hyc (by omega)
  rcases hI with rfl | ⟨f, z, hf, rfl, rfl, hz, hpf⟩
  · have m0 : ((-1 : Int32) < 0) = True := eq_true (by decide)
    refine ⟨nI k, nI y, Or.inr ⟨k, y, hkn, rfl, rfl, hy, h1⟩, fun post k0 rec => ?_, fun post k0 rec => ?_⟩
    · simp (disch := omega) only [sb_X1_dearestHeld_8, hx, h1, ym, q1, t_1, v60, S1, hle, vp_in_nI, tn_nI, nI_1, e4, p1, p2, q_of4 k20, q_of0 k20, e10, z01, b_all, not_true_eq_false, not_false_eq_true, true_implies, false_implies, and_true, true_and, or_self, or_true, true_or, or_false, false_or]
    · simp (disch := omega) only [sb_X7_best_26, hx, h1, q0, m0, t_1, v60, S1, hle, vp_in_nI, tn_nI, nI_1, e4, p1, p2, q_of4 k20, q_of0 k20, e10, z01, b_all, not_true_eq_false, not_false_eq_true, true_implies, false_implies, and_true, true_and, or_self, or_true, true_or, or_false, false_or]
  · have f20 : f < 20 := by omega
    obtain ⟨⟨f0, -⟩, hOf, -⟩ := hk f hf
    have fm : (nI f = -1) = False := eq_false (n_m1 (by omega))
    have fn : (nI f < 0) = False := eq_false (n_neg (by omega))
    have p3 : ∀ post, s_X7_price w (nI f) post = post (nI z) w := fun post => by rw [q_price hT hOf f20, hpf]
    by_cases hlt : z < y
    · have r1 : (nI z < nI y) = True := eq_true (lt_n hlt (by omega))
      refine ⟨nI k, nI y, Or.inr ⟨k, y, hkn, rfl, rfl, hy, h1⟩, fun post k0 rec => ?_, fun post k0 rec => ?_⟩
      · simp (disch := omega) only [sb_X1_dearestHeld_8, hx, h1, ym, q1, fm, r1, t_1, v60, S1, hle, vp_in_nI, tn_nI, nI_1, e4, p1, p2, q_of4 k20, q_of0 k20, e10, z01, b_all, not_true_eq_false, not_false_eq_true, true_implies, false_implies, and_true, true_and, or_self, or_true, true_or, or_false, false_or]
      · simp (disch := omega) only [sb_X7_best_26, hx, h1, q0, fn, p3, r1, t_1, v60, S1, hle, vp_in_nI, tn_nI, nI_1, e4, p1, p2, q_of4 k20, q_of0 k20, e10, z01, b_all, not_true_eq_false, not_false_eq_true, true_implies, false_implies, and_true, true_and, or_self, or_true, true_or, or_false, false_or]
    · have r1 : (nI z < nI y) = False := eq_false (by rw [n_lt (by omega) (by omega)]; exact hlt)
      by_cases heq : y = z
      · subst heq
        by_cases hw : w 1 (14 + 10 * k + 0) ≤ w 1 (14 + 10 * f + 0)
        · refine ⟨nI f, nI y, Or.inr ⟨f, y, hf, rfl, rfl, hz, hpf⟩, fun post k0 rec => ?_, fun post k0 rec => ?_⟩
          · simp (disch := omega) only [sb_X1_dearestHeld_8, hx, h1, ym, q1, fm, r1, e0, f0, eq_true hw, t_1, v60, S1, hle, vp_in_nI, tn_nI, nI_1, e4, p1, p2, q_of4 k20, q_of0 k20, e10, z01, b_all, not_true_eq_false, not_false_eq_true, true_implies, false_implies, and_true, true_and, or_self, or_true, true_or, or_false, false_or]
          · simp (disch := omega) only [sb_X7_best_26, hx, h1, q0, fn, p3, r1, q_of0 f20, eq_true hw, t_1, v60, S1, hle, vp_in_nI, tn_nI, nI_1, e4, p1, p2, q_of4 k20, q_of0 k20, e10, z01, b_all, not_true_eq_false, not_false_eq_true, true_implies, false_implies, and_true, true_and, or_self, or_true, true_or, or_false, false_or]
        · refine ⟨nI k, nI y, Or.inr ⟨k, y, hkn, rfl, rfl, hy, h1⟩, fun post k0 rec => ?_, fun post k0 rec => ?_⟩
          · simp (disch := omega) only [sb_X1_dearestHeld_8, hx, h1, ym, q1, fm, r1, e0, f0, eq_false hw, t_1, v60, S1, hle, vp_in_nI, tn_nI, nI_1, e4, p1, p2, q_of4 k20, q_of0 k20, e10, z01, b_all, not_true_eq_false, not_false_eq_true, true_implies, false_implies, and_true, true_and, or_self, or_true, true_or, or_false, false_or]
          · simp (disch := omega) only [sb_X7_best_26, hx, h1, q0, fn, p3, r1, q_of0 f20, eq_false hw, t_1, v60, S1, hle, vp_in_nI, tn_nI, nI_1, e4, p1, p2, q_of4 k20, q_of0 k20, e10, z01, b_all, not_true_eq_false, not_false_eq_true, true_implies, false_implies, and_true, true_and, or_self, or_true, true_or, or_false, false_or]
      · have r2 : (nI y = nI z) = False := eq_false (by rw [n_eq (by omega) (by omega)]; exact heq)
        refine ⟨nI f, nI z, Or.inr ⟨f, z, hf, rfl, rfl, hz, hpf⟩, fun post k0 rec => ?_, fun post k0 rec => ?_⟩
        · simp (disch := omega) only [sb_X1_dearestHeld_8, hx, h1, ym, q1, fm, r1, r2, t_1, v60, S1, hle, vp_in_nI, tn_nI, nI_1, e4, p1, p2, q_of4 k20, q_of0 k20, e10, z01, b_all, not_true_eq_false, not_false_eq_true, true_implies, false_implies, and_true, true_and, or_self, or_true, true_or, or_false, false_or]
        · simp (disch := omega) only [sb_X7_best_26, hx, h1, q0, fn, p3, r1, r2, t_1, v60, S1, hle, vp_in_nI, tn_nI, nI_1, e4, p1, p2, q_of4 k20, q_of0 k20, e10, z01, b_all, not_true_eq_false, not_false_eq_true, true_implies, false_implies, and_true, true_and, or_self, or_true, true_or, or_false, false_or]
theorem best_all {v w : V} {nd ns nm t g e l c : Nat} {x : Int32} (hRn : Rn v (w 1) nd ns nm t g e l) (hc9 : c ≤ 99999) : ∀ d k found dear, k + d = ns → bInv (w 1) ns found dear → ∃ found' dear', bInv (w 1) ns found' dear' ∧ (∀ post k0, (∃ n, sl_X1_dearestHeld_8 post x (nI c) k0 n found dear (nI k) v) = k0 found' dear' (nI ns) v) ∧ (∀ post k0, (∃ n, sl_X7_best_26 post x (nI c) k0 n found (nI k) w) = k0 found' (nI ns) w) := by
  intro d
  induction d with
  | zero =>
    intro k found dear hk hI
    obtain rfl : k = ns := by omega
    obtain ⟨hg, -⟩ := hRn
    obtain ⟨n1, n2, n3, n4, n5, n6, v04, S0, v60, S1, -⟩ := hg
    exact ⟨found, dear, hI, fun post k0 => xo_X1_dearestHeld_8 (fun rec => b_t (show v 6 0 ≤ nI k by rw [v60]; exact Int32.le_refl _)), fun post k0 => xo_X7_best_26 (fun rec => b_t (show w 1 1 ≤ nI k by rw [S1]; exact Int32.le_refl _))⟩
  | succ d ih =>
    intro k found dear hk hI
    obtain ⟨f1, d1, i1, h1, h2⟩ := best_st (x := x) hRn (show k < ns by omega) hc9 found dear hI
    obtain ⟨f2, d2, i2, h3, h4⟩ := ih (k + 1) f1 d1 (by omega) i1
    exact ⟨f2, d2, i2, fun post k0 => (xs_X1_dearestHeld_8 (fun rec => h1 post k0 rec)).trans (h3 post k0), fun post k0 => (xs_X7_best_26 (fun rec => h2 post k0 rec)).trans (h4 post k0)⟩
theorem qz_best {v0 v w : V} (h : R v (w 1)) (p x : Int32) : Qz (s_X6_best v0 v p x) (s_X7_best w p x) v0 v w := by
  obtain ⟨nd, ns, nm, t, g, e, hRn⟩ := h
  have hRn' := hRn
  obtain ⟨hg, hb, ⟨hP, hT⟩, hk, h0, hm, hB⟩ := hRn'
  have hg' := hg
  obtain ⟨n1, n2, n3, n4, n5, n6, v04, S0, v60, S1, v160, S2, v05, S3, L4, S5, v06, S6, v07, S7⟩ := hg'
  rcases ixn p (n := nd) (by omega) with ⟨d, hd, rfl⟩ | hp
  rotate_left
  · refine Qz.mk (r := -10000001) (fun post => ?_) (fun post => ?_)
    · simp only [s_X6_best, k_deal_f v04 hp, e10, z01, b_all, not_true_eq_false, not_false_eq_true, true_implies, false_implies, and_true, true_and, or_self, or_true, true_or, or_false, false_or]
    · simp only [s_X7_best, q_isDealer_f S0 (show nd < 1000000 by omega) hp, e10, z01, b_all, not_true_eq_false, not_false_eq_true, true_implies, false_implies, and_true, true_and, or_self, or_true, true_or, or_false, false_or]
  have hdl : ∀ post, s_X7_isDealer w (nI d) post = post 1 w := fun post => q_isDealer_t S0 (show nd < 1000000 by omega) hd
  rcases rng x (a := 0) (b := 99999) (by omega) (by omega) with ⟨c, -, hc9, rfl⟩ | hx
  rotate_left
  · refine Qz.mk (r := -10000001) (fun post => ?_) (fun post => ?_)
    · by_cases hx1 : x < 0
      · simp only [s_X6_best, k_deal_t v04 n1 hd, eq_true hx1, e10, z01, b_all, not_true_eq_false, not_false_eq_true, true_implies, false_implies, and_true, true_and, or_self, or_true, true_or, or_false, false_or]
      · have q : (x ≤ 99999) = False := eq_false (nle (hx.resolve_left hx1))
        simp only [s_X6_best, k_deal_t v04 n1 hd, eq_false hx1, q, e10, z01, b_all, not_true_eq_false, not_false_eq_true, true_implies, false_implies, and_true, true_and, or_self, or_true, true_or, or_false, false_or]
    · simp only [s_X7_best, hdl, q_in_f (show x < 0 ∨ 99999 < x from hx), e10, z01, b_all, not_true_eq_false, not_false_eq_true, true_implies, false_implies, and_true, true_and, or_self, or_true, true_or, or_false, false_or]
  have f1 : (nI c < 0) = False := eq_false (n_neg (by omega))
  have f2 : (nI c ≤ 99999) = True := eq_true (lel (n := 99999) hc9 (by omega))
  have f3 : ∀ post, s_X7_in (nI c) 0 99999 post = post 1 := fun post => q_in_n (a := 0) (b := 99999) (by omega) hc9 (by omega)
  obtain ⟨found, dear, hI, h1, h2⟩ := best_all (x := nI d) hRn hc9 ns 0 (-1) 0 (by omega) (Or.inl rfl)
  rcases hI with rfl | ⟨f, z, hf, rfl, -⟩
  · refine Qz.mk (r := -10000004) (fun post => ?_) (fun post => ?_)
    · simp only [s_X6_best, k_deal_t v04 n1 hd, f1, f2, s_X1_dearestHeld, e10, z01, b_all, not_true_eq_false, not_false_eq_true, true_implies, false_implies, and_true, true_and, or_self, or_true, true_or, or_false, false_or]
      refine (h1 _ (fun x3 x4 _ v => (¬ x3 = (-1) → post x3 v0 v) ∧ (x3 = (-1) → (post (-10000004) v0 v)))).trans ?_
      exact b_t' rfl
    · simp only [s_X7_best, hdl, f3, e10, z01, b_all, not_true_eq_false, not_false_eq_true, true_implies, false_implies, and_true, true_and, or_self, or_true, true_or, or_false, false_or]
      refine (h2 _ (fun x3 _ v => s_X7_orNone x3 (fun r => post r v))).trans ?_
      exact q_nom
  · refine Qz.mk (r := nI f) (fun post => ?_) (fun post => ?_)
    · simp only [s_X6_best, k_deal_t v04 n1 hd, f1, f2, s_X1_dearestHeld, e10, z01, b_all, not_true_eq_false, not_false_eq_true, true_implies, false_implies, and_true, true_and, or_self, or_true, true_or, or_false, false_or]
      refine (h1 _ (fun x3 x4 _ v => (¬ x3 = (-1) → post x3 v0 v) ∧ (x3 = (-1) → (post (-10000004) v0 v)))).trans ?_
      exact b_f' (n_m1 (by omega))
    · simp only [s_X7_best, hdl, f3, e10, z01, b_all, not_true_eq_false, not_false_eq_true, true_implies, false_implies, and_true, true_and, or_self, or_true, true_or, or_false, false_or]
      refine (h2 _ (fun x3 _ v => s_X7_orNone x3 (fun r => post r v))).trans ?_
      exact q_non (by omega)
/-- two stones of one grade -/
theorem alike {v w : V} {nd ns nm t g e l i k : Nat} (hRn : Rn v (w 1) nd ns nm t g e l) (hi : i < ns) (hkn : k < ns) : ∃ b : Bool, (∀ post, s_X5_sameGrade v (nI i) (nI k) post = post (bI b) v) ∧ (∀ post, s_X7_areAlike w (nI i) (nI k) post = post (bI b) w) := by
  obtain ⟨hg, hb, ⟨hP, hT⟩, hk, h0, hm, hB⟩ := hRn
  obtain ⟨n1, n2, n3, n4, n5, n6, v04, S0, v60, S1, v160, S2, v05, S3, L4, S5, v06, S6, v07, S7⟩ := hg
  have k20 : k < 20 := by omega
  have i20 : i < 20 := by omega
  obtain ⟨⟨e0, e1, e2, -⟩, hO, -⟩ := hk k hkn
  obtain ⟨⟨d0, d1, d2, -⟩, hO2, -⟩ := hk i hi
  obtain ⟨a1, a2, -⟩ := hO.at
  obtain ⟨b1, b2, -⟩ := hO2.at
  have s1 : ∀ post, s_X5_sieveOf v (nI k) post = post (nI (svN (tn (w 1 (14 + 10 * k + 0))))) v := fun post => k_sieve k20 (by omega) (e0.trans a1)
  have s2 : ∀ post, s_X7_sieve w (nI k) post = post (nI (svN (tn (w 1 (14 + 10 * k + 0))))) w := fun post => q_sieve k20 (by omega) a1
  have s3 : ∀ post, s_X5_sieveOf v (nI i) post = post (nI (svN (tn (w 1 (14 + 10 * i + 0))))) v := fun post => k_sieve i20 (by omega) (d0.trans b1)
  have s4 : ∀ post, s_X7_sieve w (nI i) post = post (nI (svN (tn (w 1 (14 + 10 * i + 0))))) w := fun post => q_sieve i20 (by omega) b1
  generalize nI (svN (tn (w 1 (14 + 10 * k + 0)))) = sk at s1 s2
  generalize nI (svN (tn (w 1 (14 + 10 * i + 0)))) = si at s3 s4
  by_cases c1 : si = sk
  · by_cases c2 : w 1 (14 + 10 * i + 1) = w 1 (14 + 10 * k + 1)
    · by_cases c3 : w 1 (14 + 10 * i + 2) = w 1 (14 + 10 * k + 2)
      · refine ⟨true, fun post => ?_, fun post => ?_⟩
        · simp (disch := omega) only [s_X5_sameGrade, s1, s3, c1, vp_in_nI, tn_nI, e1, e2, d1, d2, c2, c3, e10, z01, b_all, not_true_eq_false, not_false_eq_true, true_implies, false_implies, and_true, true_and, or_self, or_true, true_or, or_false, false_or]
          rfl
        · simp (disch := omega) only [s_X7_areAlike, s2, s4, c1, q_of1 k20, q_of1 i20, q_of2 k20, q_of2 i20, c2, c3, e10, z01, b_all, not_true_eq_false, not_false_eq_true, true_implies, false_implies, and_true, true_and, or_self, or_true, true_or, or_false, false_or]
          rfl
      · refine ⟨false, fun post => ?_, fun post => ?_⟩
        · simp (disch := omega) only [s_X5_sameGrade, s1, s3, c1, vp_in_nI, tn_nI, e1, e2, d1, d2, c2, eq_false c3, e10, z01, b_all, not_true_eq_false, not_false_eq_true, true_implies, false_implies, and_true, true_and, or_self, or_true, true_or, or_false, false_or]
          rfl
        · simp (disch := omega) only [s_X7_areAlike, s2, s4, c1, q_of1 k20, q_of1 i20, q_of2 k20, q_of2 i20, c2, eq_false c3, e10, z01, b_all, not_true_eq_false, not_false_eq_true, true_implies, false_implies, and_true, true_and, or_self, or_true, true_or, or_false, false_or]
          rfl
    · refine ⟨false, fun post => ?_, fun post => ?_⟩
      · simp (disch := omega) only [s_X5_sameGrade, s1, s3, c1, vp_in_nI, tn_nI, e1, e2, d1, d2, eq_false c2, e10, z01, b_all, not_true_eq_false, not_false_eq_true, true_implies, false_implies, and_true, true_and, or_self, or_true, true_or, or_false, false_or]
        rfl
      · simp (disch := omega) only [s_X7_areAlike, s2, s4, c1, q_of1 k20, q_of1 i20, q_of2 k20, q_of2 i20, eq_false c2, e10, z01, b_all, not_true_eq_false, not_false_eq_true, true_implies, false_implies, and_true, true_and, or_self, or_true, true_or, or_false, false_or]
        rfl
  · refine ⟨false, fun post => ?_, fun post => ?_⟩
    · simp (disch := omega) only [s_X5_sameGrade, s1, s3, eq_false c1, e10, z01, b_all, not_true_eq_false, not_false_eq_true, true_implies, false_implies, and_true, true_and, or_self, or_true, true_or, or_false, false_or]
      rfl
    · simp (disch := omega) only [s_X7_areAlike, s2, s4, eq_false c1, e10, z01, b_all, not_true_eq_false, not_false_eq_true, true_implies, false_implies, and_true, true_and, or_self, or_true, true_or, or_false, false_or]
      rfl
theorem like_lp {v w : V} {nd ns nm t g e l k : Nat} {x : Int32} (hRn : Rn v (w 1) nd ns nm t g e l) (hkn : k < ns) : ∀ d i, i + d = k → ∃ b : Bool, (∀ post, (∃ n, sl_X5_hasLikeBefore_2 post (nI k) x (fun _ v => post 0 v) n (nI i) v) = post (bI b) v) ∧ (∀ post a, ∀ k0 : Int32 → Int32 → V → Prop, (∀ y z, k0 y z w = k0 y 0 w) → (∃ n, sl_X7_grades_45 post x a (nI k) k0 n 1 (nI i) w) = k0 (bI (!b)) 0 w) := by
  intro d
  induction d with
  | zero =>
    intro i hi
    obtain rfl : i = k := by omega
    exact ⟨false, fun post => xo_X5_hasLikeBefore_2 (fun rec => b_t (Int32.le_refl _)), fun post a k0 hk0 => xo_X7_grades_45 (fun rec => (b_t (Int32.le_refl _)).trans (hk0 _ _))⟩
  | succ d ih =>
    intro i hi
    have hRn0 := hRn
    obtain ⟨hg, hb, ⟨hP, hT⟩, hk, h0, hm, hB⟩ := hRn
    obtain ⟨n1, n2, n3, n4, n5, n6, v04, S0, v60, S1, v160, S2, v05, S3, L4, S5, v06, S6, v07, S7⟩ := hg
    have i20 : i < 20 := by omega
    obtain ⟨⟨e0, e1, e2, e3, e4, -⟩, -, -⟩ := hk i (by omega)
    have hle : (nI k ≤ nI i) = False := eq_false (nI_ge (by omega) (by omega))
    obtain ⟨b, h1, h2⟩ := ih (i + 1) (by omega)
    by_cases hx : w 1 (14 + 10 * i + 4) = x
    · obtain ⟨c, a1, a2⟩ := alike hRn0 (show i < ns by omega) hkn
      cases c with
      | true =>
        refine ⟨true, fun post => xo_X5_hasLikeBefore_2 (fun rec => ?_), fun post a k0 hk0 => ?_⟩
        · simp (disch := omega) only [sb_X5_hasLikeBefore_2, hle, vp_in_nI, tn_nI, e4, hx, a1, show bI true = 1 from rfl, e10, z01, b_all, not_true_eq_false, not_false_eq_true, true_implies, false_implies, and_true, true_and, or_self, or_true, true_or, or_false, false_or]
        · refine (xs_X7_grades_45 (y4 := 0) (y5 := nI (i + 1)) (v' := w) (fun rec => ?_)).trans ?_
          · simp (disch := omega) only [sb_X7_grades_45, hle, q_of4 i20, hx, a2, show bI true = 1 from rfl, nI_1, e10, z01, b_all, not_true_eq_false, not_false_eq_true, true_implies, false_implies, and_true, true_and, or_self, or_true, true_or, or_false, false_or]
          · refine xo_X7_grades_45 (fun rec => ?_)
            unfold sb_X7_grades_45
            by_cases q : nI k ≤ nI (i + 1)
            · exact (b_t q).trans (hk0 _ _)
            · rw [b_f q]
              exact (b_t rfl).trans (hk0 _ _)
      | false =>
        refine ⟨b, fun post => (xs_X5_hasLikeBefore_2 (fun rec => ?_)).trans (h1 post), fun post a k0 hk0 => (xs_X7_grades_45 (fun rec => ?_)).trans (h2 post a k0 hk0)⟩
        · simp (disch := omega) only [sb_X5_hasLikeBefore_2, hle, vp_in_nI, tn_nI, e4, hx, a1, show bI false = 0 from rfl, nI_1, e10, z01, b_all, not_true_eq_false, not_false_eq_true, true_implies, false_implies, and_true, true_and, or_self, or_true, true_or, or_false, false_or]
        · simp (disch := omega) only [sb_X7_grades_45, hle, q_of4 i20, hx, a2, show bI false = 0 from rfl, nI_1, e10, z01, b_all, not_true_eq_false, not_false_eq_true, true_implies, false_implies, and_true, true_and, or_self, or_true, true_or, or_false, false_or]
    · refine ⟨b, fun post => (xs_X5_hasLikeBefore_2 (fun rec => ?_)).trans (h1 post), fun post a k0 hk0 => (xs_X7_grades_45 (fun rec => ?_)).trans (h2 post a k0 hk0)⟩
      · simp (disch := omega) only [sb_X5_hasLikeBefore_2, hle, vp_in_nI, tn_nI, e4, eq_false hx, nI_1, e10, z01, b_all, not_true_eq_false, not_false_eq_true, true_implies, false_implies, and_true, true_and, or_self, or_true, true_or, or_false, false_or]
      · simp (disch := omega) only [sb_X7_grades_45, hle, q_of4 i20, eq_false hx, nI_1, e10, z01, b_all, not_true_eq_false, not_false_eq_true, true_implies, false_implies, and_true, true_and, or_self, or_true, true_or, or_false, false_or]
theorem grades_st {v w : V} {nd ns nm t g e l k : Nat} {x : Int32} (hRn : Rn v (w 1) nd ns nm t g e l) (hkn : k < ns) (acc : Int32) : ∃ acc', (∀ post k0 rec, sb_X5_unlikeGrades_4 post x k0 rec acc (nI k) v = rec acc' (nI (k + 1)) v) ∧ (∀ post k0 rec, sb_X7_grades_15 post x k0 rec acc (nI k) w = rec acc' (nI (k + 1)) w) := by
  obtain ⟨b, b1, b2⟩ := like_lp (x := x) hRn hkn k 0 (by omega)
  obtain ⟨hg, hb, ⟨hP, hT⟩, hk, h0, hm, hB⟩ := hRn
  obtain ⟨n1, n2, n3, n4, n5, n6, v04, S0, v60, S1, v160, S2, v05, S3, L4, S5, v06, S6, v07, S7⟩ := hg
  have k20 : k < 20 := by omega
  obtain ⟨⟨e0, e1, e2, e3, e4, -⟩, -, -⟩ := hk k hkn
  have hle : (nI ns ≤ nI k) = False := eq_false (nI_ge (by omega) (by omega))
  have hlb : ∀ post, s_X5_hasLikeBefore v (nI k) x post = post (bI b) v := fun post => b1 post
  by_cases hx : w 1 (14 + 10 * k + 4) = x
  · cases b with
    | true =>
      refine ⟨acc, fun post k0 rec => ?_, fun post k0 rec => ?_⟩
      · simp (disch := omega) only [sb_X5_unlikeGrades_4, v60, hle, vp_in_nI, tn_nI, e4, hx, hlb, show bI true = 1 from rfl, nI_1, e10, z01, b_all, not_true_eq_false, not_false_eq_true, true_implies, false_implies, and_true, true_and, or_self, or_true, true_or, or_false, false_or]
      · simp (disch := omega) only [sb_X7_grades_15, t_1, S1, hle, q_of4 k20, hx, nI_1, Int32.add_zero, e10, z01, b_all, not_true_eq_false, not_false_eq_true, true_implies, false_implies, and_true, true_and, or_self, or_true, true_or, or_false, false_or]
        refine (b2 post acc (fun x4 _ v => (x4 = 0 → rec acc (nI (k + 1)) v) ∧ (¬ x4 = 0 → rec (acc + 1) (nI (k + 1)) v)) (fun _ _ => rfl)).trans ?_
        exact b_t rfl
    | false =>
      refine ⟨acc + 1, fun post k0 rec => ?_, fun post k0 rec => ?_⟩
      · simp (disch := omega) only [sb_X5_unlikeGrades_4, v60, hle, vp_in_nI, tn_nI, e4, hx, hlb, show bI false = 0 from rfl, nI_1, e10, z01, b_all, not_true_eq_false, not_false_eq_true, true_implies, false_implies, and_true, true_and, or_self, or_true, true_or, or_false, false_or]
      · simp (disch := omega) only [sb_X7_grades_15, t_1, S1, hle, q_of4 k20, hx, nI_1, Int32.add_zero, e10, z01, b_all, not_true_eq_false, not_false_eq_true, true_implies, false_implies, and_true, true_and, or_self, or_true, true_or, or_false, false_or]
        refine (b2 post acc (fun x4 _ v => (x4 = 0 → rec acc (nI (k + 1)) v) ∧ (¬ x4 = 0 → rec (acc + 1) (nI (k + 1)) v)) (fun _ _ => rfl)).trans ?_
        exact b_f z10
  · refine ⟨acc, fun post k0 rec => ?_, fun post k0 rec => ?_⟩
    · simp (disch := omega) only [sb_X5_unlikeGrades_4, v60, hle, vp_in_nI, tn_nI, e4, eq_false hx, nI_1, e10, z01, b_all, not_true_eq_false, not_false_eq_true, true_implies, false_implies, and_true, true_and, or_self, or_true, true_or, or_false, false_or]
    · simp (disch := omega) only [sb_X7_grades_15, t_1, S1, hle, q_of4 k20, eq_false hx, nI_1, Int32.add_zero, e10, z01, b_all, not_true_eq_false, not_false_eq_true, true_implies, false_implies, and_true, true_and, or_self, or_true, true_or, or_false, false_or]
      refine xo_X7_grades_45 (fun rec => ?_)
      unfold sb_X7_grades_45
      by_cases q : nI k ≤ 0
      · rw [b_t q]
        exact b_t rfl
      · rw [b_f q, b_t rfl]
        exact b_t rfl
theorem grades_all {v w : V} {nd ns nm t g e l : Nat} {x : Int32} (hRn : Rn v (w 1) nd ns nm t g e l) : ∀ d k acc, k + d = ns → ∃ r, (∀ post k0, (∃ n, sl_X5_unlikeGrades_4 post x k0 n acc (nI k) v) = k0 r (nI ns) v) ∧ (∀ post k0, (∃ n, sl_X7_grades_15 post x k0 n acc (nI k) w) = k0 r (nI ns) w) := by
  intro d
  induction d with
  | zero =>
    intro k acc hk
    obtain rfl : k = ns := by omega
    obtain ⟨hg, -⟩ := hRn
    obtain ⟨n1, n2, n3, n4, n5, n6, v04, S0, v60, S1, -⟩ := hg
    exact ⟨acc, fun post k0 => xo_X5_unlikeGrades_4 (fun rec => b_t (show v 6 0 ≤ nI k by rw [v60]; exact Int32.le_refl _)), fun post k0 => xo_X7_grades_15 (fun rec => b_t (show w 1 1 ≤ nI k by rw [S1]; exact Int32.le_refl _))⟩
  | succ d ih =>
    intro k acc hk
    obtain ⟨a1, h1, h2⟩ := grades_st (x := x) hRn (show k < ns by omega) acc
    obtain ⟨r, h3, h4⟩ := ih (k + 1) a1 (by omega)
    exact ⟨r, fun post k0 => (xs_X5_unlikeGrades_4 (fun rec => h1 post k0 rec)).trans (h3 post k0), fun post k0 => (xs_X7_grades_15 (fun rec => h2 post k0 rec)).trans (h4 post k0)⟩
theorem qz_grades {v0 v w : V} (h : R v (w 1)) (p : Int32) : Qz (s_X6_grades v0 v p) (s_X7_grades w p) v0 v w := by
  obtain ⟨nd, ns, nm, t, g, e, hRn⟩ := h
  have hRn' := hRn
  obtain ⟨hg, hb, ⟨hP, hT⟩, hk, h0, hm, hB⟩ := hRn'
  have hg' := hg
  obtain ⟨n1, n2, n3, n4, n5, n6, v04, S0, v60, S1, v160, S2, v05, S3, L4, S5, v06, S6, v07, S7⟩ := hg'
  rcases ixn p (n := nd) (by omega) with ⟨d, hd, rfl⟩ | hp
  rotate_left
  · refine Qz.mk (r := -10000001) (fun post => ?_) (fun post => ?_)
    · simp only [s_X6_grades, k_deal_f v04 hp, e10, z01, b_all, not_true_eq_false, not_false_eq_true, true_implies, false_implies, and_true, true_and, or_self, or_true, true_or, or_false, false_or]
    · simp only [s_X7_grades, q_isDealer_f S0 (show nd < 1000000 by omega) hp, e10, z01, b_all, not_true_eq_false, not_false_eq_true, true_implies, false_implies, and_true, true_and, or_self, or_true, true_or, or_false, false_or]
  have hdl : ∀ post, s_X7_isDealer w (nI d) post = post 1 w := fun post => q_isDealer_t S0 (show nd < 1000000 by omega) hd
  obtain ⟨r, h1, h2⟩ := grades_all (x := nI d) hRn ns 0 0 (by omega)
  refine Qz.mk (r := r) (fun post => ?_) (fun post => ?_)
  · simp only [s_X6_grades, k_deal_t v04 n1 hd, s_X5_unlikeGrades, e10, z01, b_all, not_true_eq_false, not_false_eq_true, true_implies, false_implies, and_true, true_and, or_self, or_true, true_or, or_false, false_or]
    exact h1 _ (fun x _ v => post x v0 v)
  · simp only [s_X7_grades, hdl, e10, z01, b_all, not_true_eq_false, not_false_eq_true, true_implies, false_implies, and_true, true_and, or_self, or_true, true_or, or_false, false_or]
    exact h2 _ (fun x _ v => post x v)
