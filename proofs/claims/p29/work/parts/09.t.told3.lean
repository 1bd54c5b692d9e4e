/-! PURE 20: dealerOf, memoOf, rateOf, count -/
theorem ownset {v w : V} {nd ns nm t g e l : Nat} {x : Int32} (hRn : Rn v (w 1) nd ns nm t g e l) : (∀ post, s_X5_setWhere_10 v x post = post (setF (fun k => w 1 (14 + 10 * k + 3)) x ns) v) ∧ (∀ post, s_X5_setWhere_11 v x post = post (setF (fun k => w 1 (14 + 10 * k + 4)) x ns) v) ∧ (∀ post, s_X7_setOf w x 3 post = post (setF (fun k => w 1 (14 + 10 * k + 3)) x ns) w) ∧ (∀ post, s_X7_setOf w x 4 post = post (setF (fun k => w 1 (14 + 10 * k + 4)) x ns) w) := by
  obtain ⟨hg, hb, ⟨hP, hT⟩, hk, h0, hm, hB⟩ := hRn
  obtain ⟨n1, n2, n3, n4, n5, n6, v04, S0, v60, S1, -⟩ := hg
  refine ⟨fun post => ?_, fun post => ?_, fun post => q_setOf (f := 3) (by omega) S1 n2, fun post => q_setOf (f := 4) (by omega) S1 n2⟩
  · rw [k_ownSet v60 n2, setF_cong ns (fun i hi => (hk i hi).1.2.2.2.1)]
  · rw [k_holdSet v60 n2, setF_cong ns (fun i hi => (hk i hi).1.2.2.2.2.1)]
theorem qz_dealerOf {v0 v w : V} (h : R v (w 1)) (p x : Int32) : Qz (s_X6_dealerOf v0 v p x) (s_X7_dealerOf w p x) v0 v w := by
  obtain ⟨nd, ns, nm, t, g, e, hRn⟩ := h
  have hRn' := hRn
  obtain ⟨hg, hb, ⟨hP, hT⟩, hk, h0, hm, hB⟩ := hRn'
  have hg' := hg
  obtain ⟨n1, n2, n3, n4, n5, n6, v04, S0, v60, S1, v160, S2, v05, S3, L4, S5, v06, S6, v07, S7⟩ := hg'
  rcases ixn p (n := nd) (by omega) with ⟨d, hd, rfl⟩ | hp
  rotate_left
  · refine Qz.mk (r := -10000001) (fun post => ?_) (fun post => ?_)
    · simp only [s_X6_dealerOf, k_deal_f v04 hp, e10, z01, b_all, not_true_eq_false, not_false_eq_true, true_implies, false_implies, and_true, true_and, or_self, or_true, true_or, or_false, false_or]
    · simp only [s_X7_dealerOf, q_isDealer_f S0 (show nd < 1000000 by omega) hp, e10, z01, b_all, not_true_eq_false, not_false_eq_true, true_implies, false_implies, and_true, true_and, or_self, or_true, true_or, or_false, false_or]
  have hdl : ∀ post, s_X7_isDealer w (nI d) post = post 1 w := fun post => q_isDealer_t S0 (show nd < 1000000 by omega) hd
  rcases rng x (a := 0) (b := 5) (by omega) (by omega) with ⟨c, -, hc5, rfl⟩ | hx
  rotate_left
  · refine Qz.mk (r := -10000001) (fun post => ?_) (fun post => ?_)
    · have sn0 : (x = 0) = False := sw_no hx (N := 5) (c := 0) (by omega) (by omega)
      have sn1 : (x = 1) = False := sw_no hx (N := 5) (c := 1) (by omega) (by omega)
      have sn2 : (x = 2) = False := sw_no hx (N := 5) (c := 2) (by omega) (by omega)
      have sn3 : (x = 3) = False := sw_no hx (N := 5) (c := 3) (by omega) (by omega)
      have sn4 : (x = 4) = False := sw_no hx (N := 5) (c := 4) (by omega) (by omega)
      have sn5 : (x = 5) = False := sw_no hx (N := 5) (c := 5) (by omega) (by omega)
      simp only [s_X6_dealerOf, k_deal_t v04 n1 hd, s_X1_tellDealer, sn0, sn1, sn2, sn3, sn4, sn5, show (x.toInt < 0 ∨ 5 < x.toInt) = True from sw_out (N := 5) hx (by omega), e10, z01, b_all, not_true_eq_false, not_false_eq_true, true_implies, false_implies, and_true, true_and, or_self, or_true, true_or, or_false, false_or]
    · simp only [s_X7_dealerOf, hdl, q_in_f (show x < 0 ∨ 5 < x from hx), e10, z01, b_all, not_true_eq_false, not_false_eq_true, true_implies, false_implies, and_true, true_and, or_self, or_true, true_or, or_false, false_or]
  have fin : ∀ post, s_X7_in (nI c) 0 5 post = post 1 := fun post => q_in_n (a := 0) (b := 5) (by omega) hc5 (by omega)
  have fo : (nI c).toInt < 0 ∨ 5 < (nI c).toInt ↔ False := iff_of_eq (sw_in (by omega) (by omega) (by omega))
  have hbd := (hb d (by omega)).1
  obtain ⟨s1, s2, s3, s4⟩ := ownset (x := nI d) hRn
  have hcs : c = 0 ∨ c = 1 ∨ c = 2 ∨ c = 3 ∨ c = 4 ∨ c = 5 := by omega
  rcases hcs with rfl | rfl | rfl | rfl | rfl | rfl
  · refine Qz.mk (r := w 1 (8 + d) + 100000000) (fun post => ?_) (fun post => ?_)
    · simp (disch := omega) only [s_X6_dealerOf, k_deal_t v04 n1 hd, s_X1_tellDealer, vp_in_nI, tn_nI, l8, L0_0, L0_1, L0_2, L0_3, L0_4, L0_5, fo, show ((nI 0).toInt < 0 ∨ 3 < (nI 0).toInt) = False from sw_in (by omega) (by omega) (by omega), hbd, s1, s2, s3, s4, e10, z01, b_all, not_true_eq_false, not_false_eq_true, true_implies, false_implies, and_true, true_and, or_self, or_true, true_or, or_false, false_or]
    · simp (disch := omega) only [s_X7_dealerOf, hdl, fin, vp_in_nI, tn_nI, l8, L0_0, L0_1, L0_2, L0_3, L0_4, L0_5, fo, show ((nI 0).toInt < 0 ∨ 3 < (nI 0).toInt) = False from sw_in (by omega) (by omega) (by omega), hbd, s1, s2, s3, s4, e10, z01, b_all, not_true_eq_false, not_false_eq_true, true_implies, false_implies, and_true, true_and, or_self, or_true, true_or, or_false, false_or]
      rw [Int32.add_comm]
  · refine Qz.mk (r := setF (fun k => w 1 (14 + 10 * k + 3)) (nI d) ns) (fun post => ?_) (fun post => ?_)
    · simp (disch := omega) only [s_X6_dealerOf, k_deal_t v04 n1 hd, s_X1_tellDealer, vp_in_nI, tn_nI, l8, L1_0, L1_1, L1_2, L1_3, L1_4, L1_5, fo, show ((nI 1).toInt < 0 ∨ 3 < (nI 1).toInt) = False from sw_in (by omega) (by omega) (by omega), hbd, s1, s2, s3, s4, e10, z01, b_all, not_true_eq_false, not_false_eq_true, true_implies, false_implies, and_true, true_and, or_self, or_true, true_or, or_false, false_or]
    · simp (disch := omega) only [s_X7_dealerOf, hdl, fin, vp_in_nI, tn_nI, l8, L1_0, L1_1, L1_2, L1_3, L1_4, L1_5, fo, show ((nI 1).toInt < 0 ∨ 3 < (nI 1).toInt) = False from sw_in (by omega) (by omega) (by omega), hbd, s1, s2, s3, s4, e10, z01, b_all, not_true_eq_false, not_false_eq_true, true_implies, false_implies, and_true, true_and, or_self, or_true, true_or, or_false, false_or]
  · refine Qz.mk (r := setF (fun k => w 1 (14 + 10 * k + 4)) (nI d) ns) (fun post => ?_) (fun post => ?_)
    · simp (disch := omega) only [s_X6_dealerOf, k_deal_t v04 n1 hd, s_X1_tellDealer, vp_in_nI, tn_nI, l8, L2_0, L2_1, L2_2, L2_3, L2_4, L2_5, fo, show ((nI 2).toInt < 0 ∨ 3 < (nI 2).toInt) = False from sw_in (by omega) (by omega) (by omega), hbd, s1, s2, s3, s4, e10, z01, b_all, not_true_eq_false, not_false_eq_true, true_implies, false_implies, and_true, true_and, or_self, or_true, true_or, or_false, false_or]
    · simp (disch := omega) only [s_X7_dealerOf, hdl, fin, vp_in_nI, tn_nI, l8, L2_0, L2_1, L2_2, L2_3, L2_4, L2_5, fo, show ((nI 2).toInt < 0 ∨ 3 < (nI 2).toInt) = False from sw_in (by omega) (by omega) (by omega), hbd, s1, s2, s3, s4, e10, z01, b_all, not_true_eq_false, not_false_eq_true, true_implies, false_implies, and_true, true_and, or_self, or_true, true_or, or_false, false_or]
  · obtain ⟨r, h1, h2⟩ := j_worth (x := nI d) hRn ns 0 0 (by omega)
    refine Qz.mk (r := r) (fun post => ?_) (fun post => ?_)
    · simp (disch := omega) only [s_X6_dealerOf, k_deal_t v04 n1 hd, s_X1_tellDealer, vp_in_nI, tn_nI, l8, L3_0, L3_1, L3_2, L3_3, L3_4, L3_5, fo, show ((nI 3).toInt < 0 ∨ 3 < (nI 3).toInt) = False from sw_in (by omega) (by omega) (by omega), hbd, s1, s2, s3, s4, e10, z01, b_all, not_true_eq_false, not_false_eq_true, true_implies, false_implies, and_true, true_and, or_self, or_true, true_or, or_false, false_or]
      exact h1 _ (fun x _ v => post x v0 v)
    · simp (disch := omega) only [s_X7_dealerOf, hdl, fin, vp_in_nI, tn_nI, l8, L3_0, L3_1, L3_2, L3_3, L3_4, L3_5, fo, show ((nI 3).toInt < 0 ∨ 3 < (nI 3).toInt) = False from sw_in (by omega) (by omega) (by omega), hbd, s1, s2, s3, s4, e10, z01, b_all, not_true_eq_false, not_false_eq_true, true_implies, false_implies, and_true, true_and, or_self, or_true, true_or, or_false, false_or]
      exact h2 _ (fun x _ v => post x v)
  · obtain ⟨r, h1, h2⟩ := j_askT (x := nI d) hRn ns 0 0 (by omega)
    refine Qz.mk (r := r) (fun post => ?_) (fun post => ?_)
    · simp (disch := omega) only [s_X6_dealerOf, k_deal_t v04 n1 hd, s_X1_tellDealer, vp_in_nI, tn_nI, l8, L4_0, L4_1, L4_2, L4_3, L4_4, L4_5, fo, show ((nI 4).toInt < 0 ∨ 3 < (nI 4).toInt) = True from eq_true (Or.inr (by decide)), hbd, s1, s2, s3, s4, e10, z01, b_all, not_true_eq_false, not_false_eq_true, true_implies, false_implies, and_true, true_and, or_self, or_true, true_or, or_false, false_or]
      exact h1 _ (fun x _ v => post x v0 v)
    · simp (disch := omega) only [s_X7_dealerOf, hdl, fin, vp_in_nI, tn_nI, l8, L4_0, L4_1, L4_2, L4_3, L4_4, L4_5, fo, show ((nI 4).toInt < 0 ∨ 3 < (nI 4).toInt) = True from eq_true (Or.inr (by decide)), hbd, s1, s2, s3, s4, e10, z01, b_all, not_true_eq_false, not_false_eq_true, true_implies, false_implies, and_true, true_and, or_self, or_true, true_or, or_false, false_or]
      exact h2 _ (fun x _ v => post x v)
  · obtain ⟨r, h1, h2⟩ := j_askF (x := nI d) hRn ns 0 0 (by omega)
    refine Qz.mk (r := r) (fun post => ?_) (fun post => ?_)
    · simp (disch := omega) only [s_X6_dealerOf, k_deal_t v04 n1 hd, s_X1_tellDealer, vp_in_nI, tn_nI, l8, L5_0, L5_1, L5_2, L5_3, L5_4, L5_5, fo, show ((nI 5).toInt < 0 ∨ 3 < (nI 5).toInt) = True from eq_true (Or.inr (by decide)), hbd, s1, s2, s3, s4, e10, z01, b_all, not_true_eq_false, not_false_eq_true, true_implies, false_implies, and_true, true_and, or_self, or_true, true_or, or_false, false_or]
      exact h1 _ (fun x _ v => post x v0 v)
    · simp (disch := omega) only [s_X7_dealerOf, hdl, fin, vp_in_nI, tn_nI, l8, L5_0, L5_1, L5_2, L5_3, L5_4, L5_5, fo, show ((nI 5).toInt < 0 ∨ 3 < (nI 5).toInt) = True from eq_true (Or.inr (by decide)), hbd, s1, s2, s3, s4, e10, z01, b_all, not_true_eq_false, not_false_eq_true, true_implies, false_implies, and_true, true_and, or_self, or_true, true_or, or_false, false_or]
      exact h2 _ (fun x _ v => post x v)
theorem qz_memoOf {v0 v w : V} (h : R v (w 1)) (p x : Int32) : Qz (s_X6_memoOf v0 v p x) (s_X7_memoOf w p x) v0 v w := by
  obtain ⟨nd, ns, nm, t, g, e, hRn⟩ := h
  have hRn' := hRn
  obtain ⟨hg, hb, ⟨hP, hT⟩, hk, h0, hm, hB⟩ := hRn'
  have hg' := hg
  obtain ⟨n1, n2, n3, n4, n5, n6, v04, S0, v60, S1, v160, S2, v05, S3, L4, S5, v06, S6, v07, S7⟩ := hg'
  rcases ixn p (n := nm) (by omega) with ⟨m, hmn, rfl⟩ | hp
  rotate_left
  · refine Qz.mk (r := -10000001) (fun post => ?_) (fun post => ?_)
    · simp only [s_X6_memoOf, k_memo_f v160 hp, e10, z01, b_all, not_true_eq_false, not_false_eq_true, true_implies, false_implies, and_true, true_and, or_self, or_true, true_or, or_false, false_or]
    · have q : ∀ post, s_X7_in p 0 (w 1 2 - 1) post = post 0 := fun post => (q_below S2 (by omega)).2 hp
      simp only [s_X7_memoOf, t_2, q, e10, z01, b_all, not_true_eq_false, not_false_eq_true, true_implies, false_implies, and_true, true_and, or_self, or_true, true_or, or_false, false_or]
  have hin : ∀ post, s_X7_in (nI m) 0 (w 1 2 - 1) post = post 1 := fun post => (q_below S2 (by omega)).1 m hmn rfl
  have m10 : m < 10 := by omega
  rcases rng x (a := 0) (b := 7) (by omega) (by omega) with ⟨c, -, hc7, rfl⟩ | hx
  rotate_left
  · refine Qz.mk (r := -10000001) (fun post => ?_) (fun post => ?_)
    · have sn0 : (x = 0) = False := sw_no hx (N := 7) (c := 0) (by omega) (by omega)
      have sn1 : (x = 1) = False := sw_no hx (N := 7) (c := 1) (by omega) (by omega)
      have sn2 : (x = 2) = False := sw_no hx (N := 7) (c := 2) (by omega) (by omega)
      have sn3 : (x = 3) = False := sw_no hx (N := 7) (c := 3) (by omega) (by omega)
      have sn4 : (x = 4) = False := sw_no hx (N := 7) (c := 4) (by omega) (by omega)
      have sn5 : (x = 5) = False := sw_no hx (N := 7) (c := 5) (by omega) (by omega)
      have sn6 : (x = 6) = False := sw_no hx (N := 7) (c := 6) (by omega) (by omega)
      have sn7 : (x = 7) = False := sw_no hx (N := 7) (c := 7) (by omega) (by omega)
      simp only [s_X6_memoOf, k_memo_t v160 n3 hmn, s_X1_tellMemo, sn0, sn1, sn2, sn3, sn4, sn5, sn6, sn7, show (x.toInt < 0 ∨ 7 < x.toInt) = True from sw_out (N := 7) hx (by omega), e10, z01, b_all, not_true_eq_false, not_false_eq_true, true_implies, false_implies, and_true, true_and, or_self, or_true, true_or, or_false, false_or]
    · simp only [s_X7_memoOf, t_2, hin, q_in_f (show x < 0 ∨ 7 < x from hx), e10, z01, b_all, not_true_eq_false, not_false_eq_true, true_implies, false_implies, and_true, true_and, or_self, or_true, true_or, or_false, false_or]
  have fin : ∀ post, s_X7_in (nI c) 0 7 post = post 1 := fun post => q_in_n (a := 0) (b := 7) (by omega) hc7 (by omega)
  have fo : (nI c).toInt < 0 ∨ 7 < (nI c).toInt ↔ False := iff_of_eq (sw_in (by omega) (by omega) (by omega))
  have f41 : nI 4 - 1 = nI 3 := by decide
  have f51 : nI 5 - 1 = nI 4 := by decide
  have qg : ∀ f, f < 5 → ∀ post, s_X7_ofMemo w (nI m) (nI f) post = post (w 1 (214 + 5 * m + f)) w := fun f hf post => q_ofMemo m10 hf
  obtain ⟨r0, r1, r2, r3, r4⟩ := hm m hmn
  obtain ⟨s1, s2⟩ := set_out (x := nI m) hRn
  have hcs : c = 0 ∨ c = 1 ∨ c = 2 ∨ c = 3 ∨ c = 4 ∨ c = 5 ∨ c = 6 ∨ c = 7 := by omega
  rcases hcs with rfl | rfl | rfl | rfl | rfl | rfl | rfl | rfl
  · refine Qz.mk (r := w 1 (214 + 5 * m + 0)) (fun post => ?_) (fun post => ?_)
    · simp (disch := omega) only [s_X6_memoOf, k_memo_t v160 n3 hmn, s_X1_tellMemo, s_X1_isOpen, vp_in_nI, tn_nI, L0_0, L0_1, L0_2, L0_3, L0_4, L0_5, L0_6, L0_7, fo, show ((nI 0).toInt < 3 ∨ 7 < (nI 0).toInt) = True from sw_lo (by omega) (by omega), f41, f51, r0, r1, r2, r3, r4, s1, s2, q_me2 m10, qg 0 (by omega), qg 4 (by omega), t_2, t_3, v05, S3, e10, z01, b_all, not_true_eq_false, not_false_eq_true, true_implies, false_implies, and_true, true_and, or_self, or_true, true_or, or_false, false_or]
    · simp (disch := omega) only [s_X7_memoOf, hin, fin, vp_in_nI, tn_nI, L0_0, L0_1, L0_2, L0_3, L0_4, L0_5, L0_6, L0_7, fo, show ((nI 0).toInt < 3 ∨ 7 < (nI 0).toInt) = True from sw_lo (by omega) (by omega), f41, f51, r0, r1, r2, r3, r4, s1, s2, q_me2 m10, qg 0 (by omega), qg 4 (by omega), t_2, t_3, hin, v05, S3, e10, z01, b_all, not_true_eq_false, not_false_eq_true, true_implies, false_implies, and_true, true_and, or_self, or_true, true_or, or_false, false_or]
  · refine Qz.mk (r := w 1 (214 + 5 * m + 1)) (fun post => ?_) (fun post => ?_)
    · simp (disch := omega) only [s_X6_memoOf, k_memo_t v160 n3 hmn, s_X1_tellMemo, s_X1_isOpen, vp_in_nI, tn_nI, L1_0, L1_1, L1_2, L1_3, L1_4, L1_5, L1_6, L1_7, fo, show ((nI 1).toInt < 3 ∨ 7 < (nI 1).toInt) = True from sw_lo (by omega) (by omega), f41, f51, r0, r1, r2, r3, r4, s1, s2, q_me2 m10, qg 1 (by omega), qg 4 (by omega), t_2, t_3, v05, S3, e10, z01, b_all, not_true_eq_false, not_false_eq_true, true_implies, false_implies, and_true, true_and, or_self, or_true, true_or, or_false, false_or]
    · simp (disch := omega) only [s_X7_memoOf, hin, fin, vp_in_nI, tn_nI, L1_0, L1_1, L1_2, L1_3, L1_4, L1_5, L1_6, L1_7, fo, show ((nI 1).toInt < 3 ∨ 7 < (nI 1).toInt) = True from sw_lo (by omega) (by omega), f41, f51, r0, r1, r2, r3, r4, s1, s2, q_me2 m10, qg 1 (by omega), qg 4 (by omega), t_2, t_3, hin, v05, S3, e10, z01, b_all, not_true_eq_false, not_false_eq_true, true_implies, false_implies, and_true, true_and, or_self, or_true, true_or, or_false, false_or]
  · refine Qz.mk (r := w 1 (214 + 5 * m + 2)) (fun post => ?_) (fun post => ?_)
    · simp (disch := omega) only [s_X6_memoOf, k_memo_t v160 n3 hmn, s_X1_tellMemo, s_X1_isOpen, vp_in_nI, tn_nI, L2_0, L2_1, L2_2, L2_3, L2_4, L2_5, L2_6, L2_7, fo, show ((nI 2).toInt < 3 ∨ 7 < (nI 2).toInt) = True from sw_lo (by omega) (by omega), f41, f51, r0, r1, r2, r3, r4, s1, s2, q_me2 m10, qg 2 (by omega), qg 4 (by omega), t_2, t_3, v05, S3, e10, z01, b_all, not_true_eq_false, not_false_eq_true, true_implies, false_implies, and_true, true_and, or_self, or_true, true_or, or_false, false_or]
    · simp (disch := omega) only [s_X7_memoOf, hin, fin, vp_in_nI, tn_nI, L2_0, L2_1, L2_2, L2_3, L2_4, L2_5, L2_6, L2_7, fo, show ((nI 2).toInt < 3 ∨ 7 < (nI 2).toInt) = True from sw_lo (by omega) (by omega), f41, f51, r0, r1, r2, r3, r4, s1, s2, q_me2 m10, qg 2 (by omega), qg 4 (by omega), t_2, t_3, hin, v05, S3, e10, z01, b_all, not_true_eq_false, not_false_eq_true, true_implies, false_implies, and_true, true_and, or_self, or_true, true_or, or_false, false_or]
  · refine Qz.mk (r := setF (fun k => w 1 (14 + 10 * k + 5)) (nI m) ns) (fun post => ?_) (fun post => ?_)
    · simp (disch := omega) only [s_X6_memoOf, k_memo_t v160 n3 hmn, s_X1_tellMemo, s_X1_isOpen, vp_in_nI, tn_nI, L3_0, L3_1, L3_2, L3_3, L3_4, L3_5, L3_6, L3_7, fo, show ((nI 3).toInt < 3 ∨ 7 < (nI 3).toInt) = False from sw_in (by omega) (by omega) (by omega), f41, f51, r0, r1, r2, r3, r4, s1, s2, q_me2 m10, qg 3 (by omega), qg 4 (by omega), t_2, t_3, v05, S3, e10, z01, b_all, not_true_eq_false, not_false_eq_true, true_implies, false_implies, and_true, true_and, or_self, or_true, true_or, or_false, false_or]
    · simp (disch := omega) only [s_X7_memoOf, hin, fin, vp_in_nI, tn_nI, L3_0, L3_1, L3_2, L3_3, L3_4, L3_5, L3_6, L3_7, fo, show ((nI 3).toInt < 3 ∨ 7 < (nI 3).toInt) = False from sw_in (by omega) (by omega) (by omega), f41, f51, r0, r1, r2, r3, r4, s1, s2, q_me2 m10, qg 3 (by omega), qg 4 (by omega), t_2, t_3, hin, v05, S3, e10, z01, b_all, not_true_eq_false, not_false_eq_true, true_implies, false_implies, and_true, true_and, or_self, or_true, true_or, or_false, false_or]
  · refine Qz.mk (r := w 1 (214 + 5 * m + 3)) (fun post => ?_) (fun post => ?_)
    · simp (disch := omega) only [s_X6_memoOf, k_memo_t v160 n3 hmn, s_X1_tellMemo, s_X1_isOpen, vp_in_nI, tn_nI, L4_0, L4_1, L4_2, L4_3, L4_4, L4_5, L4_6, L4_7, fo, show ((nI 4).toInt < 3 ∨ 7 < (nI 4).toInt) = False from sw_in (by omega) (by omega) (by omega), f41, f51, r0, r1, r2, r3, r4, s1, s2, q_me2 m10, qg 3 (by omega), qg 4 (by omega), t_2, t_3, v05, S3, e10, z01, b_all, not_true_eq_false, not_false_eq_true, true_implies, false_implies, and_true, true_and, or_self, or_true, true_or, or_false, false_or]
    · simp (disch := omega) only [s_X7_memoOf, hin, fin, vp_in_nI, tn_nI, L4_0, L4_1, L4_2, L4_3, L4_4, L4_5, L4_6, L4_7, fo, show ((nI 4).toInt < 3 ∨ 7 < (nI 4).toInt) = False from sw_in (by omega) (by omega) (by omega), f41, f51, r0, r1, r2, r3, r4, s1, s2, q_me2 m10, qg 3 (by omega), qg 4 (by omega), t_2, t_3, hin, v05, S3, e10, z01, b_all, not_true_eq_false, not_false_eq_true, true_implies, false_implies, and_true, true_and, or_self, or_true, true_or, or_false, false_or]
  · refine Qz.mk (r := w 1 (214 + 5 * m + 4)) (fun post => ?_) (fun post => ?_)
    · simp (disch := omega) only [s_X6_memoOf, k_memo_t v160 n3 hmn, s_X1_tellMemo, s_X1_isOpen, vp_in_nI, tn_nI, L5_0, L5_1, L5_2, L5_3, L5_4, L5_5, L5_6, L5_7, fo, show ((nI 5).toInt < 3 ∨ 7 < (nI 5).toInt) = False from sw_in (by omega) (by omega) (by omega), f41, f51, r0, r1, r2, r3, r4, s1, s2, q_me2 m10, qg 3 (by omega), qg 4 (by omega), t_2, t_3, v05, S3, e10, z01, b_all, not_true_eq_false, not_false_eq_true, true_implies, false_implies, and_true, true_and, or_self, or_true, true_or, or_false, false_or]
    · simp (disch := omega) only [s_X7_memoOf, hin, fin, vp_in_nI, tn_nI, L5_0, L5_1, L5_2, L5_3, L5_4, L5_5, L5_6, L5_7, fo, show ((nI 5).toInt < 3 ∨ 7 < (nI 5).toInt) = False from sw_in (by omega) (by omega) (by omega), f41, f51, r0, r1, r2, r3, r4, s1, s2, q_me2 m10, qg 3 (by omega), qg 4 (by omega), t_2, t_3, hin, v05, S3, e10, z01, b_all, not_true_eq_false, not_false_eq_true, true_implies, false_implies, and_true, true_and, or_self, or_true, true_or, or_false, false_or]
  · by_cases hs : setF (fun k => w 1 (14 + 10 * k + 5)) (nI m) ns = 0
    · refine Qz.mk (r := 0) (fun post => ?_) (fun post => ?_)
      · simp (disch := omega) only [s_X6_memoOf, k_memo_t v160 n3 hmn, s_X1_tellMemo, s_X1_isOpen, vp_in_nI, tn_nI, L6_0, L6_1, L6_2, L6_3, L6_4, L6_5, L6_6, L6_7, fo, show ((nI 6).toInt < 3 ∨ 7 < (nI 6).toInt) = False from sw_in (by omega) (by omega) (by omega), f41, f51, r0, r1, r2, r3, r4, s1, s2, hs, q_me2 m10, qg 3 (by omega), qg 4 (by omega), t_2, t_3, v05, S3, e10, z01, b_all, not_true_eq_false, not_false_eq_true, true_implies, false_implies, and_true, true_and, or_self, or_true, true_or, or_false, false_or]
      · simp (disch := omega) only [s_X7_memoOf, hin, fin, vp_in_nI, tn_nI, L6_0, L6_1, L6_2, L6_3, L6_4, L6_5, L6_6, L6_7, fo, show ((nI 6).toInt < 3 ∨ 7 < (nI 6).toInt) = False from sw_in (by omega) (by omega) (by omega), f41, f51, r0, r1, r2, r3, r4, s1, s2, hs, q_me2 m10, qg 3 (by omega), qg 4 (by omega), t_2, t_3, hin, v05, S3, e10, z01, b_all, not_true_eq_false, not_false_eq_true, true_implies, false_implies, and_true, true_and, or_self, or_true, true_or, or_false, false_or]
    · refine Qz.mk (r := 1) (fun post => ?_) (fun post => ?_)
      · simp (disch := omega) only [s_X6_memoOf, k_memo_t v160 n3 hmn, s_X1_tellMemo, s_X1_isOpen, vp_in_nI, tn_nI, L6_0, L6_1, L6_2, L6_3, L6_4, L6_5, L6_6, L6_7, fo, show ((nI 6).toInt < 3 ∨ 7 < (nI 6).toInt) = False from sw_in (by omega) (by omega) (by omega), f41, f51, r0, r1, r2, r3, r4, s1, s2, eq_false hs, q_me2 m10, qg 3 (by omega), qg 4 (by omega), t_2, t_3, v05, S3, e10, z01, b_all, not_true_eq_false, not_false_eq_true, true_implies, false_implies, and_true, true_and, or_self, or_true, true_or, or_false, false_or]
      · simp (disch := omega) only [s_X7_memoOf, hin, fin, vp_in_nI, tn_nI, L6_0, L6_1, L6_2, L6_3, L6_4, L6_5, L6_6, L6_7, fo, show ((nI 6).toInt < 3 ∨ 7 < (nI 6).toInt) = False from sw_in (by omega) (by omega) (by omega), f41, f51, r0, r1, r2, r3, r4, s1, s2, eq_false hs, q_me2 m10, qg 3 (by omega), qg 4 (by omega), t_2, t_3, hin, v05, S3, e10, z01, b_all, not_true_eq_false, not_false_eq_true, true_implies, false_implies, and_true, true_and, or_self, or_true, true_or, or_false, false_or]
  · generalize hz : w 1 (214 + 5 * m + 2) - nI t = z
    have hz2 : v 19 m - nI t = z := by rw [r2]; exact hz
    by_cases hs : 0 ≤ z
    · by_cases hs0 : z = 0
      · refine Qz.mk (r := 0) (fun post => ?_) (fun post => ?_)
        · simp (disch := omega) only [s_X6_memoOf, k_memo_t v160 n3 hmn, s_X1_tellMemo, s_X1_isOpen, vp_in_nI, tn_nI, L7_0, L7_1, L7_2, L7_3, L7_4, L7_5, L7_6, L7_7, fo, show ((nI 7).toInt < 3 ∨ 7 < (nI 7).toInt) = False from sw_in (by omega) (by omega) (by omega), f41, f51, r0, r1,  r3, r4, s1, s2, q_me2 m10, qg 3 (by omega), qg 4 (by omega), t_2, t_3, v05, hz2, hs0, if_false, if_true, ite_self, S3, e10, z01, b_all, not_true_eq_false, not_false_eq_true, true_implies, false_implies, and_true, true_and, or_self, or_true, true_or, or_false, false_or]
        · simp (disch := omega) only [s_X7_memoOf, hin, fin, vp_in_nI, tn_nI, L7_0, L7_1, L7_2, L7_3, L7_4, L7_5, L7_6, L7_7, fo, show ((nI 7).toInt < 3 ∨ 7 < (nI 7).toInt) = False from sw_in (by omega) (by omega) (by omega), f41, f51, r0, r1, r2, r3, r4, s1, s2, q_me2 m10, qg 3 (by omega), qg 4 (by omega), t_2, t_3, hin, v05, hz, hs0, S3, e10, z01, b_all, not_true_eq_false, not_false_eq_true, true_implies, false_implies, and_true, true_and, or_self, or_true, true_or, or_false, false_or]
          exact b_t (by decide)
      · have hlt : 0 < z := Int32.lt_of_le_of_ne hs (fun q => hs0 q.symm)
        refine Qz.mk (r := z) (fun post => ?_) (fun post => ?_)
        · simp (disch := omega) only [s_X6_memoOf, k_memo_t v160 n3 hmn, s_X1_tellMemo, s_X1_isOpen, vp_in_nI, tn_nI, L7_0, L7_1, L7_2, L7_3, L7_4, L7_5, L7_6, L7_7, fo, show ((nI 7).toInt < 3 ∨ 7 < (nI 7).toInt) = False from sw_in (by omega) (by omega) (by omega), f41, f51, r0, r1,  r3, r4, s1, s2, q_me2 m10, qg 3 (by omega), qg 4 (by omega), t_2, t_3, v05, hz2, eq_true hlt, if_true, S3, e10, z01, b_all, not_true_eq_false, not_false_eq_true, true_implies, false_implies, and_true, true_and, or_self, or_true, true_or, or_false, false_or]
        · simp (disch := omega) only [s_X7_memoOf, hin, fin, vp_in_nI, tn_nI, L7_0, L7_1, L7_2, L7_3, L7_4, L7_5, L7_6, L7_7, fo, show ((nI 7).toInt < 3 ∨ 7 < (nI 7).toInt) = False from sw_in (by omega) (by omega) (by omega), f41, f51, r0, r1, r2, r3, r4, s1, s2, q_me2 m10, qg 3 (by omega), qg 4 (by omega), t_2, t_3, hin, v05, hz, eq_true hs, S3, e10, z01, b_all, not_true_eq_false, not_false_eq_true, true_implies, false_implies, and_true, true_and, or_self, or_true, true_or, or_false, false_or]
    · have hlt : ¬ 0 < z := fun q => hs (Int32.le_of_lt q)
      refine Qz.mk (r := 0) (fun post => ?_) (fun post => ?_)
      · simp (disch := omega) only [s_X6_memoOf, k_memo_t v160 n3 hmn, s_X1_tellMemo, s_X1_isOpen, vp_in_nI, tn_nI, L7_0, L7_1, L7_2, L7_3, L7_4, L7_5, L7_6, L7_7, fo, show ((nI 7).toInt < 3 ∨ 7 < (nI 7).toInt) = False from sw_in (by omega) (by omega) (by omega), f41, f51, r0, r1,  r3, r4, s1, s2, q_me2 m10, qg 3 (by omega), qg 4 (by omega), t_2, t_3, v05, hz2, eq_false hlt, if_false, S3, e10, z01, b_all, not_true_eq_false, not_false_eq_true, true_implies, false_implies, and_true, true_and, or_self, or_true, true_or, or_false, false_or]
      · simp (disch := omega) only [s_X7_memoOf, hin, fin, vp_in_nI, tn_nI, L7_0, L7_1, L7_2, L7_3, L7_4, L7_5, L7_6, L7_7, fo, show ((nI 7).toInt < 3 ∨ 7 < (nI 7).toInt) = False from sw_in (by omega) (by omega) (by omega), f41, f51, r0, r1, r2, r3, r4, s1, s2, q_me2 m10, qg 3 (by omega), qg 4 (by omega), t_2, t_3, hin, v05, hz, eq_false hs, S3, e10, z01, b_all, not_true_eq_false, not_false_eq_true, true_implies, false_implies, and_true, true_and, or_self, or_true, true_or, or_false, false_or]
theorem qz_rateOf {v0 v w : V} (h : R v (w 1)) (x y z u : Int32) : Qz (s_X6_rateOf v0 v x y z u) (s_X7_rateOf w x y z u) v0 v w := by
  obtain ⟨nd, ns, nm, t, g, e, hRn⟩ := h
  have hRn' := hRn
  obtain ⟨hg, hb, ⟨hP, hT⟩, hk, h0, hm, hB⟩ := hRn'
  have hg' := hg
  obtain ⟨n1, n2, n3, n4, n5, n6, v04, S0, v60, S1, v160, S2, v05, S3, L4, S5, v06, S6, v07, S7⟩ := hg'
  rcases gradeOr x y z with ⟨a, b, c, ha, hb10, hc, rfl, rfl, rfl⟩ | hbad
  rotate_left
  · refine Qz.mk (r := -10000001) (fun post => ?_) (fun post => ?_)
    · unfold s_X6_rateOf
      rw [k_grade_f hbad]
      exact b_t rfl
    · exact q_grade_f hbad
  have hin : ∀ post, s_X7_in (nI a) 0 4 post = post 1 := fun post => q_in_n (a := 0) (b := 4) (by omega) (by omega) (by omega)
  have hgr : ∀ post, s_X7_isGrade (nI b) (nI c) post = post 1 := fun post => q_isGrade_t hb10 hc
  have hkg : ∀ post, s_X6_isGrade (nI a) (nI b) (nI c) post = post 1 := fun post => k_grade_t ha hb10 hc
  have hown : ∀ post, s_X3_ownRate v (nI a) (nI b) (nI c) post = post (w 1 (264 + (80 * a + 8 * b + c))) v := fun post => k_own hP ha hb10 hc
  have hat : ∀ post, s_X7_rateAt (nI a) (nI b) (nI c) post = post (nI (264 + (80 * a + 8 * b + c))) := fun post => by
    rw [q_rateAt, show 264 + 80 * a + 8 * b + c = 264 + (80 * a + 8 * b + c) by omega]
  have hr1 : ∀ post, s_X3_rateFor v (nI a) (nI b) (nI c) post = post (nI (rateN (tbl (w 1)) a b c)) v := fun post => k_rate hP hT ha hb10 hc
  have hr2 : ∀ post, s_X7_rateFor w (nI a) (nI b) (nI c) post = post (nI (rateN (tbl (w 1)) a b c)) w := fun post => q_rateFor hT ha hb10 hc
  have hJ : 80 * a + 8 * b + c < 400 := by omega
  have hru : rateN (tbl (w 1)) a b c ≤ 9999 := rateN_le hT ha hb10 hc
  rcases rng u (a := 0) (b := 1) (by omega) (by omega) with ⟨d, -, hd1, rfl⟩ | hu
  rotate_left
  · refine Qz.mk (r := -10000001) (fun post => ?_) (fun post => ?_)
    · by_cases hu1 : u < 0
      · simp only [s_X6_rateOf, hkg, eq_true hu1, e10, z01, b_all, not_true_eq_false, not_false_eq_true, true_implies, false_implies, and_true, true_and, or_self, or_true, true_or, or_false, false_or]
      · have q : (u ≤ 1) = False := eq_false (nle (hu.resolve_left hu1))
        simp only [s_X6_rateOf, hkg, eq_false hu1, q, e10, z01, b_all, not_true_eq_false, not_false_eq_true, true_implies, false_implies, and_true, true_and, or_self, or_true, true_or, or_false, false_or]
    · simp only [s_X7_rateOf, hin, hgr, q_in_f (show u < 0 ∨ 1 < u from hu), e10, z01, b_all, not_true_eq_false, not_false_eq_true, true_implies, false_implies, and_true, true_and, or_self, or_true, true_or, or_false, false_or]
  have f1 : (nI d < 0) = False := eq_false (n_neg (by omega))
  have f2 : (nI d ≤ 1) = True := eq_true (lel (n := 1) hd1 (by omega))
  have f3 : ∀ post, s_X7_in (nI d) 0 1 post = post 1 := fun post => q_in_n (a := 0) (b := 1) (by omega) hd1 (by omega)
  have hcs : d = 0 ∨ d = 1 := by omega
  rcases hcs with rfl | rfl
  · generalize hq : rateN (tbl (w 1)) a b c = q at hr1 hr2 hru
    by_cases hq0 : q = 0
    · subst hq0
      refine Qz.mk (r := -10000004) (fun post => ?_) (fun post => ?_)
      · simp only [s_X6_rateOf, hkg, f1, f2, L0_1, L0_0, hr1, e10, z01, b_all, not_true_eq_false, not_false_eq_true, true_implies, false_implies, and_true, true_and, or_self, or_true, true_or, or_false, false_or]
      · simp only [s_X7_rateOf, hin, hgr, f3, L0_1, L0_0, hr2, e10, z01, b_all, not_true_eq_false, not_false_eq_true, true_implies, false_implies, and_true, true_and, or_self, or_true, true_or, or_false, false_or]
    · have f4 : (nI q = 0) = False := eq_false (nI_ne0 (by omega) (by omega))
      refine Qz.mk (r := nI q) (fun post => ?_) (fun post => ?_)
      · simp only [s_X6_rateOf, hkg, f1, f2, L0_1, hr1, f4, e10, z01, b_all, not_true_eq_false, not_false_eq_true, true_implies, false_implies, and_true, true_and, or_self, or_true, true_or, or_false, false_or]
      · simp only [s_X7_rateOf, hin, hgr, f3, L0_1, hr2, f4, e10, z01, b_all, not_true_eq_false, not_false_eq_true, true_implies, false_implies, and_true, true_and, or_self, or_true, true_or, or_false, false_or]
  · by_cases hq0 : w 1 (264 + (80 * a + 8 * b + c)) = 0
    · refine Qz.mk (r := -10000004) (fun post => ?_) (fun post => ?_)
      · simp only [s_X6_rateOf, hkg, f1, f2, L1_1, hown, hq0, e10, z01, b_all, not_true_eq_false, not_false_eq_true, true_implies, false_implies, and_true, true_and, or_self, or_true, true_or, or_false, false_or]
      · simp (disch := omega) only [s_X7_rateOf, hin, hgr, f3, L1_1, hat, vp_in_nI, tn_nI, hq0, e10, z01, b_all, not_true_eq_false, not_false_eq_true, true_implies, false_implies, and_true, true_and, or_self, or_true, true_or, or_false, false_or]
    · refine Qz.mk (r := w 1 (264 + (80 * a + 8 * b + c))) (fun post => ?_) (fun post => ?_)
      · simp only [s_X6_rateOf, hkg, f1, f2, L1_1, hown, eq_false hq0, e10, z01, b_all, not_true_eq_false, not_false_eq_true, true_implies, false_implies, and_true, true_and, or_self, or_true, true_or, or_false, false_or]
      · simp (disch := omega) only [s_X7_rateOf, hin, hgr, f3, L1_1, hat, vp_in_nI, tn_nI, eq_false hq0, e10, z01, b_all, not_true_eq_false, not_false_eq_true, true_implies, false_implies, and_true, true_and, or_self, or_true, true_or, or_false, false_or]
theorem q_count {v0 v v2 v3 w : V} (h : R v (w 1)) (hs : v2 0 2 = w 0 5) (hl : v3 0 1 = w 0 7) (hM : v0 0 6 = w 0 3) (x : Int32) : ∃ r, (∀ post, s_X6_count v0 v v2 v3 x post = post r v0 v v2 v3) ∧ (∀ post, s_X7_count w x post = post r w) := by
  obtain ⟨nd, ns, nm, t, g, e, hRn⟩ := h
  have hRn' := hRn
  obtain ⟨hg, hb, ⟨hP, hT⟩, hk, h0, hm, hB⟩ := hRn'
  have hg' := hg
  obtain ⟨n1, n2, n3, n4, n5, n6, v04, S0, v60, S1, v160, S2, v05, S3, L4, S5, v06, S6, v07, S7⟩ := hg'
  rcases rng x (a := 0) (b := 15) (by omega) (by omega) with ⟨c, -, hc15, rfl⟩ | hx
  rotate_left
  · refine ⟨-10000001, fun post => ?_, fun post => ?_⟩
    · have sn0 : (x = 0) = False := sw_no hx (N := 15) (c := 0) (by omega) (by omega)
      have sn1 : (x = 1) = False := sw_no hx (N := 15) (c := 1) (by omega) (by omega)
      have sn2 : (x = 2) = False := sw_no hx (N := 15) (c := 2) (by omega) (by omega)
      have sn3 : (x = 3) = False := sw_no hx (N := 15) (c := 3) (by omega) (by omega)
      have sn4 : (x = 4) = False := sw_no hx (N := 15) (c := 4) (by omega) (by omega)
      have sn5 : (x = 5) = False := sw_no hx (N := 15) (c := 5) (by omega) (by omega)
      have sn6 : (x = 6) = False := sw_no hx (N := 15) (c := 6) (by omega) (by omega)
      have sn7 : (x = 7) = False := sw_no hx (N := 15) (c := 7) (by omega) (by omega)
      have sn8 : (x = 8) = False := sw_no hx (N := 15) (c := 8) (by omega) (by omega)
      have sn9 : (x = 9) = False := sw_no hx (N := 15) (c := 9) (by omega) (by omega)
      have sn10 : (x = 10) = False := sw_no hx (N := 15) (c := 10) (by omega) (by omega)
      have sn11 : (x = 11) = False := sw_no hx (N := 15) (c := 11) (by omega) (by omega)
      have sn12 : (x = 12) = False := sw_no hx (N := 15) (c := 12) (by omega) (by omega)
      have sn13 : (x = 13) = False := sw_no hx (N := 15) (c := 13) (by omega) (by omega)
      have sn14 : (x = 14) = False := sw_no hx (N := 15) (c := 14) (by omega) (by omega)
      have sn15 : (x = 15) = False := sw_no hx (N := 15) (c := 15) (by omega) (by omega)
      have fo1 : (x.toInt < 0 ∨ 15 < x.toInt) = True := sw_out (N := 15) hx (by omega)
      have fo2 : (x.toInt < 11 ∨ 13 < x.toInt) = True := eq_true (by
        rcases of_eq_true fo1 with q | q
        · exact Or.inl (by omega)
        · exact Or.inr (by omega))
      simp only [s_X6_count, s_X1_tellNumber, sn0, sn1, sn2, sn3, sn4, sn5, sn6, sn7, sn8, sn9, sn10, sn11, sn12, sn13, sn14, sn15, fo1, fo2, e10, z01, b_all, not_true_eq_false, not_false_eq_true, true_implies, false_implies, and_true, true_and, or_self, or_true, true_or, or_false, false_or]
    · have sn0 : (x = 0) = False := sw_no hx (N := 15) (c := 0) (by omega) (by omega)
      have sn1 : (x = 1) = False := sw_no hx (N := 15) (c := 1) (by omega) (by omega)
      have sn2 : (x = 2) = False := sw_no hx (N := 15) (c := 2) (by omega) (by omega)
      have sn3 : (x = 3) = False := sw_no hx (N := 15) (c := 3) (by omega) (by omega)
      have sn4 : (x = 4) = False := sw_no hx (N := 15) (c := 4) (by omega) (by omega)
      have sn5 : (x = 5) = False := sw_no hx (N := 15) (c := 5) (by omega) (by omega)
      have sn6 : (x = 6) = False := sw_no hx (N := 15) (c := 6) (by omega) (by omega)
      have sn7 : (x = 7) = False := sw_no hx (N := 15) (c := 7) (by omega) (by omega)
      have sn8 : (x = 8) = False := sw_no hx (N := 15) (c := 8) (by omega) (by omega)
      have sn9 : (x = 9) = False := sw_no hx (N := 15) (c := 9) (by omega) (by omega)
      have sn10 : (x = 10) = False := sw_no hx (N := 15) (c := 10) (by omega) (by omega)
      have sn11 : (x = 11) = False := sw_no hx (N := 15) (c := 11) (by omega) (by omega)
      have sn12 : (x = 12) = False := sw_no hx (N := 15) (c := 12) (by omega) (by omega)
      have sn13 : (x = 13) = False := sw_no hx (N := 15) (c := 13) (by omega) (by omega)
      have sn14 : (x = 14) = False := sw_no hx (N := 15) (c := 14) (by omega) (by omega)
      have sn15 : (x = 15) = False := sw_no hx (N := 15) (c := 15) (by omega) (by omega)
      have fo1 : (x.toInt < 0 ∨ 15 < x.toInt) = True := sw_out (N := 15) hx (by omega)
      have fo2 : (x.toInt < 0 ∨ 13 < x.toInt) = True := eq_true (by
        rcases of_eq_true fo1 with q | q
        · exact Or.inl q
        · exact Or.inr (by omega))
      have fi : ∀ post, s_X7_in x 14 15 post = post 0 := fun post => q_in_f (by
        rcases hx with q | q
        · refine Or.inl ?_
          rw [Int32.lt_iff_toInt_lt] at q ⊢
          have q0 : (nI 0).toInt = 0 := by decide
          have q1 : (14 : Int32).toInt = 14 := by decide
          omega
        · exact Or.inr q)
      simp only [s_X7_count, sn0, sn1, sn2, sn3, sn4, sn5, sn6, sn7, sn8, sn9, sn10, sn11, sn12, sn13, fo2, fi, e10, z01, b_all, not_true_eq_false, not_false_eq_true, true_implies, false_implies, and_true, true_and, or_self, or_true, true_or, or_false, false_or]
  have fo : ((nI c).toInt < 0 ∨ 15 < (nI c).toInt) = False := sw_in (by omega) (by omega) (by omega)
  have hcs : c = 0 ∨ c = 1 ∨ c = 2 ∨ c = 3 ∨ c = 4 ∨ c = 5 ∨ c = 6 ∨ c = 7 ∨ c = 8 ∨ c = 9 ∨ c = 10 ∨ c = 11 ∨ c = 12 ∨ c = 13 ∨ c = 14 ∨ c = 15 := by omega
  rcases hcs with rfl | rfl | rfl | rfl | rfl | rfl | rfl | rfl | rfl | rfl | rfl | rfl | rfl | rfl | rfl | rfl
  · refine ⟨nI nd, fun post => ?_, fun post => ?_⟩
    · simp (disch := omega) only [s_X6_count, s_X1_tellNumber, L0_0, L0_1, L0_2, L0_3, L0_4, L0_5, L0_6, L0_7, L0_8, L0_9, L0_10, L0_11, L0_12, L0_13, L0_14, L0_15, fo, show ((nI 0).toInt < 11 ∨ 13 < (nI 0).toInt) = True from sw_lo (by omega) (by omega), v04, v60, v160, v05, v06, v07, hs, hl, hM, k_entries, k_bal v04 n1,  e10, z01, b_all, not_true_eq_false, not_false_eq_true, true_implies, false_implies, and_true, true_and, or_self, or_true, true_or, or_false, false_or]
    · simp (disch := omega) only [s_X7_count, L0_0, L0_1, L0_2, L0_3, L0_4, L0_5, L0_6, L0_7, L0_8, L0_9, L0_10, L0_11, L0_12, L0_13, L0_14, L0_15, show ((nI 0).toInt < 0 ∨ 13 < (nI 0).toInt) = False from sw_in (by omega) (by omega) (by omega), vp_in_nI, tn_nI, t_2, t_3, t_4, t_5, S0, S1, S2, S3, S5, S6, S7, q_bal,  e10, z01, b_all, not_true_eq_false, not_false_eq_true, true_implies, false_implies, and_true, true_and, or_self, or_true, true_or, or_false, false_or]
  · refine ⟨nI ns, fun post => ?_, fun post => ?_⟩
    · simp (disch := omega) only [s_X6_count, s_X1_tellNumber, L1_0, L1_1, L1_2, L1_3, L1_4, L1_5, L1_6, L1_7, L1_8, L1_9, L1_10, L1_11, L1_12, L1_13, L1_14, L1_15, fo, show ((nI 1).toInt < 11 ∨ 13 < (nI 1).toInt) = True from sw_lo (by omega) (by omega), v04, v60, v160, v05, v06, v07, hs, hl, hM, k_entries, k_bal v04 n1,  e10, z01, b_all, not_true_eq_false, not_false_eq_true, true_implies, false_implies, and_true, true_and, or_self, or_true, true_or, or_false, false_or]
    · simp (disch := omega) only [s_X7_count, L1_0, L1_1, L1_2, L1_3, L1_4, L1_5, L1_6, L1_7, L1_8, L1_9, L1_10, L1_11, L1_12, L1_13, L1_14, L1_15, show ((nI 1).toInt < 0 ∨ 13 < (nI 1).toInt) = False from sw_in (by omega) (by omega) (by omega), vp_in_nI, tn_nI, t_2, t_3, t_4, t_5, S0, S1, S2, S3, S5, S6, S7, q_bal,  e10, z01, b_all, not_true_eq_false, not_false_eq_true, true_implies, false_implies, and_true, true_and, or_self, or_true, true_or, or_false, false_or]
  · obtain ⟨r, h1, h2⟩ := j_sold hRn ns 0 0 (by omega)
    refine ⟨r, fun post => ?_, fun post => ?_⟩
    · simp (disch := omega) only [s_X6_count, s_X1_tellNumber, L2_0, L2_1, L2_2, L2_3, L2_4, L2_5, L2_6, L2_7, L2_8, L2_9, L2_10, L2_11, L2_12, L2_13, L2_14, L2_15, fo, show ((nI 2).toInt < 11 ∨ 13 < (nI 2).toInt) = True from sw_lo (by omega) (by omega), v04, v60, v160, v05, v06, v07, hs, hl, hM, k_entries, k_bal v04 n1, s_X5_countSold, e10, z01, b_all, not_true_eq_false, not_false_eq_true, true_implies, false_implies, and_true, true_and, or_self, or_true, true_or, or_false, false_or]
      exact h1 _ (fun x _ v => post x v0 v v2 v3)
    · simp (disch := omega) only [s_X7_count, L2_0, L2_1, L2_2, L2_3, L2_4, L2_5, L2_6, L2_7, L2_8, L2_9, L2_10, L2_11, L2_12, L2_13, L2_14, L2_15, show ((nI 2).toInt < 0 ∨ 13 < (nI 2).toInt) = False from sw_in (by omega) (by omega) (by omega), vp_in_nI, tn_nI, t_2, t_3, t_4, t_5, S0, S1, S2, S3, S5, S6, S7, q_bal, s_X7_stonesOf, e10, z01, b_all, not_true_eq_false, not_false_eq_true, true_implies, false_implies, and_true, true_and, or_self, or_true, true_or, or_false, false_or]
      exact h2 _ (fun x _ v => post x v)
  · obtain ⟨r, h1, h2⟩ := j_out hRn ns 0 0 (by omega)
    refine ⟨r, fun post => ?_, fun post => ?_⟩
    · simp (disch := omega) only [s_X6_count, s_X1_tellNumber, L3_0, L3_1, L3_2, L3_3, L3_4, L3_5, L3_6, L3_7, L3_8, L3_9, L3_10, L3_11, L3_12, L3_13, L3_14, L3_15, fo, show ((nI 3).toInt < 11 ∨ 13 < (nI 3).toInt) = True from sw_lo (by omega) (by omega), v04, v60, v160, v05, v06, v07, hs, hl, hM, k_entries, k_bal v04 n1, s_X5_countOut, e10, z01, b_all, not_true_eq_false, not_false_eq_true, true_implies, false_implies, and_true, true_and, or_self, or_true, true_or, or_false, false_or]
      exact h1 _ (fun x _ v => post x v0 v v2 v3)
    · simp (disch := omega) only [s_X7_count, L3_0, L3_1, L3_2, L3_3, L3_4, L3_5, L3_6, L3_7, L3_8, L3_9, L3_10, L3_11, L3_12, L3_13, L3_14, L3_15, show ((nI 3).toInt < 0 ∨ 13 < (nI 3).toInt) = False from sw_in (by omega) (by omega) (by omega), vp_in_nI, tn_nI, t_2, t_3, t_4, t_5, S0, S1, S2, S3, S5, S6, S7, q_bal, s_X7_stonesOf, e10, z01, b_all, not_true_eq_false, not_false_eq_true, true_implies, false_implies, and_true, true_and, or_self, or_true, true_or, or_false, false_or]
      exact h2 _ (fun x _ v => post x v)
  · refine ⟨nI nm, fun post => ?_, fun post => ?_⟩
    · simp (disch := omega) only [s_X6_count, s_X1_tellNumber, L4_0, L4_1, L4_2, L4_3, L4_4, L4_5, L4_6, L4_7, L4_8, L4_9, L4_10, L4_11, L4_12, L4_13, L4_14, L4_15, fo, show ((nI 4).toInt < 11 ∨ 13 < (nI 4).toInt) = True from sw_lo (by omega) (by omega), v04, v60, v160, v05, v06, v07, hs, hl, hM, k_entries, k_bal v04 n1,  e10, z01, b_all, not_true_eq_false, not_false_eq_true, true_implies, false_implies, and_true, true_and, or_self, or_true, true_or, or_false, false_or]
    · simp (disch := omega) only [s_X7_count, L4_0, L4_1, L4_2, L4_3, L4_4, L4_5, L4_6, L4_7, L4_8, L4_9, L4_10, L4_11, L4_12, L4_13, L4_14, L4_15, show ((nI 4).toInt < 0 ∨ 13 < (nI 4).toInt) = False from sw_in (by omega) (by omega) (by omega), vp_in_nI, tn_nI, t_2, t_3, t_4, t_5, S0, S1, S2, S3, S5, S6, S7, q_bal,  e10, z01, b_all, not_true_eq_false, not_false_eq_true, true_implies, false_implies, and_true, true_and, or_self, or_true, true_or, or_false, false_or]
  · obtain ⟨r, h1, h2⟩ := j_open hRn nm 0 0 (by omega)
    refine ⟨r, fun post => ?_, fun post => ?_⟩
    · simp (disch := omega) only [s_X6_count, s_X1_tellNumber, L5_0, L5_1, L5_2, L5_3, L5_4, L5_5, L5_6, L5_7, L5_8, L5_9, L5_10, L5_11, L5_12, L5_13, L5_14, L5_15, fo, show ((nI 5).toInt < 11 ∨ 13 < (nI 5).toInt) = True from sw_lo (by omega) (by omega), v04, v60, v160, v05, v06, v07, hs, hl, hM, k_entries, k_bal v04 n1, s_X1_countOpen, e10, z01, b_all, not_true_eq_false, not_false_eq_true, true_implies, false_implies, and_true, true_and, or_self, or_true, true_or, or_false, false_or]
      exact h1 _ (fun x _ v => post x v0 v v2 v3)
    · simp (disch := omega) only [s_X7_count, L5_0, L5_1, L5_2, L5_3, L5_4, L5_5, L5_6, L5_7, L5_8, L5_9, L5_10, L5_11, L5_12, L5_13, L5_14, L5_15, show ((nI 5).toInt < 0 ∨ 13 < (nI 5).toInt) = False from sw_in (by omega) (by omega) (by omega), vp_in_nI, tn_nI, t_2, t_3, t_4, t_5, S0, S1, S2, S3, S5, S6, S7, q_bal, s_X7_openMemos, e10, z01, b_all, not_true_eq_false, not_false_eq_true, true_implies, false_implies, and_true, true_and, or_self, or_true, true_or, or_false, false_or]
      exact h2 _ (fun x _ v => post x v)
  · refine ⟨nI (cz (v 5) 24), fun post => ?_, fun post => ?_⟩
    · simp (disch := omega) only [s_X6_count, s_X1_tellNumber, L6_0, L6_1, L6_2, L6_3, L6_4, L6_5, L6_6, L6_7, L6_8, L6_9, L6_10, L6_11, L6_12, L6_13, L6_14, L6_15, fo, show ((nI 6).toInt < 11 ∨ 13 < (nI 6).toInt) = True from sw_lo (by omega) (by omega), v04, v60, v160, v05, v06, v07, hs, hl, hM, k_entries, k_bal v04 n1,  e10, z01, b_all, not_true_eq_false, not_false_eq_true, true_implies, false_implies, and_true, true_and, or_self, or_true, true_or, or_false, false_or]
    · simp (disch := omega) only [s_X7_count, L6_0, L6_1, L6_2, L6_3, L6_4, L6_5, L6_6, L6_7, L6_8, L6_9, L6_10, L6_11, L6_12, L6_13, L6_14, L6_15, show ((nI 6).toInt < 0 ∨ 13 < (nI 6).toInt) = False from sw_in (by omega) (by omega) (by omega), vp_in_nI, tn_nI, t_2, t_3, t_4, t_5, S0, S1, S2, S3, S5, S6, S7, q_bal,  e10, z01, b_all, not_true_eq_false, not_false_eq_true, true_implies, false_implies, and_true, true_and, or_self, or_true, true_or, or_false, false_or]
  · refine ⟨nI t, fun post => ?_, fun post => ?_⟩
    · simp (disch := omega) only [s_X6_count, s_X1_tellNumber, L7_0, L7_1, L7_2, L7_3, L7_4, L7_5, L7_6, L7_7, L7_8, L7_9, L7_10, L7_11, L7_12, L7_13, L7_14, L7_15, fo, show ((nI 7).toInt < 11 ∨ 13 < (nI 7).toInt) = True from sw_lo (by omega) (by omega), v04, v60, v160, v05, v06, v07, hs, hl, hM, k_entries, k_bal v04 n1,  e10, z01, b_all, not_true_eq_false, not_false_eq_true, true_implies, false_implies, and_true, true_and, or_self, or_true, true_or, or_false, false_or]
    · simp (disch := omega) only [s_X7_count, L7_0, L7_1, L7_2, L7_3, L7_4, L7_5, L7_6, L7_7, L7_8, L7_9, L7_10, L7_11, L7_12, L7_13, L7_14, L7_15, show ((nI 7).toInt < 0 ∨ 13 < (nI 7).toInt) = False from sw_in (by omega) (by omega) (by omega), vp_in_nI, tn_nI, t_2, t_3, t_4, t_5, S0, S1, S2, S3, S5, S6, S7, q_bal,  e10, z01, b_all, not_true_eq_false, not_false_eq_true, true_implies, false_implies, and_true, true_and, or_self, or_true, true_or, or_false, false_or]
  · have hsum : sI (v 22) nd = sI (fun d => w 1 (8 + d)) 6 := by
      have := sI_cut (f := v 22) (g := fun d => w 1 (8 + d)) (n := nd) (fun d hd => (hb d (by omega)).1) (6 - nd) (fun d h1 h2 => (hb d (by omega)).2 h1)
      rw [show nd + (6 - nd) = 6 by omega] at this
      exact this
    refine ⟨sI (fun d => w 1 (8 + d)) 6 + 100000000, fun post => ?_, fun post => ?_⟩
    · simp (disch := omega) only [s_X6_count, s_X1_tellNumber, L8_0, L8_1, L8_2, L8_3, L8_4, L8_5, L8_6, L8_7, L8_8, L8_9, L8_10, L8_11, L8_12, L8_13, L8_14, L8_15, fo, show ((nI 8).toInt < 11 ∨ 13 < (nI 8).toInt) = True from sw_lo (by omega) (by omega), v04, v60, v160, v05, v06, v07, hs, hl, hM, k_entries, k_bal v04 n1, hsum, e10, z01, b_all, not_true_eq_false, not_false_eq_true, true_implies, false_implies, and_true, true_and, or_self, or_true, true_or, or_false, false_or]
    · simp (disch := omega) only [s_X7_count, L8_0, L8_1, L8_2, L8_3, L8_4, L8_5, L8_6, L8_7, L8_8, L8_9, L8_10, L8_11, L8_12, L8_13, L8_14, L8_15, show ((nI 8).toInt < 0 ∨ 13 < (nI 8).toInt) = False from sw_in (by omega) (by omega) (by omega), vp_in_nI, tn_nI, t_2, t_3, t_4, t_5, S0, S1, S2, S3, S5, S6, S7, q_bal,  e10, z01, b_all, not_true_eq_false, not_false_eq_true, true_implies, false_implies, and_true, true_and, or_self, or_true, true_or, or_false, false_or]
      rw [Int32.add_comm]
  · obtain ⟨r, h1, h2⟩ := j_sum hRn ns 0 0 (by omega)
    refine ⟨r, fun post => ?_, fun post => ?_⟩
    · simp (disch := omega) only [s_X6_count, s_X1_tellNumber, L9_0, L9_1, L9_2, L9_3, L9_4, L9_5, L9_6, L9_7, L9_8, L9_9, L9_10, L9_11, L9_12, L9_13, L9_14, L9_15, fo, show ((nI 9).toInt < 11 ∨ 13 < (nI 9).toInt) = True from sw_lo (by omega) (by omega), v04, v60, v160, v05, v06, v07, hs, hl, hM, k_entries, k_bal v04 n1, s_X5_sumSold, e10, z01, b_all, not_true_eq_false, not_false_eq_true, true_implies, false_implies, and_true, true_and, or_self, or_true, true_or, or_false, false_or]
      exact h1 _ (fun x _ v => post x v0 v v2 v3)
    · simp (disch := omega) only [s_X7_count, L9_0, L9_1, L9_2, L9_3, L9_4, L9_5, L9_6, L9_7, L9_8, L9_9, L9_10, L9_11, L9_12, L9_13, L9_14, L9_15, show ((nI 9).toInt < 0 ∨ 13 < (nI 9).toInt) = False from sw_in (by omega) (by omega) (by omega), vp_in_nI, tn_nI, t_2, t_3, t_4, t_5, S0, S1, S2, S3, S5, S6, S7, q_bal, s_X7_stonesOf, e10, z01, b_all, not_true_eq_false, not_false_eq_true, true_implies, false_implies, and_true, true_and, or_self, or_true, true_or, or_false, false_or]
      exact h2 _ (fun x _ v => post x v)
  · have h4 : w 1 4 = v 0 8 := by rw [L4, show nI 0 = 0 from rfl, Int32.add_zero]
    refine ⟨w 1 4, fun post => ?_, fun post => ?_⟩
    · simp (disch := omega) only [s_X6_count, s_X1_tellNumber, L10_0, L10_1, L10_2, L10_3, L10_4, L10_5, L10_6, L10_7, L10_8, L10_9, L10_10, L10_11, L10_12, L10_13, L10_14, L10_15, fo, show ((nI 10).toInt < 11 ∨ 13 < (nI 10).toInt) = True from sw_lo (by omega) (by omega), v04, v60, v160, v05, v06, v07, hs, hl, hM, k_entries, k_bal v04 n1, h4, e10, z01, b_all, not_true_eq_false, not_false_eq_true, true_implies, false_implies, and_true, true_and, or_self, or_true, true_or, or_false, false_or]
    · simp (disch := omega) only [s_X7_count, L10_0, L10_1, L10_2, L10_3, L10_4, L10_5, L10_6, L10_7, L10_8, L10_9, L10_10, L10_11, L10_12, L10_13, L10_14, L10_15, show ((nI 10).toInt < 0 ∨ 13 < (nI 10).toInt) = False from sw_in (by omega) (by omega) (by omega), vp_in_nI, tn_nI, t_2, t_3, t_4, t_5, S0, S1, S2, S3, S5, S6, S7, q_bal,  e10, z01, b_all, not_true_eq_false, not_false_eq_true, true_implies, false_implies, and_true, true_and, or_self, or_true, true_or, or_false, false_or]
  · refine ⟨w 0 5, fun post => ?_, fun post => ?_⟩
    · simp (disch := omega) only [s_X6_count, s_X1_tellNumber, L11_0, L11_1, L11_2, L11_3, L11_4, L11_5, L11_6, L11_7, L11_8, L11_9, L11_10, L11_11, L11_12, L11_13, L11_14, L11_15, fo, show ((nI 11).toInt < 11 ∨ 13 < (nI 11).toInt) = False from sw_in (by omega) (by omega) (by omega), v04, v60, v160, v05, v06, v07, hs, hl, hM, k_entries, k_bal v04 n1,  e10, z01, b_all, not_true_eq_false, not_false_eq_true, true_implies, false_implies, and_true, true_and, or_self, or_true, true_or, or_false, false_or]
    · simp (disch := omega) only [s_X7_count, L11_0, L11_1, L11_2, L11_3, L11_4, L11_5, L11_6, L11_7, L11_8, L11_9, L11_10, L11_11, L11_12, L11_13, L11_14, L11_15, show ((nI 11).toInt < 0 ∨ 13 < (nI 11).toInt) = False from sw_in (by omega) (by omega) (by omega), vp_in_nI, tn_nI, t_2, t_3, t_4, t_5, S0, S1, S2, S3, S5, S6, S7, q_bal,  e10, z01, b_all, not_true_eq_false, not_false_eq_true, true_implies, false_implies, and_true, true_and, or_self, or_true, true_or, or_false, false_or]
  · refine ⟨w 0 7, fun post => ?_, fun post => ?_⟩
    · simp (disch := omega) only [s_X6_count, s_X1_tellNumber, L12_0, L12_1, L12_2, L12_3, L12_4, L12_5, L12_6, L12_7, L12_8, L12_9, L12_10, L12_11, L12_12, L12_13, L12_14, L12_15, fo, show ((nI 12).toInt < 11 ∨ 13 < (nI 12).toInt) = False from sw_in (by omega) (by omega) (by omega), v04, v60, v160, v05, v06, v07, hs, hl, hM, k_entries, k_bal v04 n1,  e10, z01, b_all, not_true_eq_false, not_false_eq_true, true_implies, false_implies, and_true, true_and, or_self, or_true, true_or, or_false, false_or]
    · simp (disch := omega) only [s_X7_count, L12_0, L12_1, L12_2, L12_3, L12_4, L12_5, L12_6, L12_7, L12_8, L12_9, L12_10, L12_11, L12_12, L12_13, L12_14, L12_15, show ((nI 12).toInt < 0 ∨ 13 < (nI 12).toInt) = False from sw_in (by omega) (by omega) (by omega), vp_in_nI, tn_nI, t_2, t_3, t_4, t_5, S0, S1, S2, S3, S5, S6, S7, q_bal,  e10, z01, b_all, not_true_eq_false, not_false_eq_true, true_implies, false_implies, and_true, true_and, or_self, or_true, true_or, or_false, false_or]
  · by_cases hq : w 0 3 = 0
    · refine ⟨0, fun post => ?_, fun post => ?_⟩
      · simp (disch := omega) only [s_X6_count, s_X1_tellNumber, L13_0, L13_1, L13_2, L13_3, L13_4, L13_5, L13_6, L13_7, L13_8, L13_9, L13_10, L13_11, L13_12, L13_13, L13_14, L13_15, fo, show ((nI 13).toInt < 11 ∨ 13 < (nI 13).toInt) = False from sw_in (by omega) (by omega) (by omega), v04, v60, v160, v05, v06, v07, hs, hl, hM, k_entries, k_bal v04 n1, hq, e10, z01, b_all, not_true_eq_false, not_false_eq_true, true_implies, false_implies, and_true, true_and, or_self, or_true, true_or, or_false, false_or]
      · simp (disch := omega) only [s_X7_count, L13_0, L13_1, L13_2, L13_3, L13_4, L13_5, L13_6, L13_7, L13_8, L13_9, L13_10, L13_11, L13_12, L13_13, L13_14, L13_15, show ((nI 13).toInt < 0 ∨ 13 < (nI 13).toInt) = False from sw_in (by omega) (by omega) (by omega), vp_in_nI, tn_nI, t_2, t_3, t_4, t_5, S0, S1, S2, S3, S5, S6, S7, q_bal, hq, e10, z01, b_all, not_true_eq_false, not_false_eq_true, true_implies, false_implies, and_true, true_and, or_self, or_true, true_or, or_false, false_or]
    · refine ⟨1, fun post => ?_, fun post => ?_⟩
      · simp (disch := omega) only [s_X6_count, s_X1_tellNumber, L13_0, L13_1, L13_2, L13_3, L13_4, L13_5, L13_6, L13_7, L13_8, L13_9, L13_10, L13_11, L13_12, L13_13, L13_14, L13_15, fo, show ((nI 13).toInt < 11 ∨ 13 < (nI 13).toInt) = False from sw_in (by omega) (by omega) (by omega), v04, v60, v160, v05, v06, v07, hs, hl, hM, k_entries, k_bal v04 n1, eq_false hq, e10, z01, b_all, not_true_eq_false, not_false_eq_true, true_implies, false_implies, and_true, true_and, or_self, or_true, true_or, or_false, false_or]
      · simp (disch := omega) only [s_X7_count, L13_0, L13_1, L13_2, L13_3, L13_4, L13_5, L13_6, L13_7, L13_8, L13_9, L13_10, L13_11, L13_12, L13_13, L13_14, L13_15, show ((nI 13).toInt < 0 ∨ 13 < (nI 13).toInt) = False from sw_in (by omega) (by omega) (by omega), vp_in_nI, tn_nI, t_2, t_3, t_4, t_5, S0, S1, S2, S3, S5, S6, S7, q_bal, eq_false hq, e10, z01, b_all, not_true_eq_false, not_false_eq_true, true_implies, false_implies, and_true, true_and, or_self, or_true, true_or, or_false, false_or]
  · refine ⟨nI g, fun post => ?_, fun post => ?_⟩
    · simp (disch := omega) only [s_X6_count, s_X1_tellNumber, L14_0, L14_1, L14_2, L14_3, L14_4, L14_5, L14_6, L14_7, L14_8, L14_9, L14_10, L14_11, L14_12, L14_13, L14_14, L14_15, fo, show ((nI 14).toInt < 11 ∨ 13 < (nI 14).toInt) = True from eq_true (Or.inr (by decide)), v04, v60, v160, v05, v06, v07, hs, hl, hM, k_entries, k_bal v04 n1,  e10, z01, b_all, not_true_eq_false, not_false_eq_true, true_implies, false_implies, and_true, true_and, or_self, or_true, true_or, or_false, false_or]
    · simp (disch := omega) only [s_X7_count, L14_0, L14_1, L14_2, L14_3, L14_4, L14_5, L14_6, L14_7, L14_8, L14_9, L14_10, L14_11, L14_12, L14_13, L14_14, L14_15, show ((nI 14).toInt < 0 ∨ 13 < (nI 14).toInt) = True from eq_true (Or.inr (by decide)), vp_in_nI, tn_nI, t_2, t_3, t_4, t_5, S0, S1, S2, S3, S5, S6, S7, q_bal, show vp_in (6 + nI 14 - 14) 664 = True from eq_true (vp_in_nI (n := 6) (by omega) (by decide)), show tn (6 + nI 14 - 14) = 6 from by decide, show ∀ post, s_X7_in (nI 14) 14 15 post = post 1 from fun post => q_in_n (a := 14) (b := 15) (by omega) (by omega) (by omega), e10, z01, b_all, not_true_eq_false, not_false_eq_true, true_implies, false_implies, and_true, true_and, or_self, or_true, true_or, or_false, false_or]
  · refine ⟨nI e, fun post => ?_, fun post => ?_⟩
    · simp (disch := omega) only [s_X6_count, s_X1_tellNumber, L15_0, L15_1, L15_2, L15_3, L15_4, L15_5, L15_6, L15_7, L15_8, L15_9, L15_10, L15_11, L15_12, L15_13, L15_14, L15_15, fo, show ((nI 15).toInt < 11 ∨ 13 < (nI 15).toInt) = True from eq_true (Or.inr (by decide)), v04, v60, v160, v05, v06, v07, hs, hl, hM, k_entries, k_bal v04 n1,  e10, z01, b_all, not_true_eq_false, not_false_eq_true, true_implies, false_implies, and_true, true_and, or_self, or_true, true_or, or_false, false_or]
    · simp (disch := omega) only [s_X7_count, L15_0, L15_1, L15_2, L15_3, L15_4, L15_5, L15_6, L15_7, L15_8, L15_9, L15_10, L15_11, L15_12, L15_13, L15_14, L15_15, show ((nI 15).toInt < 0 ∨ 13 < (nI 15).toInt) = True from eq_true (Or.inr (by decide)), vp_in_nI, tn_nI, t_2, t_3, t_4, t_5, S0, S1, S2, S3, S5, S6, S7, q_bal, show vp_in (6 + nI 15 - 14) 664 = True from eq_true (vp_in_nI (n := 7) (by omega) (by decide)), show tn (6 + nI 15 - 14) = 7 from by decide, show ∀ post, s_X7_in (nI 15) 14 15 post = post 1 from fun post => q_in_n (a := 14) (b := 15) (by omega) (by omega) (by omega), e10, z01, b_all, not_true_eq_false, not_false_eq_true, true_implies, false_implies, and_true, true_and, or_self, or_true, true_or, or_false, false_or]
