/-! P29 6: what the acts answer -/
theorem an_deal_f {x : V} {nd ns nm t g e l : Nat} {S : Nat → Int32} (hRn : Rn x S nd ns nm t g e l) (h : nd = 6) (post : Int32 → V → Prop) : s_X1_addDealer x post = post (-10000003) x := by
  have v04 : x 0 4 = nI nd := hRn.1.2.2.2.2.2.2.1
  have f0 : (nI nd < 0) = False := eq_false (n_neg (by omega))
  have f1 : (nI nd < 6) = False := eq_false (by subst h; decide)
  simp only [s_X1_addDealer, v04, f0, f1, e10, b_all, not_true_eq_false, not_false_eq_true, true_implies, false_implies, and_true, true_and]
theorem an_deal {x : V} {nd : Nat} (v04 : x 0 4 = nI nd) (h : nd < 6) : ∃ x2, (∀ post, s_X1_addDealer x post = post (nI nd) x2) ∧ x2 0 4 = nI (nd + 1) ∧ x2 6 = x 6 ∧ x2 5 = x 5 := by
  have f0 : (nI nd < 0) = False := eq_false (n_neg (by omega))
  have f1 : (nI nd < 6) = True := eq_true (lt_n (n := 6) h (by omega))
  have hq : nI (nd + 1) - 1 = nI nd := by
    rw [← nI_1]
    exact add_sub1 nd
  refine ⟨st (st x 22 nd 0) 0 4 (nI (nd + 1)), fun post => ?_, ?_, ?_, ?_⟩
  · simp (disch := omega) only [s_X1_addDealer, v04, f0, f1, vp_in_nI, tn_nI, sc_st, st1, st1n, u_s, u_n, nI_1, hq, e10, b_all, not_true_eq_false, not_false_eq_true, true_implies, false_implies, and_true, true_and]
  · simp (disch := omega) only [st1, u_s]
  · simp (disch := omega) only [st1n]
  · simp (disch := omega) only [st1n]
theorem an_stone_d {x : V} {nd : Nat} {y z u : Int32} (v04 : x 0 4 = nI nd) (post : Int32 → V → Prop) : s_X1_addStone x (nI nd) y z u post = post (-10000001) x := by
  unfold s_X1_addStone
  rw [k_deal_f v04 (Or.inr (Int32.le_refl _))]
  exact b_t rfl
theorem an_stone_w {x : V} {nd d : Nat} {z u : Int32} (v04 : x 0 4 = nI nd) (n1 : nd ≤ 6) (hd : d < nd) (post : Int32 → V → Prop) : s_X1_addStone x (nI d) (nI 0) z u post = post (-10000001) x := by
  unfold s_X1_addStone
  rw [k_deal_t v04 n1 hd, b_f z10]
  exact b_t (by decide)
theorem an_stone_f {x : V} {nd d c a b : Nat} (v04 : x 0 4 = nI nd) (v60 : x 6 0 = nI 20) (n1 : nd ≤ 6) (hd : d < nd) (c1 : 1 ≤ c) (c2 : c ≤ 999) (ha : a < 10) (hb : b < 8) (post : Int32 → V → Prop) : s_X1_addStone x (nI d) (nI c) (nI a) (nI b) post = post (-10000003) x := by
  have f1 : (nI c < 1) = False := eq_false (ltl (n := 1) c1 (by omega))
  have f2 : (999 < nI c) = False := eq_false (show ¬ nI 999 < nI c by rw [n_lt (by omega) (by omega)]; omega)
  have hlk : ∀ post, s_X6_isLook (nI a) (nI b) post = post 1 := fun post => k_look_t ha hb
  have g0 : (nI 20 < 0) = False := eq_false (by decide)
  have g1 : (nI 20 < 20) = False := eq_false (by decide)
  simp (disch := omega) only [s_X1_addStone, k_deal_t v04 n1 hd, f1, f2, hlk, s_X5_add, v60, g0, g1, e10, b_all, not_true_eq_false, not_false_eq_true, true_implies, false_implies, and_true, true_and]
theorem an_stone {x : V} {nd ns d c a b : Nat} (v04 : x 0 4 = nI nd) (v60 : x 6 0 = nI ns) (n1 : nd ≤ 6) (hs : ns < 20) (hd : d < nd) (c1 : 1 ≤ c) (c2 : c ≤ 999) (ha : a < 10) (hb : b < 8) : ∃ x2, (∀ post, s_X1_addStone x (nI d) (nI c) (nI a) (nI b) post = post (nI ns) x2) ∧ x2 5 = x 5 := by
  have f1 : (nI c < 1) = False := eq_false (ltl (n := 1) c1 (by omega))
  have f2 : (999 < nI c) = False := eq_false (show ¬ nI 999 < nI c by rw [n_lt (by omega) (by omega)]; omega)
  have hlk : ∀ post, s_X6_isLook (nI a) (nI b) post = post 1 := fun post => k_look_t ha hb
  have g0 : (nI ns < 0) = False := eq_false (n_neg (by omega))
  have g1 : (nI ns < 20) = True := eq_true (lt_n (n := 20) hs (by omega))
  have g3 : (nI ns = -1) = False := eq_false (n_m1 (by omega))
  apply Exists.intro
  apply And.intro
  · intro post
    simp (disch := omega) only [s_X1_addStone, k_deal_t v04 n1 hd, f1, f2, hlk, s_X5_add, v60, g0, g1, g3, vp_in_nI, tn_nI, sc_st, st1, st1n, u_s, u_n, nI_1, e10, b_all, not_true_eq_false, not_false_eq_true, true_implies, false_implies, and_true, true_and]
    exact rfl
  · simp (disch := omega) only [st1n]
theorem an_rate_s {x : V} {y z u : Int32} (post : Int32 → V → Prop) : s_X1_putRate x (nI 5) y z u post = post (-10000001) x := by
  unfold s_X1_putRate
  rw [k_grade_f (show noGrade (nI 5) y z from Or.inl (Or.inr (by decide)))]
  exact b_t rfl
theorem an_rate_c {x : V} {a b c : Nat} (ha : a < 5) (hb : b < 10) (hc : c < 8) (post : Int32 → V → Prop) : s_X1_putRate x (nI a) (nI b) (nI c) 0 post = post (-10000001) x := by
  unfold s_X1_putRate
  rw [show s_X6_isGrade (nI a) (nI b) (nI c) _ = _ from k_grade_t ha hb hc, b_f z10]
  exact b_t (by decide)
theorem an_rate_f {x : V} {S : Nat → Int32} {a b c r : Nat} (hP : RP x S) (ha : a < 5) (hb : b < 10) (hc : c < 8) (r1 : 1 ≤ r) (r2 : r ≤ 9999) (hz : S (264 + (80 * a + 8 * b + c)) = 0) (hf : cz (x 5) 24 = 24) (post : Int32 → V → Prop) : s_X1_putRate x (nI a) (nI b) (nI c) (nI r) post = post (-10000003) x := by
  have hkg : ∀ post, s_X6_isGrade (nI a) (nI b) (nI c) post = post 1 := fun post => k_grade_t ha hb hc
  have hown : ∀ post, s_X3_ownRate x (nI a) (nI b) (nI c) post = post (S (264 + (80 * a + 8 * b + c))) x := fun post => k_own hP ha hb hc
  have f1 : (nI r < 1) = False := eq_false (ltl (n := 1) r1 (by omega))
  have f2 : (nI r ≤ 9999) = True := eq_true (lel (n := 9999) r2 (by omega))
  have hadd : ∀ post, s_X3_add x (nI a) (nI b) (nI c) (nI r) post = post 0 x := fun post => k_add_f (cz_full (x 5) 24 hf)
  simp only [s_X1_putRate, hkg, f1, f2, hown, hz, hadd, e10, b_all, not_true_eq_false, not_false_eq_true, true_implies, false_implies, and_true, true_and]
theorem an_rate_n {x : V} {S : Nat → Int32} {a b c r : Nat} (hP : RP x S) (ha : a < 5) (hb : b < 10) (hc : c < 8) (r1 : 1 ≤ r) (r2 : r ≤ 9999) (hz : S (264 + (80 * a + 8 * b + c)) = 0) (hf : ¬ cz (x 5) 24 = 24) : ∃ x2, ∀ post, s_X1_putRate x (nI a) (nI b) (nI c) (nI r) post = post 0 x2 := by
  have hkg : ∀ post, s_X6_isGrade (nI a) (nI b) (nI c) post = post 1 := fun post => k_grade_t ha hb hc
  have hown : ∀ post, s_X3_ownRate x (nI a) (nI b) (nI c) post = post (S (264 + (80 * a + 8 * b + c))) x := fun post => k_own hP ha hb hc
  have f1 : (nI r < 1) = False := eq_false (ltl (n := 1) r1 (by omega))
  have f2 : (nI r ≤ 9999) = True := eq_true (lel (n := 9999) r2 (by omega))
  have hlt : cz (x 5) 24 < 24 := by
    have := cz_le (x 5) 24
    omega
  obtain ⟨i, hi, h0i, hfi⟩ := least (cz_free (x 5) 24 hlt)
  have hadd : ∀ post, s_X3_add x (nI a) (nI b) (nI c) (nI r) post = post 1 (st (st (st (st x 2 i (nI a)) 3 i (nI b)) 4 i (nI c)) 5 i (nI r)) := fun post => k_add_t hi h0i hfi
  apply Exists.intro
  intro post
  simp only [s_X1_putRate, hkg, f1, f2, hown, hz, hadd, e10, b_all, not_true_eq_false, not_false_eq_true, true_implies, false_implies, and_true, true_and]
  exact rfl
theorem an_rate_h {x : V} {S : Nat → Int32} {a b c r : Nat} (hP : RP x S) (ha : a < 5) (hb : b < 10) (hc : c < 8) (r1 : 1 ≤ r) (r2 : r ≤ 9999) (hz : ¬ S (264 + (80 * a + 8 * b + c)) = 0) : ∃ x2, ∀ post, s_X1_putRate x (nI a) (nI b) (nI c) (nI r) post = post (S (264 + (80 * a + 8 * b + c))) x2 := by
  have hkg : ∀ post, s_X6_isGrade (nI a) (nI b) (nI c) post = post 1 := fun post => k_grade_t ha hb hc
  have hown : ∀ post, s_X3_ownRate x (nI a) (nI b) (nI c) post = post (S (264 + (80 * a + 8 * b + c))) x := fun post => k_own hP ha hb hc
  have f1 : (nI r < 1) = False := eq_false (ltl (n := 1) r1 (by omega))
  have f2 : (nI r ≤ 9999) = True := eq_true (lel (n := 9999) r2 (by omega))
  obtain ⟨i, hi, he⟩ := hP.has ha hb hc hz
  have hch : ∀ post, s_X3_change x (nI a) (nI b) (nI c) (nI r) post = post (st x 5 i (nI r)) := fun post => k_change hP hi he
  have hz' : (S (264 + (80 * a + 8 * b + c)) = 0) = False := eq_false hz
  apply Exists.intro
  intro post
  simp only [s_X1_putRate, hkg, f1, f2, hown, hz', hch, e10, b_all, not_true_eq_false, not_false_eq_true, true_implies, false_implies, and_true, true_and]
  exact rfl
theorem an_unrate_s {x : V} {y z : Int32} (post : Int32 → V → Prop) : s_X1_takeRate x (nI 5) y z post = post (-10000001) x := by
  unfold s_X1_takeRate
  rw [k_grade_f (show noGrade (nI 5) y z from Or.inl (Or.inr (by decide)))]
  exact b_t' rfl
theorem an_unrate_n {x : V} {S : Nat → Int32} {a b c : Nat} (hP : RP x S) (ha : a < 5) (hb : b < 10) (hc : c < 8) (hz : S (264 + (80 * a + 8 * b + c)) = 0) (post : Int32 → V → Prop) : s_X1_takeRate x (nI a) (nI b) (nI c) post = post (-10000002) x := by
  have hkg : ∀ post, s_X6_isGrade (nI a) (nI b) (nI c) post = post 1 := fun post => k_grade_t ha hb hc
  have hown : ∀ post, s_X3_ownRate x (nI a) (nI b) (nI c) post = post (S (264 + (80 * a + 8 * b + c))) x := fun post => k_own hP ha hb hc
  simp only [s_X1_takeRate, hkg, hown, hz, e10, b_all, not_true_eq_false, not_false_eq_true, true_implies, false_implies, and_true, true_and]
theorem an_unrate_h {x : V} {S : Nat → Int32} {a b c : Nat} (hP : RP x S) (ha : a < 5) (hb : b < 10) (hc : c < 8) (hz : ¬ S (264 + (80 * a + 8 * b + c)) = 0) : ∃ x2, ∀ post, s_X1_takeRate x (nI a) (nI b) (nI c) post = post (S (264 + (80 * a + 8 * b + c))) x2 := by
  have hkg : ∀ post, s_X6_isGrade (nI a) (nI b) (nI c) post = post 1 := fun post => k_grade_t ha hb hc
  have hown : ∀ post, s_X3_ownRate x (nI a) (nI b) (nI c) post = post (S (264 + (80 * a + 8 * b + c))) x := fun post => k_own hP ha hb hc
  obtain ⟨i, hi, he⟩ := hP.has ha hb hc hz
  have hch : ∀ post, s_X3_change x (nI a) (nI b) (nI c) 0 post = post (st x 5 i 0) := fun post => k_change hP hi he
  have hz' : (S (264 + (80 * a + 8 * b + c)) = 0) = False := eq_false hz
  apply Exists.intro
  intro post
  simp only [s_X1_takeRate, hkg, hown, hz', hch, e10, b_all, not_true_eq_false, not_false_eq_true, true_implies, false_implies, and_true, true_and]
  exact rfl
/-! back, keep, sell, grade -/
theorem an_back_x {x : V} {ns : Nat} (v60 : x 6 0 = nI ns) (post : Int32 → V → Prop) : s_X1_giveBack x (nI ns) post = post (-10000001) x := by
  unfold s_X1_giveBack
  rw [k_has_f v60 (Or.inr (Int32.le_refl _))]
  exact b_t' rfl
theorem an_back_n {x : V} {ns k : Nat} (v60 : x 6 0 = nI ns) (n2 : ns ≤ 20) (hkn : k < ns) (h12 : x 12 k = -1) (post : Int32 → V → Prop) : s_X1_giveBack x (nI k) post = post (-10000002) x := by
  have k20 : k < 20 := by omega
  simp (disch := omega) only [s_X1_giveBack, k_has_t v60 n2 hkn, k_isOut_f k20 h12, e10, b_all, not_true_eq_false, not_false_eq_true, true_implies, false_implies, and_true, true_and]
theorem an_back {x : V} {ns k m : Nat} (v60 : x 6 0 = nI ns) (n2 : ns ≤ 20) (hkn : k < ns) (hm : m < 10) (h12 : x 12 k = nI m) : ∃ x2, (∀ post, s_X1_giveBack x (nI k) post = post (onF (setF (x2 12) (nI m) ns) 20) x2) ∧ x2 6 = x 6 ∧ x2 16 = x 16 := by
  have k20 : k < 20 := by omega
  have c1 : ∀ (z : V) post, z 6 0 = nI ns → s_X5_setWhere_12 z (nI m) post = post (setF (z 12) (nI m) ns) z := fun z post hz => k_memoSet hz n2
  refine ⟨st (st x 11 k (x 10 k)) 12 k (-1), fun post => ?_, ?_, ?_⟩
  · simp (disch := omega) only [s_X1_giveBack, k_has_t v60 n2 hkn, k_isOut_t k20 (show m < 1000000 by omega) h12, vp_in_nI, tn_nI, h12, e10, b_all, not_true_eq_false, not_false_eq_true, true_implies, false_implies, and_true, true_and]
    rw [c1 _ _ (by simp (disch := omega) only [st1, st1n, u_s, u_n]; exact v60)]
    rw [k_bitc n2]
  · simp (disch := omega) only [st1n]
  · simp (disch := omega) only [st1n]
theorem an_keep_x {x : V} {ns : Nat} (v60 : x 6 0 = nI ns) (post : Int32 → V → Prop) : s_X1_keepStone x (nI ns) post = post (-10000001) x := by
  unfold s_X1_keepStone
  rw [k_has_f v60 (Or.inr (Int32.le_refl _))]
  exact b_t' rfl
theorem an_keep_n {x : V} {ns k : Nat} (v60 : x 6 0 = nI ns) (n2 : ns ≤ 20) (hkn : k < ns) (h12 : x 12 k = -1) (post : Int32 → V → Prop) : s_X1_keepStone x (nI k) post = post (-10000002) x := by
  have k20 : k < 20 := by omega
  simp (disch := omega) only [s_X1_keepStone, k_has_t v60 n2 hkn, k_isOut_f k20 h12, e10, b_all, not_true_eq_false, not_false_eq_true, true_implies, false_implies, and_true, true_and]
theorem an_keep {x : V} {nd ns nm k m o hh a : Nat} (v04 : x 0 4 = nI nd) (n1 : nd ≤ 6) (v60 : x 6 0 = nI ns) (n2 : ns ≤ 20) (v160 : x 16 0 = nI nm) (n3 : nm ≤ 10) (hkn : k < ns) (hm : m < nm) (h12 : x 12 k = nI m) (h13 : x 13 k = nI a) (h10 : x 10 k = nI o) (h11 : x 11 k = nI hh) (ho : o < nd) (hhd : hh < nd) : ∃ x2, (∀ post, s_X1_keepStone x (nI k) post = post (nI a) x2) ∧ x2 6 = x 6 ∧ x2 14 = x 14 ∧ x2 10 k = nI hh := by
  have k20 : k < 20 := by omega
  apply Exists.intro
  apply And.intro
  · intro post
    simp (disch := omega) only [s_X1_keepStone, k_has_t v60 n2 hkn, k_isOut_t k20 (show m < 1000000 by omega) h12, vp_in_nI, tn_nI, h13, s_X1_keepFor, h10, h11, h12, k_deal_t v04 n1 ho, k_deal_t v04 n1 hhd, k_memo_t v160 n3 hm, e10, b_all, not_true_eq_false, not_false_eq_true, true_implies, false_implies, and_true, true_and]
    exact rfl
  · refine ⟨?_, ?_, ?_⟩
    · simp (disch := omega) only [st1n]
    · simp (disch := omega) only [st1n]
    · simp (disch := omega) only [st1, st1n, u_s, u_n]
theorem an_sell_x {x : V} {ns : Nat} {y : Int32} (v60 : x 6 0 = nI ns) (post : Int32 → V → Prop) : s_X1_sellStone x (nI ns) y post = post (-10000001) x := by
  unfold s_X1_sellStone
  rw [k_has_f v60 (Or.inr (Int32.le_refl _))]
  exact b_t rfl
theorem an_sell_c {x : V} {ns k c : Nat} (v60 : x 6 0 = nI ns) (n2 : ns ≤ 20) (hkn : k < ns) (hc : c = 0 ∨ c = 10000) (post : Int32 → V → Prop) : s_X1_sellStone x (nI k) (nI c) post = post (-10000001) x := by
  unfold s_X1_sellStone
  rw [k_has_t v60 n2 hkn, b_f z10]
  rcases hc with rfl | rfl
  · exact b_t (by decide)
  · rw [b_f (by decide)]
    exact b_f (by decide)
theorem an_sell_o {x : V} {ns k c m : Nat} (v60 : x 6 0 = nI ns) (n2 : ns ≤ 20) (hkn : k < ns) (c1 : 1 ≤ c) (c2 : c ≤ 9999) (hm : m < 10) (h12 : x 12 k = nI m) (post : Int32 → V → Prop) : s_X1_sellStone x (nI k) (nI c) post = post (-10000002) x := by
  have k20 : k < 20 := by omega
  have f1 : (nI c < 1) = False := eq_false (ltl (n := 1) c1 (by omega))
  have f2 : (nI c ≤ 9999) = True := eq_true (lel (n := 9999) c2 (by omega))
  simp (disch := omega) only [s_X1_sellStone, k_has_t v60 n2 hkn, f1, f2, vp_in_nI, k_isOut_t k20 (show m < 1000000 by omega) h12, e10, b_all, not_true_eq_false, not_false_eq_true, true_implies, false_implies, and_true, true_and]
theorem an_sell_s {x : V} {ns k c : Nat} (v60 : x 6 0 = nI ns) (n2 : ns ≤ 20) (hkn : k < ns) (c1 : 1 ≤ c) (c2 : c ≤ 9999) (h12 : x 12 k = -1) (h14 : ¬ x 14 k = 0) (post : Int32 → V → Prop) : s_X1_sellStone x (nI k) (nI c) post = post (-10000002) x := by
  have k20 : k < 20 := by omega
  have f1 : (nI c < 1) = False := eq_false (ltl (n := 1) c1 (by omega))
  have f2 : (nI c ≤ 9999) = True := eq_true (lel (n := 9999) c2 (by omega))
  simp (disch := omega) only [s_X1_sellStone, k_has_t v60 n2 hkn, f1, f2, vp_in_nI, k_isOut_f k20 h12, k_isSold_t k20 h14, e10, b_all, not_true_eq_false, not_false_eq_true, true_implies, false_implies, and_true, true_and]
theorem an_sell {x : V} {nd ns k c o : Nat} (v04 : x 0 4 = nI nd) (n1 : nd ≤ 6) (v60 : x 6 0 = nI ns) (n2 : ns ≤ 20) (hkn : k < ns) (c1 : 1 ≤ c) (c2 : c ≤ 9999) (h12 : x 12 k = -1) (h14 : x 14 k = 0) (h10 : x 10 k = nI o) (ho : o < nd) : ∃ x2, ∀ post, s_X1_sellStone x (nI k) (nI c) post = post ((x 22 o + 100000000) + nI c) x2 := by
  have k20 : k < 20 := by omega
  have f1 : (nI c < 1) = False := eq_false (ltl (n := 1) c1 (by omega))
  have f2 : (nI c ≤ 9999) = True := eq_true (lel (n := 9999) c2 (by omega))
  apply Exists.intro
  intro post
  simp (disch := omega) only [s_X1_sellStone, k_has_t v60 n2 hkn, f1, f2, vp_in_nI, k_isOut_f k20 h12, k_isSold_f k20 h14, tn_nI, h10, k_deal_t v04 n1 ho, st1, st1n, u_s, u_n, e10, b_all, not_true_eq_false, not_false_eq_true, true_implies, false_implies, and_true, true_and]
  rw [Int32.add_assoc, Int32.add_comm (nI c), ← Int32.add_assoc]
theorem an_grade_x {x : V} {ns : Nat} {y z : Int32} (v60 : x 6 0 = nI ns) (post : Int32 → V → Prop) : s_X1_regrade x (nI ns) y z post = post (-10000001) x := by
  unfold s_X1_regrade
  rw [k_has_f v60 (Or.inr (Int32.le_refl _))]
  exact b_t rfl
theorem an_grade_c {x : V} {ns k : Nat} {z : Int32} (v60 : x 6 0 = nI ns) (n2 : ns ≤ 20) (hkn : k < ns) (post : Int32 → V → Prop) : s_X1_regrade x (nI k) (nI 10) z post = post (-10000001) x := by
  unfold s_X1_regrade
  rw [k_has_t v60 n2 hkn, b_f z10, k_look_f (show noLook (nI 10) z from Or.inl (Or.inr (by decide)))]
  exact b_t' rfl
theorem an_grade_s {x : V} {ns k a b : Nat} (v60 : x 6 0 = nI ns) (n2 : ns ≤ 20) (hkn : k < ns) (ha : a < 10) (hb : b < 8) (h14 : ¬ x 14 k = 0) (post : Int32 → V → Prop) : s_X1_regrade x (nI k) (nI a) (nI b) post = post (-10000002) x := by
  have k20 : k < 20 := by omega
  have hlk : ∀ post, s_X6_isLook (nI a) (nI b) post = post 1 := fun post => k_look_t ha hb
  simp (disch := omega) only [s_X1_regrade, k_has_t v60 n2 hkn, hlk, k_isSold_t k20 h14, e10, b_all, not_true_eq_false, not_false_eq_true, true_implies, false_implies, and_true, true_and]
theorem an_grade {x : V} {S : Nat → Int32} {nd ns nm t g e l k a b : Nat} (hRn : Rn x S nd ns nm t g e l) (hkn : k < ns) (ha : a < 10) (hb8 : b < 8) (h14 : x 14 k = 0) (h12 : x 12 k = -1 ∨ ∃ m, m < 10 ∧ x 12 k = nI m) : ∃ x2, ∀ post, s_X1_regrade x (nI k) (nI a) (nI b) post = post (10 * x 8 k + x 9 k) x2 := by
  obtain ⟨hg, hb, ⟨hP, hT⟩, hk, h0, hm, hB⟩ := hRn
  obtain ⟨n1, n2, n3, n4, n5, n6, v04, S0, v60, S1, v160, S2, v05, S3, L4, S5, v06, S6, v07, S7⟩ := hg
  have k20 : k < 20 := by omega
  obtain ⟨⟨e0, e1, e2, e3, e4, e5, e6, e7, e8⟩, hO, hc⟩ := hk k hkn
  have hlk : ∀ post, s_X6_isLook (nI a) (nI b) post = post 1 := fun post => k_look_t ha hb8
  have hT' : okT (upd (upd S (14 + 10 * k + 1) (nI a)) (14 + 10 * k + 2) (nI b)) := okT_s hT (fun j hj => by simp (disch := omega) only [st1, st1n, u_s, u_n])
  have hP' : RP (st (st x 8 k (nI a)) 9 k (nI b)) (upd (upd S (14 + 10 * k + 1) (nI a)) (14 + 10 * k + 2) (nI b)) := RP_s (RP_c hP (fun i _ => by simp (disch := omega) only [st1, st1n, u_s, u_n]) (fun i _ => by simp (disch := omega) only [st1, st1n, u_s, u_n]) (fun i _ => by simp (disch := omega) only [st1, st1n, u_s, u_n]) (fun i _ => by simp (disch := omega) only [st1, st1n, u_s, u_n])) (fun j hj => by simp (disch := omega) only [st1, st1n, u_s, u_n])
  have hK' : okK (upd (upd S (14 + 10 * k + 1) (nI a)) (14 + 10 * k + 2) (nI b)) k := by
    obtain ⟨a1, -, -⟩ := hO
    refine ⟨?_, ⟨a, ha, by simp (disch := omega) only [st1, st1n, u_s, u_n]⟩, ⟨b, hb8, by simp (disch := omega) only [st1, st1n, u_s, u_n]⟩⟩
    simp (disch := omega) only [st1, st1n, u_s, u_n]
    exact a1
  have p1 : ∀ post, s_X1_priceOf (st (st x 8 k (nI a)) 9 k (nI b)) (nI k) post = post (pS (upd (upd S (14 + 10 * k + 1) (nI a)) (14 + 10 * k + 2) (nI b)) k) (st (st x 8 k (nI a)) 9 k (nI b)) := fun post => k_price hP' hT' hK' (by simp (disch := omega) only [st1, st1n, u_s, u_n]; exact e0) (by simp (disch := omega) only [st1, st1n, u_s, u_n]) (by simp (disch := omega) only [st1, st1n, u_s, u_n]) k20
  generalize pS (upd (upd S (14 + 10 * k + 1) (nI a)) (14 + 10 * k + 2) (nI b)) k = pr at p1
  have z12 : (st (st x 8 k (nI a)) 9 k (nI b)) 12 k = x 12 k := by simp (disch := omega) only [st1n]
  rcases h12 with h12 | ⟨m, hm10, h12⟩
  · refine ⟨st (st x 8 k (nI a)) 9 k (nI b), fun post => ?_⟩
    simp (disch := omega) only [s_X1_regrade, k_has_t v60 n2 hkn, hlk, k_isSold_f k20 h14, vp_in_nI, tn_nI, p1, k_isOut_f k20 (z12.trans h12), e10, b_all, not_true_eq_false, not_false_eq_true, true_implies, false_implies, and_true, true_and]
  · have ho := fun post => k_isOut_t (post := post) k20 (show m < 1000000 by omega) (z12.trans h12)
    by_cases q : pr = -1
    · refine ⟨st (st x 8 k (nI a)) 9 k (nI b), fun post => ?_⟩
      simp (disch := omega) only [s_X1_regrade, k_has_t v60 n2 hkn, hlk, k_isSold_f k20 h14, vp_in_nI, tn_nI, p1, ho, q, e10, b_all, not_true_eq_false, not_false_eq_true, true_implies, false_implies, and_true, true_and]
    · refine ⟨st (st (st x 8 k (nI a)) 9 k (nI b)) 13 k pr, fun post => ?_⟩
      simp (disch := omega) only [s_X1_regrade, k_has_t v60 n2 hkn, hlk, k_isSold_f k20 h14, vp_in_nI, tn_nI, p1, ho, eq_false q, e10, b_all, not_true_eq_false, not_false_eq_true, true_implies, false_implies, and_true, true_and]
/-! pause, set -/
theorem an_pause_x {x : V} {D : Nat} (h : D = 0 ∨ D = 100) (post : Int32 → V → Prop) : s_X1_passDays x (nI D) post = post (-10000001) x := by
  unfold s_X1_passDays
  rcases h with rfl | rfl
  · exact b_t (by decide)
  · rw [b_f (by decide)]
    exact b_f (by decide)
theorem an_pause_f {x : V} {t D : Nat} (v05 : x 0 5 = nI t) (d1 : 1 ≤ D) (d2 : D ≤ 99) (ht : 2000 < t + D) (h2 : t ≤ 2000) (post : Int32 → V → Prop) : s_X1_passDays x (nI D) post = post (-10000003) x := by
  have f1 : (nI D < 1) = False := eq_false (ltl (n := 1) d1 (by omega))
  have f2 : (nI D ≤ 99) = True := eq_true (lel (n := 99) d2 (by omega))
  have f4 : (nI (t + D) ≤ 2000) = False := eq_false (gtl (n := 2000) ht (by omega))
  simp only [s_X1_passDays, f1, f2, v05, nI_add, f4, e10, b_all, not_true_eq_false, not_false_eq_true, true_implies, false_implies, and_true, true_and]
theorem an_pause {x : V} {S : Nat → Int32} {nd ns nm t g e D : Nat} (hRn : Rn x S nd ns nm t g e 0) (d1 : 1 ≤ D) (d2 : D ≤ 99) (ht : t + D ≤ 2000) : ∃ x2 y, y < 2147483648 ∧ (∀ post, s_X1_passDays x (nI D) post = post (nI y) x2) ∧ x2 0 5 = nI (t + D) := by
  have hRn' := hRn
  obtain ⟨hg, -⟩ := hRn'
  obtain ⟨n1, n2, n3, n4, n5, n6, v04, S0, v60, S1, v160, S2, v05, S3, L4, S5, v06, S6, v07, S7⟩ := hg
  have f1 : (nI D < 1) = False := eq_false (ltl (n := 1) d1 (by omega))
  have f2 : (nI D ≤ 99) = True := eq_true (lel (n := 99) d2 (by omega))
  have f4 : (nI (t + D) ≤ 2000) = True := eq_true (lel (n := 2000) ht (by omega))
  obtain ⟨v', w', y, b1, b2, b3, b4, b5, b6⟩ := days (S 4) d2 D 0 t 0 0 x (gw S) (by omega) ht (by rw [gw1]; exact hRn)
  rw [Nat.zero_add] at b2 b5
  refine ⟨st v' 0 8 (v' 0 8 + nI y), y, by omega, fun post => ?_, ?_⟩
  · simp only [s_X1_passDays, f1, f2, v05, nI_add, f4, e10, b_all, not_true_eq_false, not_false_eq_true, true_implies, false_implies, and_true, true_and]
    refine (b2 post (fun x2 _ v8 => post x2 (sc v8 0 8 ((v8 0 8) + x2)))).trans ?_
    rw [sc_st]
  · simp (disch := omega) only [st1, u_n]
    exact b5.1.2.2.2.2.2.2.2.2.2.2.2.2.1
theorem an_set_w {x : V} {y : Int32} (post : Int32 → V → Prop) : s_X1_putSetting x (nI 2) y post = post (-10000001) x := by
  unfold s_X1_putSetting
  rw [b_f (show ¬ nI 2 < 0 by decide)]
  exact b_t (show (1 : Int32) < nI 2 by decide)
theorem an_set_0x {x : V} {c : Nat} (h : 30 < c) (h2 : c < 1000) (post : Int32 → V → Prop) : s_X1_putSetting x (nI 0) (nI c) post = post (-10000001) x := by
  have fa : (nI 0 < 0) = False := eq_false (by decide)
  have fb : (1 < nI 0) = False := eq_false (by decide)
  have fc : (nI c < 0) = False := eq_false (n_neg (by omega))
  have fd : (nI c ≤ 30) = False := eq_false (gtl (n := 30) h (by omega))
  have fe : (30 < nI c) = True := eq_true (lt_n (c := 30) h (by omega))
  simp only [s_X1_putSetting, fa, fb, fc, fd, fe, L0_0, e10, b_all, not_true_eq_false, not_false_eq_true, true_implies, false_implies, and_true, true_and]
theorem an_set_0 {x : V} {c g : Nat} (v06 : x 0 6 = nI g) (h : c ≤ 30) : ∃ x2, ∀ post, s_X1_putSetting x (nI 0) (nI c) post = post (nI g) x2 := by
  have fa : (nI 0 < 0) = False := eq_false (by decide)
  have fb : (1 < nI 0) = False := eq_false (by decide)
  have fc : (nI c < 0) = False := eq_false (n_neg (by omega))
  have fd : (nI c ≤ 30) = True := eq_true (lel (n := 30) h (by omega))
  have fe : (30 < nI c) = False := eq_false (show ¬ nI 30 < nI c by rw [n_lt (by omega) (by omega)]; omega)
  apply Exists.intro
  intro post
  simp only [s_X1_putSetting, fa, fb, fc, fd, fe, L0_0, v06, e10, b_all, not_true_eq_false, not_false_eq_true, true_implies, false_implies, and_true, true_and]
  exact rfl
theorem an_set_1 {x : V} {c e : Nat} (v07 : x 0 7 = nI e) (h : c ≤ 100) : ∃ x2, ∀ post, s_X1_putSetting x (nI 1) (nI c) post = post (nI e) x2 := by
  have fa : (nI 1 < 0) = False := eq_false (by decide)
  have fb : (1 < nI 1) = False := eq_false (by decide)
  have fc : (nI c < 0) = False := eq_false (n_neg (by omega))
  have fd : (nI c ≤ 100) = True := eq_true (lel (n := 100) h (by omega))
  have fe : (100 < nI c) = False := eq_false (show ¬ nI 100 < nI c by rw [n_lt (by omega) (by omega)]; omega)
  apply Exists.intro
  intro post
  simp only [s_X1_putSetting, fa, fb, fc, fd, fe, L1_0, v07, e10, b_all, not_true_eq_false, not_false_eq_true, true_implies, false_implies, and_true, true_and]
  exact rfl
