/-! P29 3: what is told, by cells -/
theorem ts1 {v0 v : V} {ns k : Nat} (v60 : v 6 0 = nI ns) (n2 : ns ≤ 20) (hkn : k < ns) (post : Int32 → V → V → Prop) : s_X6_stoneOf v0 v (nI k) 1 post = post (v 8 k) v0 v := by
  have k20 : k < 20 := by omega
  show s_X6_stoneOf v0 v (nI k) (nI 1) post = _
  simp (disch := omega) only [s_X6_stoneOf, k_has_t v60 n2 hkn, s_X1_tellStone, vp_in_nI, tn_nI, L1_0, L1_1, L1_2, L1_3, L1_4, L1_5, L1_6, L1_7, L1_8, L1_9, L1_10, show ((nI 1).toInt < 0 ∨ 10 < (nI 1).toInt) = False from sw_in (by omega) (by omega) (by omega), show ((nI 1).toInt < 3 ∨ 10 < (nI 1).toInt) = True from sw_lo (by omega) (by omega), e10, z01, b_all, not_true_eq_false, not_false_eq_true, true_implies, false_implies, and_true, true_and, or_self, or_true, true_or, or_false, false_or]
theorem ts2 {v0 v : V} {ns k : Nat} (v60 : v 6 0 = nI ns) (n2 : ns ≤ 20) (hkn : k < ns) (post : Int32 → V → V → Prop) : s_X6_stoneOf v0 v (nI k) 2 post = post (v 9 k) v0 v := by
  have k20 : k < 20 := by omega
  show s_X6_stoneOf v0 v (nI k) (nI 2) post = _
  simp (disch := omega) only [s_X6_stoneOf, k_has_t v60 n2 hkn, s_X1_tellStone, vp_in_nI, tn_nI, L2_0, L2_1, L2_2, L2_3, L2_4, L2_5, L2_6, L2_7, L2_8, L2_9, L2_10, show ((nI 2).toInt < 0 ∨ 10 < (nI 2).toInt) = False from sw_in (by omega) (by omega) (by omega), show ((nI 2).toInt < 3 ∨ 10 < (nI 2).toInt) = True from sw_lo (by omega) (by omega), e10, z01, b_all, not_true_eq_false, not_false_eq_true, true_implies, false_implies, and_true, true_and, or_self, or_true, true_or, or_false, false_or]
theorem ts10 {v0 v : V} {ns k : Nat} (v60 : v 6 0 = nI ns) (n2 : ns ≤ 20) (hkn : k < ns) (post : Int32 → V → V → Prop) : s_X6_stoneOf v0 v (nI k) 10 post = post (v 15 k) v0 v := by
  have k20 : k < 20 := by omega
  show s_X6_stoneOf v0 v (nI k) (nI 10) post = _
  simp (disch := omega) only [s_X6_stoneOf, k_has_t v60 n2 hkn, s_X1_tellStone, vp_in_nI, tn_nI, L10_0, L10_1, L10_2, L10_3, L10_4, L10_5, L10_6, L10_7, L10_8, L10_9, L10_10, show ((nI 10).toInt < 0 ∨ 10 < (nI 10).toInt) = False from sw_in (by omega) (by omega) (by omega), show ((nI 10).toInt < 3 ∨ 10 < (nI 10).toInt) = False from sw_in (by omega) (by omega) (by omega), e10, z01, b_all, not_true_eq_false, not_false_eq_true, true_implies, false_implies, and_true, true_and, or_self, or_true, true_or, or_false, false_or]
theorem ts4 {v0 v : V} {ns k : Nat} (v60 : v 6 0 = nI ns) (n2 : ns ≤ 20) (hkn : k < ns) (h : v 14 k = 0) (post : Int32 → V → V → Prop) : s_X6_stoneOf v0 v (nI k) 4 post = post (v 10 k) v0 v := by
  have k20 : k < 20 := by omega
  show s_X6_stoneOf v0 v (nI k) (nI 4) post = _
  simp (disch := omega) only [s_X6_stoneOf, k_has_t v60 n2 hkn, s_X1_tellStone, vp_in_nI, tn_nI, L4_0, L4_1, L4_2, L4_3, L4_4, L4_5, L4_6, L4_7, L4_8, L4_9, L4_10, show ((nI 4).toInt < 0 ∨ 10 < (nI 4).toInt) = False from sw_in (by omega) (by omega) (by omega), show ((nI 4).toInt < 3 ∨ 10 < (nI 4).toInt) = False from sw_in (by omega) (by omega) (by omega), k_isSold_f k20 h, e10, z01, b_all, not_true_eq_false, not_false_eq_true, true_implies, false_implies, and_true, true_and, or_self, or_true, true_or, or_false, false_or]
theorem ts4s {v0 v : V} {ns k : Nat} (v60 : v 6 0 = nI ns) (n2 : ns ≤ 20) (hkn : k < ns) (h : ¬ v 14 k = 0) (post : Int32 → V → V → Prop) : s_X6_stoneOf v0 v (nI k) 4 post = post (-10000004) v0 v := by
  have k20 : k < 20 := by omega
  show s_X6_stoneOf v0 v (nI k) (nI 4) post = _
  simp (disch := omega) only [s_X6_stoneOf, k_has_t v60 n2 hkn, s_X1_tellStone, vp_in_nI, tn_nI, L4_0, L4_1, L4_2, L4_3, L4_4, L4_5, L4_6, L4_7, L4_8, L4_9, L4_10, show ((nI 4).toInt < 0 ∨ 10 < (nI 4).toInt) = False from sw_in (by omega) (by omega) (by omega), show ((nI 4).toInt < 3 ∨ 10 < (nI 4).toInt) = False from sw_in (by omega) (by omega) (by omega), k_isSold_t k20 h, e10, z01, b_all, not_true_eq_false, not_false_eq_true, true_implies, false_implies, and_true, true_and, or_self, or_true, true_or, or_false, false_or]
theorem ts5 {v0 v : V} {ns k : Nat} (v60 : v 6 0 = nI ns) (n2 : ns ≤ 20) (hkn : k < ns) (h : v 14 k = 0) (post : Int32 → V → V → Prop) : s_X6_stoneOf v0 v (nI k) 5 post = post (v 11 k) v0 v := by
  have k20 : k < 20 := by omega
  show s_X6_stoneOf v0 v (nI k) (nI 5) post = _
  simp (disch := omega) only [s_X6_stoneOf, k_has_t v60 n2 hkn, s_X1_tellStone, vp_in_nI, tn_nI, L5_0, L5_1, L5_2, L5_3, L5_4, L5_5, L5_6, L5_7, L5_8, L5_9, L5_10, show ((nI 5).toInt < 0 ∨ 10 < (nI 5).toInt) = False from sw_in (by omega) (by omega) (by omega), show ((nI 5).toInt < 3 ∨ 10 < (nI 5).toInt) = False from sw_in (by omega) (by omega) (by omega), k_isSold_f k20 h, e10, z01, b_all, not_true_eq_false, not_false_eq_true, true_implies, false_implies, and_true, true_and, or_self, or_true, true_or, or_false, false_or]
theorem ts5s {v0 v : V} {ns k : Nat} (v60 : v 6 0 = nI ns) (n2 : ns ≤ 20) (hkn : k < ns) (h : ¬ v 14 k = 0) (post : Int32 → V → V → Prop) : s_X6_stoneOf v0 v (nI k) 5 post = post (-10000004) v0 v := by
  have k20 : k < 20 := by omega
  show s_X6_stoneOf v0 v (nI k) (nI 5) post = _
  simp (disch := omega) only [s_X6_stoneOf, k_has_t v60 n2 hkn, s_X1_tellStone, vp_in_nI, tn_nI, L5_0, L5_1, L5_2, L5_3, L5_4, L5_5, L5_6, L5_7, L5_8, L5_9, L5_10, show ((nI 5).toInt < 0 ∨ 10 < (nI 5).toInt) = False from sw_in (by omega) (by omega) (by omega), show ((nI 5).toInt < 3 ∨ 10 < (nI 5).toInt) = False from sw_in (by omega) (by omega) (by omega), k_isSold_t k20 h, e10, z01, b_all, not_true_eq_false, not_false_eq_true, true_implies, false_implies, and_true, true_and, or_self, or_true, true_or, or_false, false_or]
theorem ts7 {v0 v : V} {ns k : Nat} (v60 : v 6 0 = nI ns) (n2 : ns ≤ 20) (hkn : k < ns) {m : Nat} (hm : m < 1000000) (h : v 12 k = nI m) (post : Int32 → V → V → Prop) : s_X6_stoneOf v0 v (nI k) 7 post = post (nI m) v0 v := by
  have k20 : k < 20 := by omega
  show s_X6_stoneOf v0 v (nI k) (nI 7) post = _
  simp (disch := omega) only [s_X6_stoneOf, k_has_t v60 n2 hkn, s_X1_tellStone, vp_in_nI, tn_nI, L7_0, L7_1, L7_2, L7_3, L7_4, L7_5, L7_6, L7_7, L7_8, L7_9, L7_10, show ((nI 7).toInt < 0 ∨ 10 < (nI 7).toInt) = False from sw_in (by omega) (by omega) (by omega), show ((nI 7).toInt < 3 ∨ 10 < (nI 7).toInt) = False from sw_in (by omega) (by omega) (by omega), k_isOut_t k20 hm h, h, e10, z01, b_all, not_true_eq_false, not_false_eq_true, true_implies, false_implies, and_true, true_and, or_self, or_true, true_or, or_false, false_or]
theorem ts7n {v0 v : V} {ns k : Nat} (v60 : v 6 0 = nI ns) (n2 : ns ≤ 20) (hkn : k < ns) (h : v 12 k = -1) (post : Int32 → V → V → Prop) : s_X6_stoneOf v0 v (nI k) 7 post = post (-10000004) v0 v := by
  have k20 : k < 20 := by omega
  show s_X6_stoneOf v0 v (nI k) (nI 7) post = _
  simp (disch := omega) only [s_X6_stoneOf, k_has_t v60 n2 hkn, s_X1_tellStone, vp_in_nI, tn_nI, L7_0, L7_1, L7_2, L7_3, L7_4, L7_5, L7_6, L7_7, L7_8, L7_9, L7_10, show ((nI 7).toInt < 0 ∨ 10 < (nI 7).toInt) = False from sw_in (by omega) (by omega) (by omega), show ((nI 7).toInt < 3 ∨ 10 < (nI 7).toInt) = False from sw_in (by omega) (by omega) (by omega), k_isOut_f k20 h, e10, z01, b_all, not_true_eq_false, not_false_eq_true, true_implies, false_implies, and_true, true_and, or_self, or_true, true_or, or_false, false_or]
theorem ts8 {v0 v : V} {ns k : Nat} (v60 : v 6 0 = nI ns) (n2 : ns ≤ 20) (hkn : k < ns) {m : Nat} (hm : m < 1000000) (h : v 12 k = nI m) (post : Int32 → V → V → Prop) : s_X6_stoneOf v0 v (nI k) 8 post = post (v 13 k) v0 v := by
  have k20 : k < 20 := by omega
  show s_X6_stoneOf v0 v (nI k) (nI 8) post = _
  simp (disch := omega) only [s_X6_stoneOf, k_has_t v60 n2 hkn, s_X1_tellStone, vp_in_nI, tn_nI, L8_0, L8_1, L8_2, L8_3, L8_4, L8_5, L8_6, L8_7, L8_8, L8_9, L8_10, show ((nI 8).toInt < 0 ∨ 10 < (nI 8).toInt) = False from sw_in (by omega) (by omega) (by omega), show ((nI 8).toInt < 3 ∨ 10 < (nI 8).toInt) = False from sw_in (by omega) (by omega) (by omega), k_isOut_t k20 hm h, e10, z01, b_all, not_true_eq_false, not_false_eq_true, true_implies, false_implies, and_true, true_and, or_self, or_true, true_or, or_false, false_or]
theorem ts9 {v0 v : V} {ns k : Nat} (v60 : v 6 0 = nI ns) (n2 : ns ≤ 20) (hkn : k < ns) (h : ¬ v 14 k = 0) (post : Int32 → V → V → Prop) : s_X6_stoneOf v0 v (nI k) 9 post = post (v 14 k) v0 v := by
  have k20 : k < 20 := by omega
  show s_X6_stoneOf v0 v (nI k) (nI 9) post = _
  simp (disch := omega) only [s_X6_stoneOf, k_has_t v60 n2 hkn, s_X1_tellStone, vp_in_nI, tn_nI, L9_0, L9_1, L9_2, L9_3, L9_4, L9_5, L9_6, L9_7, L9_8, L9_9, L9_10, show ((nI 9).toInt < 0 ∨ 10 < (nI 9).toInt) = False from sw_in (by omega) (by omega) (by omega), show ((nI 9).toInt < 3 ∨ 10 < (nI 9).toInt) = False from sw_in (by omega) (by omega) (by omega), k_isSold_t k20 h, e10, z01, b_all, not_true_eq_false, not_false_eq_true, true_implies, false_implies, and_true, true_and, or_self, or_true, true_or, or_false, false_or]
theorem ts9n {v0 v : V} {ns k : Nat} (v60 : v 6 0 = nI ns) (n2 : ns ≤ 20) (hkn : k < ns) (h : v 14 k = 0) (post : Int32 → V → V → Prop) : s_X6_stoneOf v0 v (nI k) 9 post = post (-10000004) v0 v := by
  have k20 : k < 20 := by omega
  show s_X6_stoneOf v0 v (nI k) (nI 9) post = _
  simp (disch := omega) only [s_X6_stoneOf, k_has_t v60 n2 hkn, s_X1_tellStone, vp_in_nI, tn_nI, L9_0, L9_1, L9_2, L9_3, L9_4, L9_5, L9_6, L9_7, L9_8, L9_9, L9_10, show ((nI 9).toInt < 0 ∨ 10 < (nI 9).toInt) = False from sw_in (by omega) (by omega) (by omega), show ((nI 9).toInt < 3 ∨ 10 < (nI 9).toInt) = False from sw_in (by omega) (by omega) (by omega), k_isSold_f k20 h, e10, z01, b_all, not_true_eq_false, not_false_eq_true, true_implies, false_implies, and_true, true_and, or_self, or_true, true_or, or_false, false_or]
theorem ts6 {v0 v : V} {ns k : Nat} (v60 : v 6 0 = nI ns) (n2 : ns ≤ 20) (hkn : k < ns) {x : Nat} (hx : x < 2147483648) (h : ∀ post, s_X1_priceOf v (nI k) post = post (nI x) v) (post : Int32 → V → V → Prop) : s_X6_stoneOf v0 v (nI k) 6 post = post (nI x) v0 v := by
  have k20 : k < 20 := by omega
  show s_X6_stoneOf v0 v (nI k) (nI 6) post = _
  simp (disch := omega) only [s_X6_stoneOf, k_has_t v60 n2 hkn, s_X1_tellStone, vp_in_nI, tn_nI, L6_0, L6_1, L6_2, L6_3, L6_4, L6_5, L6_6, L6_7, L6_8, L6_9, L6_10, show ((nI 6).toInt < 0 ∨ 10 < (nI 6).toInt) = False from sw_in (by omega) (by omega) (by omega), show ((nI 6).toInt < 3 ∨ 10 < (nI 6).toInt) = False from sw_in (by omega) (by omega) (by omega), h, eq_false (n_m1 hx), e10, z01, b_all, not_true_eq_false, not_false_eq_true, true_implies, false_implies, and_true, true_and, or_self, or_true, true_or, or_false, false_or]
theorem ts6n {v0 v : V} {ns k : Nat} (v60 : v 6 0 = nI ns) (n2 : ns ≤ 20) (hkn : k < ns) (h : ∀ post, s_X1_priceOf v (nI k) post = post (-1) v) (post : Int32 → V → V → Prop) : s_X6_stoneOf v0 v (nI k) 6 post = post (-10000004) v0 v := by
  have k20 : k < 20 := by omega
  show s_X6_stoneOf v0 v (nI k) (nI 6) post = _
  simp (disch := omega) only [s_X6_stoneOf, k_has_t v60 n2 hkn, s_X1_tellStone, vp_in_nI, tn_nI, L6_0, L6_1, L6_2, L6_3, L6_4, L6_5, L6_6, L6_7, L6_8, L6_9, L6_10, show ((nI 6).toInt < 0 ∨ 10 < (nI 6).toInt) = False from sw_in (by omega) (by omega) (by omega), show ((nI 6).toInt < 3 ∨ 10 < (nI 6).toInt) = False from sw_in (by omega) (by omega) (by omega), h, e10, z01, b_all, not_true_eq_false, not_false_eq_true, true_implies, false_implies, and_true, true_and, or_self, or_true, true_or, or_false, false_or]
theorem tm0 {v0 v : V} {nm m : Nat} (v160 : v 16 0 = nI nm) (n3 : nm ≤ 10) (hmn : m < nm) (post : Int32 → V → V → Prop) : s_X6_memoOf v0 v (nI m) 0 post = post (v 17 m) v0 v := by
  show s_X6_memoOf v0 v (nI m) (nI 0) post = _
  simp (disch := omega) only [s_X6_memoOf, k_memo_t v160 n3 hmn, s_X1_tellMemo, s_X1_isOpen, vp_in_nI, tn_nI, L0_0, L0_1, L0_2, L0_3, L0_4, L0_5, L0_6, L0_7, show ((nI 0).toInt < 0 ∨ 7 < (nI 0).toInt) = False from sw_in (by omega) (by omega) (by omega), show ((nI 0).toInt < 3 ∨ 7 < (nI 0).toInt) = True from sw_lo (by omega) (by omega), e10, z01, b_all, not_true_eq_false, not_false_eq_true, true_implies, false_implies, and_true, true_and, or_self, or_true, true_or, or_false, false_or]
theorem tm1 {v0 v : V} {nm m : Nat} (v160 : v 16 0 = nI nm) (n3 : nm ≤ 10) (hmn : m < nm) (post : Int32 → V → V → Prop) : s_X6_memoOf v0 v (nI m) 1 post = post (v 18 m) v0 v := by
  show s_X6_memoOf v0 v (nI m) (nI 1) post = _
  simp (disch := omega) only [s_X6_memoOf, k_memo_t v160 n3 hmn, s_X1_tellMemo, s_X1_isOpen, vp_in_nI, tn_nI, L1_0, L1_1, L1_2, L1_3, L1_4, L1_5, L1_6, L1_7, show ((nI 1).toInt < 0 ∨ 7 < (nI 1).toInt) = False from sw_in (by omega) (by omega) (by omega), show ((nI 1).toInt < 3 ∨ 7 < (nI 1).toInt) = True from sw_lo (by omega) (by omega), e10, z01, b_all, not_true_eq_false, not_false_eq_true, true_implies, false_implies, and_true, true_and, or_self, or_true, true_or, or_false, false_or]
theorem tm2 {v0 v : V} {nm m : Nat} (v160 : v 16 0 = nI nm) (n3 : nm ≤ 10) (hmn : m < nm) (post : Int32 → V → V → Prop) : s_X6_memoOf v0 v (nI m) 2 post = post (v 19 m) v0 v := by
  show s_X6_memoOf v0 v (nI m) (nI 2) post = _
  simp (disch := omega) only [s_X6_memoOf, k_memo_t v160 n3 hmn, s_X1_tellMemo, s_X1_isOpen, vp_in_nI, tn_nI, L2_0, L2_1, L2_2, L2_3, L2_4, L2_5, L2_6, L2_7, show ((nI 2).toInt < 0 ∨ 7 < (nI 2).toInt) = False from sw_in (by omega) (by omega) (by omega), show ((nI 2).toInt < 3 ∨ 7 < (nI 2).toInt) = True from sw_lo (by omega) (by omega), e10, z01, b_all, not_true_eq_false, not_false_eq_true, true_implies, false_implies, and_true, true_and, or_self, or_true, true_or, or_false, false_or]
theorem tm3 {v0 v : V} {nm m : Nat} (v160 : v 16 0 = nI nm) (n3 : nm ≤ 10) (hmn : m < nm) {ns : Nat} (v60 : v 6 0 = nI ns) (n2 : ns ≤ 20) (post : Int32 → V → V → Prop) : s_X6_memoOf v0 v (nI m) 3 post = post (setF (v 12) (nI m) ns) v0 v := by
  show s_X6_memoOf v0 v (nI m) (nI 3) post = _
  simp (disch := omega) only [s_X6_memoOf, k_memo_t v160 n3 hmn, s_X1_tellMemo, s_X1_isOpen, vp_in_nI, tn_nI, L3_0, L3_1, L3_2, L3_3, L3_4, L3_5, L3_6, L3_7, show ((nI 3).toInt < 0 ∨ 7 < (nI 3).toInt) = False from sw_in (by omega) (by omega) (by omega), show ((nI 3).toInt < 3 ∨ 7 < (nI 3).toInt) = False from sw_in (by omega) (by omega) (by omega), (show ∀ post, s_X5_setWhere_12 v (nI m) post = post (setF (v 12) (nI m) ns) v from fun post => k_memoSet v60 n2), e10, z01, b_all, not_true_eq_false, not_false_eq_true, true_implies, false_implies, and_true, true_and, or_self, or_true, true_or, or_false, false_or]
theorem tm6o {v0 v : V} {nm m : Nat} (v160 : v 16 0 = nI nm) (n3 : nm ≤ 10) (hmn : m < nm) {ns : Nat} (v60 : v 6 0 = nI ns) (n2 : ns ≤ 20) (h : ¬ setF (v 12) (nI m) ns = 0) (post : Int32 → V → V → Prop) : s_X6_memoOf v0 v (nI m) 6 post = post 1 v0 v := by
  show s_X6_memoOf v0 v (nI m) (nI 6) post = _
  simp (disch := omega) only [s_X6_memoOf, k_memo_t v160 n3 hmn, s_X1_tellMemo, s_X1_isOpen, vp_in_nI, tn_nI, L6_0, L6_1, L6_2, L6_3, L6_4, L6_5, L6_6, L6_7, show ((nI 6).toInt < 0 ∨ 7 < (nI 6).toInt) = False from sw_in (by omega) (by omega) (by omega), show ((nI 6).toInt < 3 ∨ 7 < (nI 6).toInt) = False from sw_in (by omega) (by omega) (by omega), (show ∀ post, s_X5_setWhere_12 v (nI m) post = post (setF (v 12) (nI m) ns) v from fun post => k_memoSet v60 n2), eq_false h, e10, z01, b_all, not_true_eq_false, not_false_eq_true, true_implies, false_implies, and_true, true_and, or_self, or_true, true_or, or_false, false_or]
theorem tm6c {v0 v : V} {nm m : Nat} (v160 : v 16 0 = nI nm) (n3 : nm ≤ 10) (hmn : m < nm) {ns : Nat} (v60 : v 6 0 = nI ns) (n2 : ns ≤ 20) (h : setF (v 12) (nI m) ns = 0) (post : Int32 → V → V → Prop) : s_X6_memoOf v0 v (nI m) 6 post = post 0 v0 v := by
  show s_X6_memoOf v0 v (nI m) (nI 6) post = _
  simp (disch := omega) only [s_X6_memoOf, k_memo_t v160 n3 hmn, s_X1_tellMemo, s_X1_isOpen, vp_in_nI, tn_nI, L6_0, L6_1, L6_2, L6_3, L6_4, L6_5, L6_6, L6_7, show ((nI 6).toInt < 0 ∨ 7 < (nI 6).toInt) = False from sw_in (by omega) (by omega) (by omega), show ((nI 6).toInt < 3 ∨ 7 < (nI 6).toInt) = False from sw_in (by omega) (by omega) (by omega), (show ∀ post, s_X5_setWhere_12 v (nI m) post = post (setF (v 12) (nI m) ns) v from fun post => k_memoSet v60 n2), h, e10, z01, b_all, not_true_eq_false, not_false_eq_true, true_implies, false_implies, and_true, true_and, or_self, or_true, true_or, or_false, false_or]
theorem tm7p {v0 v : V} {nm m : Nat} (v160 : v 16 0 = nI nm) (n3 : nm ≤ 10) (hmn : m < nm) {t : Nat} (v05 : v 0 5 = nI t) (h : 0 < v 19 m - nI t) (post : Int32 → V → V → Prop) : s_X6_memoOf v0 v (nI m) 7 post = post (v 19 m - nI t) v0 v := by
  show s_X6_memoOf v0 v (nI m) (nI 7) post = _
  simp (disch := omega) only [s_X6_memoOf, k_memo_t v160 n3 hmn, s_X1_tellMemo, s_X1_isOpen, vp_in_nI, tn_nI, L7_0, L7_1, L7_2, L7_3, L7_4, L7_5, L7_6, L7_7, show ((nI 7).toInt < 0 ∨ 7 < (nI 7).toInt) = False from sw_in (by omega) (by omega) (by omega), show ((nI 7).toInt < 3 ∨ 7 < (nI 7).toInt) = False from sw_in (by omega) (by omega) (by omega), v05, if_pos h, e10, z01, b_all, not_true_eq_false, not_false_eq_true, true_implies, false_implies, and_true, true_and, or_self, or_true, true_or, or_false, false_or]
theorem tm7n {v0 v : V} {nm m : Nat} (v160 : v 16 0 = nI nm) (n3 : nm ≤ 10) (hmn : m < nm) {t : Nat} (v05 : v 0 5 = nI t) (h : ¬ 0 < v 19 m - nI t) (post : Int32 → V → V → Prop) : s_X6_memoOf v0 v (nI m) 7 post = post 0 v0 v := by
  show s_X6_memoOf v0 v (nI m) (nI 7) post = _
  simp (disch := omega) only [s_X6_memoOf, k_memo_t v160 n3 hmn, s_X1_tellMemo, s_X1_isOpen, vp_in_nI, tn_nI, L7_0, L7_1, L7_2, L7_3, L7_4, L7_5, L7_6, L7_7, show ((nI 7).toInt < 0 ∨ 7 < (nI 7).toInt) = False from sw_in (by omega) (by omega) (by omega), show ((nI 7).toInt < 3 ∨ 7 < (nI 7).toInt) = False from sw_in (by omega) (by omega) (by omega), v05, if_neg h, e10, z01, b_all, not_true_eq_false, not_false_eq_true, true_implies, false_implies, and_true, true_and, or_self, or_true, true_or, or_false, false_or]
theorem tc0 {v0 v v2 v3 : V} {n : Nat} (h : v 0 4 = nI n) (post : Int32 → V → V → V → V → Prop) : s_X6_count v0 v v2 v3 0 post = post (nI n) v0 v v2 v3 := by
  show s_X6_count v0 v v2 v3 (nI 0) post = _
  simp (disch := omega) only [s_X6_count, s_X1_tellNumber, L0_0, L0_1, L0_2, L0_3, L0_4, L0_5, L0_6, L0_7, L0_8, L0_9, L0_10, L0_11, L0_12, L0_13, L0_14, L0_15, show ((nI 0).toInt < 0 ∨ 15 < (nI 0).toInt) = False from sw_in (by omega) (by omega) (by omega), show ((nI 0).toInt < 11 ∨ 13 < (nI 0).toInt) = True from sw_lo (by omega) (by omega), h, e10, z01, b_all, not_true_eq_false, not_false_eq_true, true_implies, false_implies, and_true, true_and, or_self, or_true, true_or, or_false, false_or]
theorem tc1 {v0 v v2 v3 : V} {n : Nat} (h : v 6 0 = nI n) (post : Int32 → V → V → V → V → Prop) : s_X6_count v0 v v2 v3 1 post = post (nI n) v0 v v2 v3 := by
  show s_X6_count v0 v v2 v3 (nI 1) post = _
  simp (disch := omega) only [s_X6_count, s_X1_tellNumber, L1_0, L1_1, L1_2, L1_3, L1_4, L1_5, L1_6, L1_7, L1_8, L1_9, L1_10, L1_11, L1_12, L1_13, L1_14, L1_15, show ((nI 1).toInt < 0 ∨ 15 < (nI 1).toInt) = False from sw_in (by omega) (by omega) (by omega), show ((nI 1).toInt < 11 ∨ 13 < (nI 1).toInt) = True from sw_lo (by omega) (by omega), h, e10, z01, b_all, not_true_eq_false, not_false_eq_true, true_implies, false_implies, and_true, true_and, or_self, or_true, true_or, or_false, false_or]
theorem tc4 {v0 v v2 v3 : V} {n : Nat} (h : v 16 0 = nI n) (post : Int32 → V → V → V → V → Prop) : s_X6_count v0 v v2 v3 4 post = post (nI n) v0 v v2 v3 := by
  show s_X6_count v0 v v2 v3 (nI 4) post = _
  simp (disch := omega) only [s_X6_count, s_X1_tellNumber, L4_0, L4_1, L4_2, L4_3, L4_4, L4_5, L4_6, L4_7, L4_8, L4_9, L4_10, L4_11, L4_12, L4_13, L4_14, L4_15, show ((nI 4).toInt < 0 ∨ 15 < (nI 4).toInt) = False from sw_in (by omega) (by omega) (by omega), show ((nI 4).toInt < 11 ∨ 13 < (nI 4).toInt) = True from sw_lo (by omega) (by omega), h, e10, z01, b_all, not_true_eq_false, not_false_eq_true, true_implies, false_implies, and_true, true_and, or_self, or_true, true_or, or_false, false_or]
theorem tc6 {v0 v v2 v3 : V} (post : Int32 → V → V → V → V → Prop) : s_X6_count v0 v v2 v3 6 post = post (nI (cz (v 5) 24)) v0 v v2 v3 := by
  show s_X6_count v0 v v2 v3 (nI 6) post = _
  simp (disch := omega) only [s_X6_count, s_X1_tellNumber, L6_0, L6_1, L6_2, L6_3, L6_4, L6_5, L6_6, L6_7, L6_8, L6_9, L6_10, L6_11, L6_12, L6_13, L6_14, L6_15, show ((nI 6).toInt < 0 ∨ 15 < (nI 6).toInt) = False from sw_in (by omega) (by omega) (by omega), show ((nI 6).toInt < 11 ∨ 13 < (nI 6).toInt) = True from sw_lo (by omega) (by omega), k_entries, e10, z01, b_all, not_true_eq_false, not_false_eq_true, true_implies, false_implies, and_true, true_and, or_self, or_true, true_or, or_false, false_or]
theorem tc7 {v0 v v2 v3 : V} {n : Nat} (h : v 0 5 = nI n) (post : Int32 → V → V → V → V → Prop) : s_X6_count v0 v v2 v3 7 post = post (nI n) v0 v v2 v3 := by
  show s_X6_count v0 v v2 v3 (nI 7) post = _
  simp (disch := omega) only [s_X6_count, s_X1_tellNumber, L7_0, L7_1, L7_2, L7_3, L7_4, L7_5, L7_6, L7_7, L7_8, L7_9, L7_10, L7_11, L7_12, L7_13, L7_14, L7_15, show ((nI 7).toInt < 0 ∨ 15 < (nI 7).toInt) = False from sw_in (by omega) (by omega) (by omega), show ((nI 7).toInt < 11 ∨ 13 < (nI 7).toInt) = True from sw_lo (by omega) (by omega), h, e10, z01, b_all, not_true_eq_false, not_false_eq_true, true_implies, false_implies, and_true, true_and, or_self, or_true, true_or, or_false, false_or]
theorem tc8 {v0 v v2 v3 : V} {n : Nat} (h : v 0 4 = nI n) (n1 : n ≤ 6) (post : Int32 → V → V → V → V → Prop) : s_X6_count v0 v v2 v3 8 post = post (sI (v 22) n + 100000000) v0 v v2 v3 := by
  show s_X6_count v0 v v2 v3 (nI 8) post = _
  simp (disch := omega) only [s_X6_count, s_X1_tellNumber, L8_0, L8_1, L8_2, L8_3, L8_4, L8_5, L8_6, L8_7, L8_8, L8_9, L8_10, L8_11, L8_12, L8_13, L8_14, L8_15, show ((nI 8).toInt < 0 ∨ 15 < (nI 8).toInt) = False from sw_in (by omega) (by omega) (by omega), show ((nI 8).toInt < 11 ∨ 13 < (nI 8).toInt) = True from sw_lo (by omega) (by omega), k_bal h n1, e10, z01, b_all, not_true_eq_false, not_false_eq_true, true_implies, false_implies, and_true, true_and, or_self, or_true, true_or, or_false, false_or]
theorem tc9 {v0 v v2 v3 : V} {n : Nat} (h : ∀ post, s_X5_sumSold v post = post (sI (v 14) n) v) (post : Int32 → V → V → V → V → Prop) : s_X6_count v0 v v2 v3 9 post = post (sI (v 14) n) v0 v v2 v3 := by
  show s_X6_count v0 v v2 v3 (nI 9) post = _
  simp (disch := omega) only [s_X6_count, s_X1_tellNumber, L9_0, L9_1, L9_2, L9_3, L9_4, L9_5, L9_6, L9_7, L9_8, L9_9, L9_10, L9_11, L9_12, L9_13, L9_14, L9_15, show ((nI 9).toInt < 0 ∨ 15 < (nI 9).toInt) = False from sw_in (by omega) (by omega) (by omega), show ((nI 9).toInt < 11 ∨ 13 < (nI 9).toInt) = True from sw_lo (by omega) (by omega), h, e10, z01, b_all, not_true_eq_false, not_false_eq_true, true_implies, false_implies, and_true, true_and, or_self, or_true, true_or, or_false, false_or]
theorem tc5 {v0 v v2 v3 : V} {r : Int32} (h : ∀ post, s_X1_countOpen v post = post r v) (post : Int32 → V → V → V → V → Prop) : s_X6_count v0 v v2 v3 5 post = post r v0 v v2 v3 := by
  show s_X6_count v0 v v2 v3 (nI 5) post = _
  simp (disch := omega) only [s_X6_count, s_X1_tellNumber, L5_0, L5_1, L5_2, L5_3, L5_4, L5_5, L5_6, L5_7, L5_8, L5_9, L5_10, L5_11, L5_12, L5_13, L5_14, L5_15, show ((nI 5).toInt < 0 ∨ 15 < (nI 5).toInt) = False from sw_in (by omega) (by omega) (by omega), show ((nI 5).toInt < 11 ∨ 13 < (nI 5).toInt) = True from sw_lo (by omega) (by omega), h, e10, z01, b_all, not_true_eq_false, not_false_eq_true, true_implies, false_implies, and_true, true_and, or_self, or_true, true_or, or_false, false_or]
theorem tc10 {v0 v v2 v3 : V} (post : Int32 → V → V → V → V → Prop) : s_X6_count v0 v v2 v3 10 post = post (v 0 8) v0 v v2 v3 := by
  show s_X6_count v0 v v2 v3 (nI 10) post = _
  simp (disch := omega) only [s_X6_count, s_X1_tellNumber, L10_0, L10_1, L10_2, L10_3, L10_4, L10_5, L10_6, L10_7, L10_8, L10_9, L10_10, L10_11, L10_12, L10_13, L10_14, L10_15, show ((nI 10).toInt < 0 ∨ 15 < (nI 10).toInt) = False from sw_in (by omega) (by omega) (by omega), show ((nI 10).toInt < 11 ∨ 13 < (nI 10).toInt) = True from sw_lo (by omega) (by omega), e10, z01, b_all, not_true_eq_false, not_false_eq_true, true_implies, false_implies, and_true, true_and, or_self, or_true, true_or, or_false, false_or]
theorem tc11 {v0 v v2 v3 : V} {n : Nat} (h : v2 0 2 = nI n) (post : Int32 → V → V → V → V → Prop) : s_X6_count v0 v v2 v3 11 post = post (nI n) v0 v v2 v3 := by
  show s_X6_count v0 v v2 v3 (nI 11) post = _
  simp (disch := omega) only [s_X6_count, s_X1_tellNumber, L11_0, L11_1, L11_2, L11_3, L11_4, L11_5, L11_6, L11_7, L11_8, L11_9, L11_10, L11_11, L11_12, L11_13, L11_14, L11_15, show ((nI 11).toInt < 0 ∨ 15 < (nI 11).toInt) = False from sw_in (by omega) (by omega) (by omega), show ((nI 11).toInt < 11 ∨ 13 < (nI 11).toInt) = False from sw_in (by omega) (by omega) (by omega), h, e10, z01, b_all, not_true_eq_false, not_false_eq_true, true_implies, false_implies, and_true, true_and, or_self, or_true, true_or, or_false, false_or]
theorem tc12 {v0 v v2 v3 : V} {n : Nat} (h : v3 0 1 = nI n) (post : Int32 → V → V → V → V → Prop) : s_X6_count v0 v v2 v3 12 post = post (nI n) v0 v v2 v3 := by
  show s_X6_count v0 v v2 v3 (nI 12) post = _
  simp (disch := omega) only [s_X6_count, s_X1_tellNumber, L12_0, L12_1, L12_2, L12_3, L12_4, L12_5, L12_6, L12_7, L12_8, L12_9, L12_10, L12_11, L12_12, L12_13, L12_14, L12_15, show ((nI 12).toInt < 0 ∨ 15 < (nI 12).toInt) = False from sw_in (by omega) (by omega) (by omega), show ((nI 12).toInt < 11 ∨ 13 < (nI 12).toInt) = False from sw_in (by omega) (by omega) (by omega), h, e10, z01, b_all, not_true_eq_false, not_false_eq_true, true_implies, false_implies, and_true, true_and, or_self, or_true, true_or, or_false, false_or]
theorem tc13y {v0 v v2 v3 : V} (h : ¬ v0 0 6 = 0) (post : Int32 → V → V → V → V → Prop) : s_X6_count v0 v v2 v3 13 post = post 1 v0 v v2 v3 := by
  show s_X6_count v0 v v2 v3 (nI 13) post = _
  simp (disch := omega) only [s_X6_count, s_X1_tellNumber, L13_0, L13_1, L13_2, L13_3, L13_4, L13_5, L13_6, L13_7, L13_8, L13_9, L13_10, L13_11, L13_12, L13_13, L13_14, L13_15, show ((nI 13).toInt < 0 ∨ 15 < (nI 13).toInt) = False from sw_in (by omega) (by omega) (by omega), show ((nI 13).toInt < 11 ∨ 13 < (nI 13).toInt) = False from sw_in (by omega) (by omega) (by omega), eq_false h, e10, z01, b_all, not_true_eq_false, not_false_eq_true, true_implies, false_implies, and_true, true_and, or_self, or_true, true_or, or_false, false_or]
theorem tc13n {v0 v v2 v3 : V} (h : v0 0 6 = 0) (post : Int32 → V → V → V → V → Prop) : s_X6_count v0 v v2 v3 13 post = post 0 v0 v v2 v3 := by
  show s_X6_count v0 v v2 v3 (nI 13) post = _
  simp (disch := omega) only [s_X6_count, s_X1_tellNumber, L13_0, L13_1, L13_2, L13_3, L13_4, L13_5, L13_6, L13_7, L13_8, L13_9, L13_10, L13_11, L13_12, L13_13, L13_14, L13_15, show ((nI 13).toInt < 0 ∨ 15 < (nI 13).toInt) = False from sw_in (by omega) (by omega) (by omega), show ((nI 13).toInt < 11 ∨ 13 < (nI 13).toInt) = False from sw_in (by omega) (by omega) (by omega), h, e10, z01, b_all, not_true_eq_false, not_false_eq_true, true_implies, false_implies, and_true, true_and, or_self, or_true, true_or, or_false, false_or]
theorem tc14 {v0 v v2 v3 : V} {n : Nat} (h : v 0 6 = nI n) (post : Int32 → V → V → V → V → Prop) : s_X6_count v0 v v2 v3 14 post = post (nI n) v0 v v2 v3 := by
  show s_X6_count v0 v v2 v3 (nI 14) post = _
  simp (disch := omega) only [s_X6_count, s_X1_tellNumber, L14_0, L14_1, L14_2, L14_3, L14_4, L14_5, L14_6, L14_7, L14_8, L14_9, L14_10, L14_11, L14_12, L14_13, L14_14, L14_15, show ((nI 14).toInt < 0 ∨ 15 < (nI 14).toInt) = False from sw_in (by omega) (by omega) (by omega), show ((nI 14).toInt < 11 ∨ 13 < (nI 14).toInt) = True from eq_true (Or.inr (by decide)), h, e10, z01, b_all, not_true_eq_false, not_false_eq_true, true_implies, false_implies, and_true, true_and, or_self, or_true, true_or, or_false, false_or]
theorem tc15 {v0 v v2 v3 : V} {n : Nat} (h : v 0 7 = nI n) (post : Int32 → V → V → V → V → Prop) : s_X6_count v0 v v2 v3 15 post = post (nI n) v0 v v2 v3 := by
  show s_X6_count v0 v v2 v3 (nI 15) post = _
  simp (disch := omega) only [s_X6_count, s_X1_tellNumber, L15_0, L15_1, L15_2, L15_3, L15_4, L15_5, L15_6, L15_7, L15_8, L15_9, L15_10, L15_11, L15_12, L15_13, L15_14, L15_15, show ((nI 15).toInt < 0 ∨ 15 < (nI 15).toInt) = False from sw_in (by omega) (by omega) (by omega), show ((nI 15).toInt < 11 ∨ 13 < (nI 15).toInt) = True from eq_true (Or.inr (by decide)), h, e10, z01, b_all, not_true_eq_false, not_false_eq_true, true_implies, false_implies, and_true, true_and, or_self, or_true, true_or, or_false, false_or]
theorem td0 {v0 v : V} {nd d : Nat} (v04 : v 0 4 = nI nd) (n1 : nd ≤ 6) (hd : d < nd) (post : Int32 → V → V → Prop) : s_X6_dealerOf v0 v (nI d) 0 post = post (v 22 d + 100000000) v0 v := by
  show s_X6_dealerOf v0 v (nI d) (nI 0) post = _
  simp (disch := omega) only [s_X6_dealerOf, k_deal_t v04 n1 hd, s_X1_tellDealer, vp_in_nI, tn_nI, L0_0, L0_1, L0_2, L0_3, L0_4, L0_5, show ((nI 0).toInt < 0 ∨ 5 < (nI 0).toInt) = False from sw_in (by omega) (by omega) (by omega), e10, z01, b_all, not_true_eq_false, not_false_eq_true, true_implies, false_implies, and_true, true_and, or_self, or_true, true_or, or_false, false_or]
theorem tr1 {v0 v : V} {S : Nat → Int32} {a b c : Nat} (hP : RP v S) (ha : a < 5) (hb : b < 10) (hc : c < 8) (post : Int32 → V → V → Prop) : s_X6_rateOf v0 v (nI a) (nI b) (nI c) 1 post = post (if S (264 + (80 * a + 8 * b + c)) = 0 then -10000004 else S (264 + (80 * a + 8 * b + c))) v0 v := by
  have hkg : ∀ post, s_X6_isGrade (nI a) (nI b) (nI c) post = post 1 := fun post => k_grade_t ha hb hc
  have hown : ∀ post, s_X3_ownRate v (nI a) (nI b) (nI c) post = post (S (264 + (80 * a + 8 * b + c))) v := fun post => k_own hP ha hb hc
  have f1 : (nI 1 < 0) = False := eq_false (by decide)
  have f2 : (nI 1 ≤ 1) = True := eq_true (by decide)
  show s_X6_rateOf v0 v (nI a) (nI b) (nI c) (nI 1) post = _
  by_cases hq0 : S (264 + (80 * a + 8 * b + c)) = 0
  · simp only [s_X6_rateOf, hkg, f1, f2, L1_1, hown, hq0, if_true, e10, z01, b_all, not_true_eq_false, not_false_eq_true, true_implies, false_implies, and_true, true_and, or_self, or_true, true_or, or_false, false_or]
  · simp only [s_X6_rateOf, hkg, f1, f2, L1_1, hown, eq_false hq0, if_false, e10, z01, b_all, not_true_eq_false, not_false_eq_true, true_implies, false_implies, and_true, true_and, or_self, or_true, true_or, or_false, false_or]
theorem tr0 {v0 v : V} {S : Nat → Int32} {a b c r : Nat} (hP : RP v S) (hT : okT S) (ha : a < 5) (hb : b < 10) (hc : c < 8) (hr : S (264 + (80 * a + 8 * b + c)) = nI r) (r1 : 1 ≤ r) (r2 : r ≤ 9999) (post : Int32 → V → V → Prop) : s_X6_rateOf v0 v (nI a) (nI b) (nI c) 0 post = post (nI r) v0 v := by
  have hkg : ∀ post, s_X6_isGrade (nI a) (nI b) (nI c) post = post 1 := fun post => k_grade_t ha hb hc
  have ht : tbl S (80 * a + 8 * b + c) = r := by
    unfold tbl
    rw [hr, tn_nI (by omega)]
  have hrt : rateN (tbl S) a b c = r := by
    unfold rateN
    rw [if_neg (by omega), ht]
  have hrf : ∀ post, s_X3_rateFor v (nI a) (nI b) (nI c) post = post (nI r) v := fun post => by
    rw [k_rate hP hT ha hb hc, hrt]
  have f1 : (nI 0 < 0) = False := eq_false (by decide)
  have f2 : (nI 0 ≤ 1) = True := eq_true (by decide)
  have f4 : (nI r = 0) = False := eq_false (nI_ne0 (by omega) (by omega))
  show s_X6_rateOf v0 v (nI a) (nI b) (nI c) (nI 0) post = _
  simp only [s_X6_rateOf, hkg, f1, f2, L0_1, hrf, f4, e10, z01, b_all, not_true_eq_false, not_false_eq_true, true_implies, false_implies, and_true, true_and, or_self, or_true, true_or, or_false, false_or]
theorem k_sold {v : V} {ns : Nat} (h : v 6 0 = nI ns) (hd : ns ≤ 20) (post : Int32 → V → Prop) : s_X5_sumSold v post = post (sI (v 14) ns) v := by
  have key : ∀ d k, k + d = ns → (∃ n, sl_X5_sumSold_4 post (fun x _ v => post x v) n (sI (v 14) k) (nI k) v) = post (sI (v 14) ns) v := by
    intro d
    induction d with
    | zero =>
      intro k hk
      obtain rfl : k = ns := by omega
      exact xo_X5_sumSold_4 (fun rec => b_t (show v 6 0 ≤ nI k by rw [h]; exact Int32.le_refl _))
    | succ d ih =>
      intro k hk
      refine (xs_X5_sumSold_4 (fun rec => ?_)).trans (ih (k + 1) (by omega))
      have f : (nI ns ≤ nI k) = False := eq_false (nI_ge (by omega) (by omega))
      simp (disch := omega) only [sb_X5_sumSold_4, h, f, vp_in_nI, tn_nI, sI, nI_1, e10, z01, b_all, not_true_eq_false, not_false_eq_true, true_implies, false_implies, and_true, true_and, or_self, or_true, true_or, or_false, false_or]
  exact key ns 0 (by omega)
/-- how many of the first memos are open -/
def opn (v : V) (ns : Nat) : Nat → Nat
  | 0 => 0
  | n + 1 => opn v ns n + (if setF (v 12) (nI n) ns = 0 then 0 else 1)
theorem opn_le (v : V) (ns : Nat) : ∀ n, opn v ns n ≤ n
  | 0 => Nat.le_refl _
  | n + 1 => by
    have := opn_le v ns n
    rw [opn]
    split <;> omega
theorem k_open {v : V} {ns nm : Nat} (v60 : v 6 0 = nI ns) (n2 : ns ≤ 20) (v160 : v 16 0 = nI nm) (n3 : nm ≤ 10) (post : Int32 → V → Prop) : s_X1_countOpen v post = post (nI (opn v ns nm)) v := by
  have key : ∀ d k, k + d = nm → (∃ n, sl_X1_countOpen_4 post (fun x _ v => post x v) n (nI (opn v ns k)) (nI k) v) = post (nI (opn v ns nm)) v := by
    intro d
    induction d with
    | zero =>
      intro k hk
      obtain rfl : k = nm := by omega
      exact xo_X1_countOpen_4 (fun rec => b_t (show v 16 0 ≤ nI k by rw [v160]; exact Int32.le_refl _))
    | succ d ih =>
      intro k hk
      refine (xs_X1_countOpen_4 (fun rec => ?_)).trans (ih (k + 1) (by omega))
      have f : (nI nm ≤ nI k) = False := eq_false (nI_ge (by omega) (by omega))
      have s6 : ∀ post, s_X5_setWhere_12 v (nI k) post = post (setF (v 12) (nI k) ns) v := fun post => k_memoSet v60 n2
      by_cases hz : setF (v 12) (nI k) ns = 0
      · simp (disch := omega) only [sb_X1_countOpen_4, v160, f, s_X1_isOpen, s6, hz, opn, if_true, Nat.add_zero, nI_1, e10, z01, b_all, not_true_eq_false, not_false_eq_true, true_implies, false_implies, and_true, true_and, or_self, or_true, true_or, or_false, false_or]
      · simp (disch := omega) only [sb_X1_countOpen_4, v160, f, s_X1_isOpen, s6, eq_false hz, opn, if_false, nI_1, e10, z01, b_all, not_true_eq_false, not_false_eq_true, true_implies, false_implies, and_true, true_and, or_self, or_true, true_or, or_false, false_or]
  exact key nm 0 (by omega)
theorem k_grades {v w : V} {nd ns nm t g e l : Nat} {x : Int32} (hRn : Rn v (w 1) nd ns nm t g e l) : ∀ d k acc, k + d = ns → acc ≤ k → ∃ r, r ≤ ns ∧ ∀ post k0, (∃ n, sl_X5_unlikeGrades_4 post x k0 n (nI acc) (nI k) v) = k0 (nI r) (nI ns) v := by
  have v60 : v 6 0 = nI ns := hRn.1.2.2.2.2.2.2.2.2.1
  have n2 : ns ≤ 20 := hRn.1.2.1
  intro d
  induction d with
  | zero =>
    intro k acc hk ha
    obtain rfl : k = ns := by omega
    exact ⟨acc, ha, fun post k0 => xo_X5_unlikeGrades_4 (fun rec => b_t (show v 6 0 ≤ nI k by rw [v60]; exact Int32.le_refl _))⟩
  | succ d ih =>
    intro k acc hk ha
    obtain ⟨b, b1, -⟩ := like_lp (x := x) hRn (show k < ns by omega) k 0 (by omega)
    have hle : (nI ns ≤ nI k) = False := eq_false (nI_ge (by omega) (by omega))
    have hlb : ∀ post, s_X5_hasLikeBefore v (nI k) x post = post (bI b) v := fun post => b1 post
    by_cases hx : v 11 k = x
    · cases b with
      | true =>
        obtain ⟨r, r1, r2⟩ := ih (k + 1) acc (by omega) (by omega)
        refine ⟨r, r1, fun post k0 => (xs_X5_unlikeGrades_4 (fun rec => ?_)).trans (r2 post k0)⟩
        simp (disch := omega) only [sb_X5_unlikeGrades_4, v60, hle, vp_in_nI, tn_nI, hx, hlb, show bI true = 1 from rfl, nI_1, e10, z01, b_all, not_true_eq_false, not_false_eq_true, true_implies, false_implies, and_true, true_and, or_self, or_true, true_or, or_false, false_or]
      | false =>
        obtain ⟨r, r1, r2⟩ := ih (k + 1) (acc + 1) (by omega) (by omega)
        refine ⟨r, r1, fun post k0 => (xs_X5_unlikeGrades_4 (fun rec => ?_)).trans (r2 post k0)⟩
        simp (disch := omega) only [sb_X5_unlikeGrades_4, v60, hle, vp_in_nI, tn_nI, hx, hlb, show bI false = 0 from rfl, nI_1, e10, z01, b_all, not_true_eq_false, not_false_eq_true, true_implies, false_implies, and_true, true_and, or_self, or_true, true_or, or_false, false_or]
    · obtain ⟨r, r1, r2⟩ := ih (k + 1) acc (by omega) (by omega)
      refine ⟨r, r1, fun post k0 => (xs_X5_unlikeGrades_4 (fun rec => ?_)).trans (r2 post k0)⟩
      simp (disch := omega) only [sb_X5_unlikeGrades_4, v60, hle, vp_in_nI, tn_nI, eq_false hx, nI_1, e10, z01, b_all, not_true_eq_false, not_false_eq_true, true_implies, false_implies, and_true, true_and, or_self, or_true, true_or, or_false, false_or]
theorem tg {v0 v w : V} {nd ns nm t g e l d : Nat} (hRn : Rn v (w 1) nd ns nm t g e l) (hd : d < nd) : ∃ r, r ≤ 20 ∧ ∀ post, s_X6_grades v0 v (nI d) post = post (nI r) v0 v := by
  have v04 : v 0 4 = nI nd := hRn.1.2.2.2.2.2.2.1
  have n1 : nd ≤ 6 := hRn.1.1
  have n2 : ns ≤ 20 := hRn.1.2.1
  obtain ⟨r, r1, r2⟩ := k_grades (x := nI d) hRn ns 0 0 (by omega) (Nat.le_refl _)
  refine ⟨r, by omega, fun post => ?_⟩
  unfold s_X6_grades
  rw [k_deal_t v04 n1 hd, b_f' z10]
  exact r2 _ (fun x _ v => post x v0 v)
