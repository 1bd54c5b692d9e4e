/-! PURE 19: stoneOf, dealerOf, memoOf, rateOf -/
def Qz (C : (Int32 → V → V → Prop) → Prop) (D : (Int32 → V → Prop) → Prop) (v0 v w : V) : Prop := ∃ r, (∀ post, C post = post r v0 v) ∧ (∀ post, D post = post r w)
theorem Qz.mk {C : (Int32 → V → V → Prop) → Prop} {D : (Int32 → V → Prop) → Prop} {v0 v w : V} {r : Int32} (h1 : ∀ post, C post = post r v0 v) (h2 : ∀ post, D post = post r w) : Qz C D v0 v w := ⟨r, h1, h2⟩
theorem L0_0 : (nI 0 = 0) = True := eq_true rfl
theorem L0_1 : (nI 0 = 1) = False := eq_false (by decide)
theorem L0_2 : (nI 0 = 2) = False := eq_false (by decide)
theorem L0_3 : (nI 0 = 3) = False := eq_false (by decide)
theorem L0_4 : (nI 0 = 4) = False := eq_false (by decide)
theorem L0_5 : (nI 0 = 5) = False := eq_false (by decide)
theorem L0_6 : (nI 0 = 6) = False := eq_false (by decide)
theorem L0_7 : (nI 0 = 7) = False := eq_false (by decide)
theorem L0_8 : (nI 0 = 8) = False := eq_false (by decide)
theorem L0_9 : (nI 0 = 9) = False := eq_false (by decide)
theorem L0_10 : (nI 0 = 10) = False := eq_false (by decide)
theorem L0_11 : (nI 0 = 11) = False := eq_false (by decide)
theorem L0_12 : (nI 0 = 12) = False := eq_false (by decide)
theorem L0_13 : (nI 0 = 13) = False := eq_false (by decide)
theorem L0_14 : (nI 0 = 14) = False := eq_false (by decide)
theorem L0_15 : (nI 0 = 15) = False := eq_false (by decide)
theorem L1_0 : (nI 1 = 0) = False := eq_false (by decide)
theorem L1_1 : (nI 1 = 1) = True := eq_true rfl
theorem L1_2 : (nI 1 = 2) = False := eq_false (by decide)
theorem L1_3 : (nI 1 = 3) = False := eq_false (by decide)
theorem L1_4 : (nI 1 = 4) = False := eq_false (by decide)
theorem L1_5 : (nI 1 = 5) = False := eq_false (by decide)
theorem L1_6 : (nI 1 = 6) = False := eq_false (by decide)
theorem L1_7 : (nI 1 = 7) = False := eq_false (by decide)
theorem L1_8 : (nI 1 = 8) = False := eq_false (by decide)
theorem L1_9 : (nI 1 = 9) = False := eq_false (by decide)
theorem L1_10 : (nI 1 = 10) = False := eq_false (by decide)
theorem L1_11 : (nI 1 = 11) = False := eq_false (by decide)
theorem L1_12 : (nI 1 = 12) = False := eq_false (by decide)
theorem L1_13 : (nI 1 = 13) = False := eq_false (by decide)
theorem L1_14 : (nI 1 = 14) = False := eq_false (by decide)
theorem L1_15 : (nI 1 = 15) = False := eq_false (by decide)
theorem L2_0 : (nI 2 = 0) = False := eq_false (by decide)
theorem L2_1 : (nI 2 = 1) = False := eq_false (by decide)
theorem L2_2 : (nI 2 = 2) = True := eq_true rfl
theorem L2_3 : (nI 2 = 3) = False := eq_false (by decide)
theorem L2_4 : (nI 2 = 4) = False := eq_false (by decide)
theorem L2_5 : (nI 2 = 5) = False := eq_false (by decide)
theorem L2_6 : (nI 2 = 6) = False := eq_false (by decide)
theorem L2_7 : (nI 2 = 7) = False := eq_false (by decide)
theorem L2_8 : (nI 2 = 8) = False := eq_false (by decide)
theorem L2_9 : (nI 2 = 9) = False := eq_false (by decide)
theorem L2_10 : (nI 2 = 10) = False := eq_false (by decide)
theorem L2_11 : (nI 2 = 11) = False := eq_false (by decide)
theorem L2_12 : (nI 2 = 12) = False := eq_false (by decide)
theorem L2_13 : (nI 2 = 13) = False := eq_false (by decide)
theorem L2_14 : (nI 2 = 14) = False := eq_false (by decide)
theorem L2_15 : (nI 2 = 15) = False := eq_false (by decide)
theorem L3_0 : (nI 3 = 0) = False := eq_false (by decide)
theorem L3_1 : (nI 3 = 1) = False := eq_false (by decide)
theorem L3_2 : (nI 3 = 2) = False := eq_false (by decide)
theorem L3_3 : (nI 3 = 3) = True := eq_true rfl
theorem L3_4 : (nI 3 = 4) = False := eq_false (by decide)
theorem L3_5 : (nI 3 = 5) = False := eq_false (by decide)
theorem L3_6 : (nI 3 = 6) = False := eq_false (by decide)
theorem L3_7 : (nI 3 = 7) = False := eq_false (by decide)
theorem L3_8 : (nI 3 = 8) = False := eq_false (by decide)
theorem L3_9 : (nI 3 = 9) = False := eq_false (by decide)
theorem L3_10 : (nI 3 = 10) = False := eq_false (by decide)
theorem L3_11 : (nI 3 = 11) = False := eq_false (by decide)
theorem L3_12 : (nI 3 = 12) = False := eq_false (by decide)
theorem L3_13 : (nI 3 = 13) = False := eq_false (by decide)
theorem L3_14 : (nI 3 = 14) = False := eq_false (by decide)
theorem L3_15 : (nI 3 = 15) = False := eq_false (by decide)
theorem L4_0 : (nI 4 = 0) = False := eq_false (by decide)
theorem L4_1 : (nI 4 = 1) = False := eq_false (by decide)
theorem L4_2 : (nI 4 = 2) = False := eq_false (by decide)
theorem L4_3 : (nI 4 = 3) = False := eq_false (by decide)
theorem L4_4 : (nI 4 = 4) = True := eq_true rfl
theorem L4_5 : (nI 4 = 5) = False := eq_false (by decide)
theorem L4_6 : (nI 4 = 6) = False := eq_false (by decide)
theorem L4_7 : (nI 4 = 7) = False := eq_false (by decide)
theorem L4_8 : (nI 4 = 8) = False := eq_false (by decide)
theorem L4_9 : (nI 4 = 9) = False := eq_false (by decide)
theorem L4_10 : (nI 4 = 10) = False := eq_false (by decide)
theorem L4_11 : (nI 4 = 11) = False := eq_false (by decide)
theorem L4_12 : (nI 4 = 12) = False := eq_false (by decide)
theorem L4_13 : (nI 4 = 13) = False := eq_false (by decide)
theorem L4_14 : (nI 4 = 14) = False := eq_false (by decide)
theorem L4_15 : (nI 4 = 15) = False := eq_false (by decide)
theorem L5_0 : (nI 5 = 0) = False := eq_false (by decide)
theorem L5_1 : (nI 5 = 1) = False := eq_false (by decide)
theorem L5_2 : (nI 5 = 2) = False := eq_false (by decide)
theorem L5_3 : (nI 5 = 3) = False := eq_false (by decide)
theorem L5_4 : (nI 5 = 4) = False := eq_false (by decide)
theorem L5_5 : (nI 5 = 5) = True := eq_true rfl
theorem L5_6 : (nI 5 = 6) = False := eq_false (by decide)
theorem L5_7 : (nI 5 = 7) = False := eq_false (by decide)
theorem L5_8 : (nI 5 = 8) = False := eq_false (by decide)
theorem L5_9 : (nI 5 = 9) = False := eq_false (by decide)
theorem L5_10 : (nI 5 = 10) = False := eq_false (by decide)
theorem L5_11 : (nI 5 = 11) = False := eq_false (by decide)
theorem L5_12 : (nI 5 = 12) = False := eq_false (by decide)
theorem L5_13 : (nI 5 = 13) = False := eq_false (by decide)
theorem L5_14 : (nI 5 = 14) = False := eq_false (by decide)
theorem L5_15 : (nI 5 = 15) = False := eq_false (by decide)
theorem L6_0 : (nI 6 = 0) = False := eq_false (by decide)
theorem L6_1 : (nI 6 = 1) = False := eq_false (by decide)
theorem L6_2 : (nI 6 = 2) = False := eq_false (by decide)
theorem L6_3 : (nI 6 = 3) = False := eq_false (by decide)
theorem L6_4 : (nI 6 = 4) = False := eq_false (by decide)
theorem L6_5 : (nI 6 = 5) = False := eq_false (by decide)
theorem L6_6 : (nI 6 = 6) = True := eq_true rfl
theorem L6_7 : (nI 6 = 7) = False := eq_false (by decide)
theorem L6_8 : (nI 6 = 8) = False := eq_false (by decide)
theorem L6_9 : (nI 6 = 9) = False := eq_false (by decide)
theorem L6_10 : (nI 6 = 10) = False := eq_false (by decide)
theorem L6_11 : (nI 6 = 11) = False := eq_false (by decide)
theorem L6_12 : (nI 6 = 12) = False := eq_false (by decide)
theorem L6_13 : (nI 6 = 13) = False := eq_false (by decide)
theorem L6_14 : (nI 6 = 14) = False := eq_false (by decide)
theorem L6_15 : (nI 6 = 15) = False := eq_false (by decide)
theorem L7_0 : (nI 7 = 0) = False := eq_false (by decide)
theorem L7_1 : (nI 7 = 1) = False := eq_false (by decide)
theorem L7_2 : (nI 7 = 2) = False := eq_false (by decide)
theorem L7_3 : (nI 7 = 3) = False := eq_false (by decide)
theorem L7_4 : (nI 7 = 4) = False := eq_false (by decide)
theorem L7_5 : (nI 7 = 5) = False := eq_false (by decide)
theorem L7_6 : (nI 7 = 6) = False := eq_false (by decide)
theorem L7_7 : (nI 7 = 7) = True := eq_true rfl
theorem L7_8 : (nI 7 = 8) = False := eq_false (by decide)
theorem L7_9 : (nI 7 = 9) = False := eq_false (by decide)
theorem L7_10 : (nI 7 = 10) = False := eq_false (by decide)
theorem L7_11 : (nI 7 = 11) = False := eq_false (by decide)
theorem L7_12 : (nI 7 = 12) = False := eq_false (by decide)
theorem L7_13 : (nI 7 = 13) = False := eq_false (by decide)
theorem L7_14 : (nI 7 = 14) = False := eq_false (by decide)
theorem L7_15 : (nI 7 = 15) = False := eq_false (by decide)
theorem L8_0 : (nI 8 = 0) = False := eq_false (by decide)
theorem L8_1 : (nI 8 = 1) = False := eq_false (by decide)
theorem L8_2 : (nI 8 = 2) = False := eq_false (by decide)
theorem L8_3 : (nI 8 = 3) = False := eq_false (by decide)
theorem L8_4 : (nI 8 = 4) = False := eq_false (by decide)
theorem L8_5 : (nI 8 = 5) = False := eq_false (by decide)
theorem L8_6 : (nI 8 = 6) = False := eq_false (by decide)
theorem L8_7 : (nI 8 = 7) = False := eq_false (by decide)
theorem L8_8 : (nI 8 = 8) = True := eq_true rfl
theorem L8_9 : (nI 8 = 9) = False := eq_false (by decide)
theorem L8_10 : (nI 8 = 10) = False := eq_false (by decide)
theorem L8_11 : (nI 8 = 11) = False := eq_false (by decide)
theorem L8_12 : (nI 8 = 12) = False := eq_false (by decide)
theorem L8_13 : (nI 8 = 13) = False := eq_false (by decide)
theorem L8_14 : (nI 8 = 14) = False := eq_false (by decide)
theorem L8_15 : (nI 8 = 15) = False := eq_false (by decide)
theorem L9_0 : (nI 9 = 0) = False := eq_false (by decide)
theorem L9_1 : (nI 9 = 1) = False := eq_false (by decide)
theorem L9_2 : (nI 9 = 2) = False := eq_false (by decide)
theorem L9_3 : (nI 9 = 3) = False := eq_false (by decide)
theorem L9_4 : (nI 9 = 4) = False := eq_false (by decide)
theorem L9_5 : (nI 9 = 5) = False := eq_false (by decide)
theorem L9_6 : (nI 9 = 6) = False := eq_false (by decide)
theorem L9_7 : (nI 9 = 7) = False := eq_false (by decide)
theorem L9_8 : (nI 9 = 8) = False := eq_false (by decide)
theorem L9_9 : (nI 9 = 9) = True := eq_true rfl
theorem L9_10 : (nI 9 = 10) = False := eq_false (by decide)
theorem L9_11 : (nI 9 = 11) = False := eq_false (by decide)
theorem L9_12 : (nI 9 = 12) = False := eq_false (by decide)
theorem L9_13 : (nI 9 = 13) = False := eq_false (by decide)
theorem L9_14 : (nI 9 = 14) = False := eq_false (by decide)
theorem L9_15 : (nI 9 = 15) = False := eq_false (by decide)
theorem L10_0 : (nI 10 = 0) = False := eq_false (by decide)
theorem L10_1 : (nI 10 = 1) = False := eq_false (by decide)
theorem L10_2 : (nI 10 = 2) = False := eq_false (by decide)
theorem L10_3 : (nI 10 = 3) = False := eq_false (by decide)
theorem L10_4 : (nI 10 = 4) = False := eq_false (by decide)
theorem L10_5 : (nI 10 = 5) = False := eq_false (by decide)
theorem L10_6 : (nI 10 = 6) = False := eq_false (by decide)
theorem L10_7 : (nI 10 = 7) = False := eq_false (by decide)
theorem L10_8 : (nI 10 = 8) = False := eq_false (by decide)
theorem L10_9 : (nI 10 = 9) = False := eq_false (by decide)
theorem L10_10 : (nI 10 = 10) = True := eq_true rfl
theorem L10_11 : (nI 10 = 11) = False := eq_false (by decide)
theorem L10_12 : (nI 10 = 12) = False := eq_false (by decide)
theorem L10_13 : (nI 10 = 13) = False := eq_false (by decide)
theorem L10_14 : (nI 10 = 14) = False := eq_false (by decide)
theorem L10_15 : (nI 10 = 15) = False := eq_false (by decide)
theorem L11_0 : (nI 11 = 0) = False := eq_false (by decide)
theorem L11_1 : (nI 11 = 1) = False := eq_false (by decide)
theorem L11_2 : (nI 11 = 2) = False := eq_false (by decide)
theorem L11_3 : (nI 11 = 3) = False := eq_false (by decide)
theorem L11_4 : (nI 11 = 4) = False := eq_false (by decide)
theorem L11_5 : (nI 11 = 5) = False := eq_false (by decide)
theorem L11_6 : (nI 11 = 6) = False := eq_false (by decide)
theorem L11_7 : (nI 11 = 7) = False := eq_false (by decide)
theorem L11_8 : (nI 11 = 8) = False := eq_false (by decide)
theorem L11_9 : (nI 11 = 9) = False := eq_false (by decide)
theorem L11_10 : (nI 11 = 10) = False := eq_false (by decide)
theorem L11_11 : (nI 11 = 11) = True := eq_true rfl
theorem L11_12 : (nI 11 = 12) = False := eq_false (by decide)
theorem L11_13 : (nI 11 = 13) = False := eq_false (by decide)
theorem L11_14 : (nI 11 = 14) = False := eq_false (by decide)
theorem L11_15 : (nI 11 = 15) = False := eq_false (by decide)
theorem L12_0 : (nI 12 = 0) = False := eq_false (by decide)
theorem L12_1 : (nI 12 = 1) = False := eq_false (by decide)
theorem L12_2 : (nI 12 = 2) = False := eq_false (by decide)
theorem L12_3 : (nI 12 = 3) = False := eq_false (by decide)
theorem L12_4 : (nI 12 = 4) = False := eq_false (by decide)
theorem L12_5 : (nI 12 = 5) = False := eq_false (by decide)
theorem L12_6 : (nI 12 = 6) = False := eq_false (by decide)
theorem L12_7 : (nI 12 = 7) = False := eq_false (by decide)
theorem L12_8 : (nI 12 = 8) = False := eq_false (by decide)
theorem L12_9 : (nI 12 = 9) = False := eq_false (by decide)
theorem L12_10 : (nI 12 = 10) = False := eq_false (by decide)
theorem L12_11 : (nI 12 = 11) = False := eq_false (by decide)
theorem L12_12 : (nI 12 = 12) = True := eq_true rfl
theorem L12_13 : (nI 12 = 13) = False := eq_false (by decide)
theorem L12_14 : (nI 12 = 14) = False := eq_false (by decide)
theorem L12_15 : (nI 12 = 15) = False := eq_false (by decide)
theorem L13_0 : (nI 13 = 0) = False := eq_false (by decide)
theorem L13_1 : (nI 13 = 1) = False := eq_false (by decide)
theorem L13_2 : (nI 13 = 2) = False := eq_false (by decide)
theorem L13_3 : (nI 13 = 3) = False := eq_false (by decide)
theorem L13_4 : (nI 13 = 4) = False := eq_false (by decide)
theorem L13_5 : (nI 13 = 5) = False := eq_false (by decide)
theorem L13_6 : (nI 13 = 6) = False := eq_false (by decide)
theorem L13_7 : (nI 13 = 7) = False := eq_false (by decide)
theorem L13_8 : (nI 13 = 8) = False := eq_false (by decide)
theorem L13_9 : (nI 13 = 9) = False := eq_false (by decide)
theorem L13_10 : (nI 13 = 10) = False := eq_false (by decide)
theorem L13_11 : (nI 13 = 11) = False := eq_false (by decide)
theorem L13_12 : (nI 13 = 12) = False := eq_false (by decide)
theorem L13_13 : (nI 13 = 13) = True := eq_true rfl
theorem L13_14 : (nI 13 = 14) = False := eq_false (by decide)
theorem L13_15 : (nI 13 = 15) = False := eq_false (by decide)
theorem L14_0 : (nI 14 = 0) = False := eq_false (by decide)
theorem L14_1 : (nI 14 = 1) = False := eq_false (by decide)
theorem L14_2 : (nI 14 = 2) = False := eq_false (by decide)
theorem L14_3 : (nI 14 = 3) = False := eq_false (by decide)
theorem L14_4 : (nI 14 = 4) = False := eq_false (by decide)
theorem L14_5 : (nI 14 = 5) = False := eq_false (by decide)
theorem L14_6 : (nI 14 = 6) = False := eq_false (by decide)
theorem L14_7 : (nI 14 = 7) = False := eq_false (by decide)
theorem L14_8 : (nI 14 = 8) = False := eq_false (by decide)
theorem L14_9 : (nI 14 = 9) = False := eq_false (by decide)
theorem L14_10 : (nI 14 = 10) = False := eq_false (by decide)
theorem L14_11 : (nI 14 = 11) = False := eq_false (by decide)
theorem L14_12 : (nI 14 = 12) = False := eq_false (by decide)
theorem L14_13 : (nI 14 = 13) = False := eq_false (by decide)
theorem L14_14 : (nI 14 = 14) = True := eq_true rfl
theorem L14_15 : (nI 14 = 15) = False := eq_false (by decide)
theorem L15_0 : (nI 15 = 0) = False := eq_false (by decide)
theorem L15_1 : (nI 15 = 1) = False := eq_false (by decide)
theorem L15_2 : (nI 15 = 2) = False := eq_false (by decide)
theorem L15_3 : (nI 15 = 3) = False := eq_false (by decide)
theorem L15_4 : (nI 15 = 4) = False := eq_false (by decide)
theorem L15_5 : (nI 15 = 5) = False := eq_false (by decide)
theorem L15_6 : (nI 15 = 6) = False := eq_false (by decide)
theorem L15_7 : (nI 15 = 7) = False := eq_false (by decide)
theorem L15_8 : (nI 15 = 8) = False := eq_false (by decide)
theorem L15_9 : (nI 15 = 9) = False := eq_false (by decide)
theorem L15_10 : (nI 15 = 10) = False := eq_false (by decide)
theorem L15_11 : (nI 15 = 11) = False := eq_false (by decide)
theorem L15_12 : (nI 15 = 12) = False := eq_false (by decide)
theorem L15_13 : (nI 15 = 13) = False := eq_false (by decide)
theorem L15_14 : (nI 15 = 14) = False := eq_false (by decide)
theorem L15_15 : (nI 15 = 15) = True := eq_true rfl
theorem qz_stoneOf {v0 v w : V} (h : R v (w 1)) (p x : Int32) : Qz (s_X6_stoneOf v0 v p x) (s_X7_stoneOf w p x) v0 v w := by
  obtain ⟨nd, ns, nm, t, g, e, hRn⟩ := h
  have hRn' := hRn
  obtain ⟨hg, hb, ⟨hP, hT⟩, hk, h0, hm, hB⟩ := hRn'
  have hg' := hg
  obtain ⟨n1, n2, n3, n4, n5, n6, v04, S0, v60, S1, v160, S2, v05, S3, L4, S5, v06, S6, v07, S7⟩ := hg'
  rcases ixn p (n := ns) (by omega) with ⟨k, hkn, rfl⟩ | hp
  rotate_left
  · refine Qz.mk (r := -10000001) (fun post => ?_) (fun post => ?_)
    · simp only [s_X6_stoneOf, k_has_f v60 hp, e10, z01, b_all, not_true_eq_false, not_false_eq_true, true_implies, false_implies, and_true, true_and, or_self, or_true, true_or, or_false, false_or]
    · simp only [s_X7_stoneOf, q_isStone_f S1 (show ns < 1000000 by omega) hp, e10, z01, b_all, not_true_eq_false, not_false_eq_true, true_implies, false_implies, and_true, true_and, or_self, or_true, true_or, or_false, false_or]
  have k20 : k < 20 := by omega
  have hst : ∀ post, s_X7_isStone w (nI k) post = post 1 w := fun post => q_isStone_t S1 (show ns < 1000000 by omega) hkn
  rcases rng x (a := 0) (b := 10) (by omega) (by omega) with ⟨c, -, hc10, rfl⟩ | hx
  rotate_left
  · refine Qz.mk (r := -10000001) (fun post => ?_) (fun post => ?_)
    · have sn0 : (x = 0) = False := sw_no hx (N := 10) (c := 0) (by omega) (by omega)
      have sn1 : (x = 1) = False := sw_no hx (N := 10) (c := 1) (by omega) (by omega)
      have sn2 : (x = 2) = False := sw_no hx (N := 10) (c := 2) (by omega) (by omega)
      have sn3 : (x = 3) = False := sw_no hx (N := 10) (c := 3) (by omega) (by omega)
      have sn4 : (x = 4) = False := sw_no hx (N := 10) (c := 4) (by omega) (by omega)
      have sn5 : (x = 5) = False := sw_no hx (N := 10) (c := 5) (by omega) (by omega)
      have sn6 : (x = 6) = False := sw_no hx (N := 10) (c := 6) (by omega) (by omega)
      have sn7 : (x = 7) = False := sw_no hx (N := 10) (c := 7) (by omega) (by omega)
      have sn8 : (x = 8) = False := sw_no hx (N := 10) (c := 8) (by omega) (by omega)
      have sn9 : (x = 9) = False := sw_no hx (N := 10) (c := 9) (by omega) (by omega)
      have sn10 : (x = 10) = False := sw_no hx (N := 10) (c := 10) (by omega) (by omega)
      simp only [s_X6_stoneOf, k_has_t v60 n2 hkn, s_X1_tellStone, sn0, sn1, sn2, sn3, sn4, sn5, sn6, sn7, sn8, sn9, sn10, show (x.toInt < 0 ∨ 10 < x.toInt) = True from sw_out (N := 10) hx (by omega), e10, z01, b_all, not_true_eq_false, not_false_eq_true, true_implies, false_implies, and_true, true_and, or_self, or_true, true_or, or_false, false_or]
    · simp only [s_X7_stoneOf, hst, q_in_f (show x < 0 ∨ 10 < x from hx), e10, z01, b_all, not_true_eq_false, not_false_eq_true, true_implies, false_implies, and_true, true_and, or_self, or_true, true_or, or_false, false_or]
  have fin : ∀ post, s_X7_in (nI c) 0 10 post = post 1 := fun post => q_in_n (a := 0) (b := 10) (by omega) hc10 (by omega)
  have fo : (nI c).toInt < 0 ∨ 10 < (nI c).toInt ↔ False := iff_of_eq (sw_in (by omega) (by omega) (by omega))
  obtain ⟨⟨e0, e1, e2, e3, e4, e5, e6, e7, e8⟩, hO, hc⟩ := hk k hkn
  obtain ⟨a1, a2, a3, a4, a5, a6, a7⟩ := hO.at
  have p1 : ∀ post, s_X1_priceOf v (nI k) post = post (pS (w 1) k) v := fun post => k_price hP hT hO e0 e1 e2 k20
  have p2 : ∀ post, s_X7_price w (nI k) post = post (pS (w 1) k) w := fun post => q_price hT hO k20
  have s1 : ∀ post, s_X5_sieveOf v (nI k) post = post (nI (svN (tn (w 1 (14 + 10 * k + 0))))) v := fun post => k_sieve k20 (by omega) (e0.trans a1)
  have s2 : ∀ post, s_X7_sieve w (nI k) post = post (nI (svN (tn (w 1 (14 + 10 * k + 0))))) w := fun post => q_sieve k20 (by omega) a1
  have f41 : nI 4 - 1 = nI 3 := by decide
  have f51 : nI 5 - 1 = nI 4 := by decide
  have qg : ∀ f, f < 10 → ∀ post, s_X7_ofStone w (nI k) (nI f) post = post (w 1 (14 + 10 * k + f)) w := fun f hf post => q_ofStone k20 hf
  have hcs : c = 0 ∨ c = 1 ∨ c = 2 ∨ c = 3 ∨ c = 4 ∨ c = 5 ∨ c = 6 ∨ c = 7 ∨ c = 8 ∨ c = 9 ∨ c = 10 := by omega
  rcases hc with ⟨o, cc, q1, q2, q3, q4, q5, q6, q7⟩ | ⟨q, cc, q1, q2, q3, q4, q5, q6, q7, q8⟩ | ⟨o, hh, m, a, cc, g1, g2, g3, g4, g5, g6, g7, g8, g9, g10, g11, g12, g13, g14⟩
  · rcases hcs with rfl | rfl | rfl | rfl | rfl | rfl | rfl | rfl | rfl | rfl | rfl
    · refine Qz.mk (r := w 1 (14 + 10 * k + 0)) (fun post => ?_) (fun post => ?_)
      · simp (disch := omega) only [s_X6_stoneOf, k_has_t v60 n2 hkn, s_X1_tellStone, vp_in_nI, tn_nI, L0_0, L0_1, L0_2, L0_3, L0_4, L0_5, L0_6, L0_7, L0_8, L0_9, L0_10, fo, show ((nI 0).toInt < 3 ∨ 10 < (nI 0).toInt) = True from sw_lo (by omega) (by omega), k_isOut_f k20 (e5.trans q5), k_isSold_f k20 (e7.trans q6), q_isOut_f k20 q5, q_isSold_f k20 (show o < 1000000 by omega) q3, e0, e1, e2, e3, e4, e5, e6, e7, e8, s1, s2, p1, p2, f41, f51, q3, q4, q5, q_nom, q_non, q_of5 k20, q_of6 k20, q_of7 k20, q_of8 k20, qg 0 (by omega), qg 4 (by omega), e10, z01, b_all, not_true_eq_false, not_false_eq_true, true_implies, false_implies, and_true, true_and, or_self, or_true, true_or, or_false, false_or]
      · simp (disch := omega) only [s_X7_stoneOf, hst, fin, vp_in_nI, tn_nI, L0_0, L0_1, L0_2, L0_3, L0_4, L0_5, L0_6, L0_7, L0_8, L0_9, L0_10, fo, show ((nI 0).toInt < 3 ∨ 10 < (nI 0).toInt) = True from sw_lo (by omega) (by omega), k_isOut_f k20 (e5.trans q5), k_isSold_f k20 (e7.trans q6), q_isOut_f k20 q5, q_isSold_f k20 (show o < 1000000 by omega) q3, e0, e1, e2, e3, e4, e5, e6, e7, e8, s1, s2, p1, p2, f41, f51, q3, q4, q5, q_nom, q_non, q_of5 k20, q_of6 k20, q_of7 k20, q_of8 k20, qg 0 (by omega), qg 4 (by omega), e10, z01, b_all, not_true_eq_false, not_false_eq_true, true_implies, false_implies, and_true, true_and, or_self, or_true, true_or, or_false, false_or]
    · refine Qz.mk (r := w 1 (14 + 10 * k + 1)) (fun post => ?_) (fun post => ?_)
      · simp (disch := omega) only [s_X6_stoneOf, k_has_t v60 n2 hkn, s_X1_tellStone, vp_in_nI, tn_nI, L1_0, L1_1, L1_2, L1_3, L1_4, L1_5, L1_6, L1_7, L1_8, L1_9, L1_10, fo, show ((nI 1).toInt < 3 ∨ 10 < (nI 1).toInt) = True from sw_lo (by omega) (by omega), k_isOut_f k20 (e5.trans q5), k_isSold_f k20 (e7.trans q6), q_isOut_f k20 q5, q_isSold_f k20 (show o < 1000000 by omega) q3, e0, e1, e2, e3, e4, e5, e6, e7, e8, s1, s2, p1, p2, f41, f51, q3, q4, q5, q_nom, q_non, q_of5 k20, q_of6 k20, q_of7 k20, q_of8 k20, qg 1 (by omega), qg 4 (by omega), e10, z01, b_all, not_true_eq_false, not_false_eq_true, true_implies, false_implies, and_true, true_and, or_self, or_true, true_or, or_false, false_or]
      · simp (disch := omega) only [s_X7_stoneOf, hst, fin, vp_in_nI, tn_nI, L1_0, L1_1, L1_2, L1_3, L1_4, L1_5, L1_6, L1_7, L1_8, L1_9, L1_10, fo, show ((nI 1).toInt < 3 ∨ 10 < (nI 1).toInt) = True from sw_lo (by omega) (by omega), k_isOut_f k20 (e5.trans q5), k_isSold_f k20 (e7.trans q6), q_isOut_f k20 q5, q_isSold_f k20 (show o < 1000000 by omega) q3, e0, e1, e2, e3, e4, e5, e6, e7, e8, s1, s2, p1, p2, f41, f51, q3, q4, q5, q_nom, q_non, q_of5 k20, q_of6 k20, q_of7 k20, q_of8 k20, qg 1 (by omega), qg 4 (by omega), e10, z01, b_all, not_true_eq_false, not_false_eq_true, true_implies, false_implies, and_true, true_and, or_self, or_true, true_or, or_false, false_or]
    · refine Qz.mk (r := w 1 (14 + 10 * k + 2)) (fun post => ?_) (fun post => ?_)
      · simp (disch := omega) only [s_X6_stoneOf, k_has_t v60 n2 hkn, s_X1_tellStone, vp_in_nI, tn_nI, L2_0, L2_1, L2_2, L2_3, L2_4, L2_5, L2_6, L2_7, L2_8, L2_9, L2_10, fo, show ((nI 2).toInt < 3 ∨ 10 < (nI 2).toInt) = True from sw_lo (by omega) (by omega), k_isOut_f k20 (e5.trans q5), k_isSold_f k20 (e7.trans q6), q_isOut_f k20 q5, q_isSold_f k20 (show o < 1000000 by omega) q3, e0, e1, e2, e3, e4, e5, e6, e7, e8, s1, s2, p1, p2, f41, f51, q3, q4, q5, q_nom, q_non, q_of5 k20, q_of6 k20, q_of7 k20, q_of8 k20, qg 2 (by omega), qg 4 (by omega), e10, z01, b_all, not_true_eq_false, not_false_eq_true, true_implies, false_implies, and_true, true_and, or_self, or_true, true_or, or_false, false_or]
      · simp (disch := omega) only [s_X7_stoneOf, hst, fin, vp_in_nI, tn_nI, L2_0, L2_1, L2_2, L2_3, L2_4, L2_5, L2_6, L2_7, L2_8, L2_9, L2_10, fo, show ((nI 2).toInt < 3 ∨ 10 < (nI 2).toInt) = True from sw_lo (by omega) (by omega), k_isOut_f k20 (e5.trans q5), k_isSold_f k20 (e7.trans q6), q_isOut_f k20 q5, q_isSold_f k20 (show o < 1000000 by omega) q3, e0, e1, e2, e3, e4, e5, e6, e7, e8, s1, s2, p1, p2, f41, f51, q3, q4, q5, q_nom, q_non, q_of5 k20, q_of6 k20, q_of7 k20, q_of8 k20, qg 2 (by omega), qg 4 (by omega), e10, z01, b_all, not_true_eq_false, not_false_eq_true, true_implies, false_implies, and_true, true_and, or_self, or_true, true_or, or_false, false_or]
    · refine Qz.mk (r := nI (svN (tn (w 1 (14 + 10 * k + 0))))) (fun post => ?_) (fun post => ?_)
      · simp (disch := omega) only [s_X6_stoneOf, k_has_t v60 n2 hkn, s_X1_tellStone, vp_in_nI, tn_nI, L3_0, L3_1, L3_2, L3_3, L3_4, L3_5, L3_6, L3_7, L3_8, L3_9, L3_10, fo, show ((nI 3).toInt < 3 ∨ 10 < (nI 3).toInt) = False from sw_in (by omega) (by omega) (by omega), k_isOut_f k20 (e5.trans q5), k_isSold_f k20 (e7.trans q6), q_isOut_f k20 q5, q_isSold_f k20 (show o < 1000000 by omega) q3, e0, e1, e2, e3, e4, e5, e6, e7, e8, s1, s2, p1, p2, f41, f51, q3, q4, q5, q_nom, q_non, q_of5 k20, q_of6 k20, q_of7 k20, q_of8 k20, qg 3 (by omega), qg 4 (by omega), e10, z01, b_all, not_true_eq_false, not_false_eq_true, true_implies, false_implies, and_true, true_and, or_self, or_true, true_or, or_false, false_or]
      · simp (disch := omega) only [s_X7_stoneOf, hst, fin, vp_in_nI, tn_nI, L3_0, L3_1, L3_2, L3_3, L3_4, L3_5, L3_6, L3_7, L3_8, L3_9, L3_10, fo, show ((nI 3).toInt < 3 ∨ 10 < (nI 3).toInt) = False from sw_in (by omega) (by omega) (by omega), k_isOut_f k20 (e5.trans q5), k_isSold_f k20 (e7.trans q6), q_isOut_f k20 q5, q_isSold_f k20 (show o < 1000000 by omega) q3, e0, e1, e2, e3, e4, e5, e6, e7, e8, s1, s2, p1, p2, f41, f51, q3, q4, q5, q_nom, q_non, q_of5 k20, q_of6 k20, q_of7 k20, q_of8 k20, qg 3 (by omega), qg 4 (by omega), e10, z01, b_all, not_true_eq_false, not_false_eq_true, true_implies, false_implies, and_true, true_and, or_self, or_true, true_or, or_false, false_or]
    · refine Qz.mk (r := nI o) (fun post => ?_) (fun post => ?_)
      · simp (disch := omega) only [s_X6_stoneOf, k_has_t v60 n2 hkn, s_X1_tellStone, vp_in_nI, tn_nI, L4_0, L4_1, L4_2, L4_3, L4_4, L4_5, L4_6, L4_7, L4_8, L4_9, L4_10, fo, show ((nI 4).toInt < 3 ∨ 10 < (nI 4).toInt) = False from sw_in (by omega) (by omega) (by omega), k_isOut_f k20 (e5.trans q5), k_isSold_f k20 (e7.trans q6), q_isOut_f k20 q5, q_isSold_f k20 (show o < 1000000 by omega) q3, e0, e1, e2, e3, e4, e5, e6, e7, e8, s1, s2, p1, p2, f41, f51, q3, q4, q5, q_nom, q_non, q_of5 k20, q_of6 k20, q_of7 k20, q_of8 k20, qg 3 (by omega), qg 4 (by omega), e10, z01, b_all, not_true_eq_false, not_false_eq_true, true_implies, false_implies, and_true, true_and, or_self, or_true, true_or, or_false, false_or]
      · simp (disch := omega) only [s_X7_stoneOf, hst, fin, vp_in_nI, tn_nI, L4_0, L4_1, L4_2, L4_3, L4_4, L4_5, L4_6, L4_7, L4_8, L4_9, L4_10, fo, show ((nI 4).toInt < 3 ∨ 10 < (nI 4).toInt) = False from sw_in (by omega) (by omega) (by omega), k_isOut_f k20 (e5.trans q5), k_isSold_f k20 (e7.trans q6), q_isOut_f k20 q5, q_isSold_f k20 (show o < 1000000 by omega) q3, e0, e1, e2, e3, e4, e5, e6, e7, e8, s1, s2, p1, p2, f41, f51, q3, q4, q5, q_nom, q_non, q_of5 k20, q_of6 k20, q_of7 k20, q_of8 k20, qg 3 (by omega), qg 4 (by omega), e10, z01, b_all, not_true_eq_false, not_false_eq_true, true_implies, false_implies, and_true, true_and, or_self, or_true, true_or, or_false, false_or]
    · refine Qz.mk (r := nI o) (fun post => ?_) (fun post => ?_)
      · simp (disch := omega) only [s_X6_stoneOf, k_has_t v60 n2 hkn, s_X1_tellStone, vp_in_nI, tn_nI, L5_0, L5_1, L5_2, L5_3, L5_4, L5_5, L5_6, L5_7, L5_8, L5_9, L5_10, fo, show ((nI 5).toInt < 3 ∨ 10 < (nI 5).toInt) = False from sw_in (by omega) (by omega) (by omega), k_isOut_f k20 (e5.trans q5), k_isSold_f k20 (e7.trans q6), q_isOut_f k20 q5, q_isSold_f k20 (show o < 1000000 by omega) q3, e0, e1, e2, e3, e4, e5, e6, e7, e8, s1, s2, p1, p2, f41, f51, q3, q4, q5, q_nom, q_non, q_of5 k20, q_of6 k20, q_of7 k20, q_of8 k20, qg 3 (by omega), qg 4 (by omega), e10, z01, b_all, not_true_eq_false, not_false_eq_true, true_implies, false_implies, and_true, true_and, or_self, or_true, true_or, or_false, false_or]
      · simp (disch := omega) only [s_X7_stoneOf, hst, fin, vp_in_nI, tn_nI, L5_0, L5_1, L5_2, L5_3, L5_4, L5_5, L5_6, L5_7, L5_8, L5_9, L5_10, fo, show ((nI 5).toInt < 3 ∨ 10 < (nI 5).toInt) = False from sw_in (by omega) (by omega) (by omega), k_isOut_f k20 (e5.trans q5), k_isSold_f k20 (e7.trans q6), q_isOut_f k20 q5, q_isSold_f k20 (show o < 1000000 by omega) q3, e0, e1, e2, e3, e4, e5, e6, e7, e8, s1, s2, p1, p2, f41, f51, q3, q4, q5, q_nom, q_non, q_of5 k20, q_of6 k20, q_of7 k20, q_of8 k20, qg 3 (by omega), qg 4 (by omega), e10, z01, b_all, not_true_eq_false, not_false_eq_true, true_implies, false_implies, and_true, true_and, or_self, or_true, true_or, or_false, false_or]
    · rcases pS_m1 hT hO with ⟨hx, -⟩ | ⟨px, hpx, hx, -⟩
      · refine Qz.mk (r := -10000004) (fun post => ?_) (fun post => ?_)
        · simp (disch := omega) only [s_X6_stoneOf, k_has_t v60 n2 hkn, s_X1_tellStone, vp_in_nI, tn_nI, L6_0, L6_1, L6_2, L6_3, L6_4, L6_5, L6_6, L6_7, L6_8, L6_9, L6_10, fo, show ((nI 6).toInt < 3 ∨ 10 < (nI 6).toInt) = False from sw_in (by omega) (by omega) (by omega), k_isOut_f k20 (e5.trans q5), k_isSold_f k20 (e7.trans q6), q_isOut_f k20 q5, q_isSold_f k20 (show o < 1000000 by omega) q3, e0, e1, e2, e3, e4, e5, e6, e7, e8, s1, s2, p1, p2, hx, f41, f51, q3, q4, q5, q_nom, q_non, q_of5 k20, q_of6 k20, q_of7 k20, q_of8 k20, qg 3 (by omega), qg 4 (by omega), e10, z01, b_all, not_true_eq_false, not_false_eq_true, true_implies, false_implies, and_true, true_and, or_self, or_true, true_or, or_false, false_or]
        · simp (disch := omega) only [s_X7_stoneOf, hst, fin, vp_in_nI, tn_nI, L6_0, L6_1, L6_2, L6_3, L6_4, L6_5, L6_6, L6_7, L6_8, L6_9, L6_10, fo, show ((nI 6).toInt < 3 ∨ 10 < (nI 6).toInt) = False from sw_in (by omega) (by omega) (by omega), k_isOut_f k20 (e5.trans q5), k_isSold_f k20 (e7.trans q6), q_isOut_f k20 q5, q_isSold_f k20 (show o < 1000000 by omega) q3, e0, e1, e2, e3, e4, e5, e6, e7, e8, s1, s2, p1, p2, hx, f41, f51, q3, q4, q5, q_nom, q_non, q_of5 k20, q_of6 k20, q_of7 k20, q_of8 k20, qg 3 (by omega), qg 4 (by omega), e10, z01, b_all, not_true_eq_false, not_false_eq_true, true_implies, false_implies, and_true, true_and, or_self, or_true, true_or, or_false, false_or]
      · have hxm : (nI px = -1) = False := eq_false (n_m1 (by omega))
        refine Qz.mk (r := nI px) (fun post => ?_) (fun post => ?_)
        · simp (disch := omega) only [s_X6_stoneOf, k_has_t v60 n2 hkn, s_X1_tellStone, vp_in_nI, tn_nI, L6_0, L6_1, L6_2, L6_3, L6_4, L6_5, L6_6, L6_7, L6_8, L6_9, L6_10, fo, show ((nI 6).toInt < 3 ∨ 10 < (nI 6).toInt) = False from sw_in (by omega) (by omega) (by omega), k_isOut_f k20 (e5.trans q5), k_isSold_f k20 (e7.trans q6), q_isOut_f k20 q5, q_isSold_f k20 (show o < 1000000 by omega) q3, e0, e1, e2, e3, e4, e5, e6, e7, e8, s1, s2, p1, p2, hx, hxm, f41, f51, q3, q4, q5, q_nom, q_non, q_of5 k20, q_of6 k20, q_of7 k20, q_of8 k20, qg 3 (by omega), qg 4 (by omega), e10, z01, b_all, not_true_eq_false, not_false_eq_true, true_implies, false_implies, and_true, true_and, or_self, or_true, true_or, or_false, false_or]
        · simp (disch := omega) only [s_X7_stoneOf, hst, fin, vp_in_nI, tn_nI, L6_0, L6_1, L6_2, L6_3, L6_4, L6_5, L6_6, L6_7, L6_8, L6_9, L6_10, fo, show ((nI 6).toInt < 3 ∨ 10 < (nI 6).toInt) = False from sw_in (by omega) (by omega) (by omega), k_isOut_f k20 (e5.trans q5), k_isSold_f k20 (e7.trans q6), q_isOut_f k20 q5, q_isSold_f k20 (show o < 1000000 by omega) q3, e0, e1, e2, e3, e4, e5, e6, e7, e8, s1, s2, p1, p2, hx, hxm, f41, f51, q3, q4, q5, q_nom, q_non, q_of5 k20, q_of6 k20, q_of7 k20, q_of8 k20, qg 3 (by omega), qg 4 (by omega), e10, z01, b_all, not_true_eq_false, not_false_eq_true, true_implies, false_implies, and_true, true_and, or_self, or_true, true_or, or_false, false_or]
    · refine Qz.mk (r := -10000004) (fun post => ?_) (fun post => ?_)
      · simp (disch := omega) only [s_X6_stoneOf, k_has_t v60 n2 hkn, s_X1_tellStone, vp_in_nI, tn_nI, L7_0, L7_1, L7_2, L7_3, L7_4, L7_5, L7_6, L7_7, L7_8, L7_9, L7_10, fo, show ((nI 7).toInt < 3 ∨ 10 < (nI 7).toInt) = False from sw_in (by omega) (by omega) (by omega), k_isOut_f k20 (e5.trans q5), k_isSold_f k20 (e7.trans q6), q_isOut_f k20 q5, q_isSold_f k20 (show o < 1000000 by omega) q3, e0, e1, e2, e3, e4, e5, e6, e7, e8, s1, s2, p1, p2, f41, f51, q3, q4, q5, q_nom, q_non, q_of5 k20, q_of6 k20, q_of7 k20, q_of8 k20, qg 3 (by omega), qg 4 (by omega), e10, z01, b_all, not_true_eq_false, not_false_eq_true, true_implies, false_implies, and_true, true_and, or_self, or_true, true_or, or_false, false_or]
      · simp (disch := omega) only [s_X7_stoneOf, hst, fin, vp_in_nI, tn_nI, L7_0, L7_1, L7_2, L7_3, L7_4, L7_5, L7_6, L7_7, L7_8, L7_9, L7_10, fo, show ((nI 7).toInt < 3 ∨ 10 < (nI 7).toInt) = False from sw_in (by omega) (by omega) (by omega), k_isOut_f k20 (e5.trans q5), k_isSold_f k20 (e7.trans q6), q_isOut_f k20 q5, q_isSold_f k20 (show o < 1000000 by omega) q3, e0, e1, e2, e3, e4, e5, e6, e7, e8, s1, s2, p1, p2, f41, f51, q3, q4, q5, q_nom, q_non, q_of5 k20, q_of6 k20, q_of7 k20, q_of8 k20, qg 3 (by omega), qg 4 (by omega), e10, z01, b_all, not_true_eq_false, not_false_eq_true, true_implies, false_implies, and_true, true_and, or_self, or_true, true_or, or_false, false_or]
    · refine Qz.mk (r := -10000004) (fun post => ?_) (fun post => ?_)
      · simp (disch := omega) only [s_X6_stoneOf, k_has_t v60 n2 hkn, s_X1_tellStone, vp_in_nI, tn_nI, L8_0, L8_1, L8_2, L8_3, L8_4, L8_5, L8_6, L8_7, L8_8, L8_9, L8_10, fo, show ((nI 8).toInt < 3 ∨ 10 < (nI 8).toInt) = False from sw_in (by omega) (by omega) (by omega), k_isOut_f k20 (e5.trans q5), k_isSold_f k20 (e7.trans q6), q_isOut_f k20 q5, q_isSold_f k20 (show o < 1000000 by omega) q3, e0, e1, e2, e3, e4, e5, e6, e7, e8, s1, s2, p1, p2, f41, f51, q3, q4, q5, q_nom, q_non, q_of5 k20, q_of6 k20, q_of7 k20, q_of8 k20, qg 3 (by omega), qg 4 (by omega), e10, z01, b_all, not_true_eq_false, not_false_eq_true, true_implies, false_implies, and_true, true_and, or_self, or_true, true_or, or_false, false_or]
      · simp (disch := omega) only [s_X7_stoneOf, hst, fin, vp_in_nI, tn_nI, L8_0, L8_1, L8_2, L8_3, L8_4, L8_5, L8_6, L8_7, L8_8, L8_9, L8_10, fo, show ((nI 8).toInt < 3 ∨ 10 < (nI 8).toInt) = False from sw_in (by omega) (by omega) (by omega), k_isOut_f k20 (e5.trans q5), k_isSold_f k20 (e7.trans q6), q_isOut_f k20 q5, q_isSold_f k20 (show o < 1000000 by omega) q3, e0, e1, e2, e3, e4, e5, e6, e7, e8, s1, s2, p1, p2, f41, f51, q3, q4, q5, q_nom, q_non, q_of5 k20, q_of6 k20, q_of7 k20, q_of8 k20, qg 3 (by omega), qg 4 (by omega), e10, z01, b_all, not_true_eq_false, not_false_eq_true, true_implies, false_implies, and_true, true_and, or_self, or_true, true_or, or_false, false_or]
    · refine Qz.mk (r := -10000004) (fun post => ?_) (fun post => ?_)
      · simp (disch := omega) only [s_X6_stoneOf, k_has_t v60 n2 hkn, s_X1_tellStone, vp_in_nI, tn_nI, L9_0, L9_1, L9_2, L9_3, L9_4, L9_5, L9_6, L9_7, L9_8, L9_9, L9_10, fo, show ((nI 9).toInt < 3 ∨ 10 < (nI 9).toInt) = False from sw_in (by omega) (by omega) (by omega), k_isOut_f k20 (e5.trans q5), k_isSold_f k20 (e7.trans q6), q_isOut_f k20 q5, q_isSold_f k20 (show o < 1000000 by omega) q3, e0, e1, e2, e3, e4, e5, e6, e7, e8, s1, s2, p1, p2, f41, f51, q3, q4, q5, q_nom, q_non, q_of5 k20, q_of6 k20, q_of7 k20, q_of8 k20, qg 3 (by omega), qg 4 (by omega), e10, z01, b_all, not_true_eq_false, not_false_eq_true, true_implies, false_implies, and_true, true_and, or_self, or_true, true_or, or_false, false_or]
      · simp (disch := omega) only [s_X7_stoneOf, hst, fin, vp_in_nI, tn_nI, L9_0, L9_1, L9_2, L9_3, L9_4, L9_5, L9_6, L9_7, L9_8, L9_9, L9_10, fo, show ((nI 9).toInt < 3 ∨ 10 < (nI 9).toInt) = False from sw_in (by omega) (by omega) (by omega), k_isOut_f k20 (e5.trans q5), k_isSold_f k20 (e7.trans q6), q_isOut_f k20 q5, q_isSold_f k20 (show o < 1000000 by omega) q3, e0, e1, e2, e3, e4, e5, e6, e7, e8, s1, s2, p1, p2, f41, f51, q3, q4, q5, q_nom, q_non, q_of5 k20, q_of6 k20, q_of7 k20, q_of8 k20, qg 3 (by omega), qg 4 (by omega), e10, z01, b_all, not_true_eq_false, not_false_eq_true, true_implies, false_implies, and_true, true_and, or_self, or_true, true_or, or_false, false_or]
    · refine Qz.mk (r := w 1 (14 + 10 * k + 8)) (fun post => ?_) (fun post => ?_)
      · simp (disch := omega) only [s_X6_stoneOf, k_has_t v60 n2 hkn, s_X1_tellStone, vp_in_nI, tn_nI, L10_0, L10_1, L10_2, L10_3, L10_4, L10_5, L10_6, L10_7, L10_8, L10_9, L10_10, fo, show ((nI 10).toInt < 3 ∨ 10 < (nI 10).toInt) = False from sw_in (by omega) (by omega) (by omega), k_isOut_f k20 (e5.trans q5), k_isSold_f k20 (e7.trans q6), q_isOut_f k20 q5, q_isSold_f k20 (show o < 1000000 by omega) q3, e0, e1, e2, e3, e4, e5, e6, e7, e8, s1, s2, p1, p2, f41, f51, q3, q4, q5, q_nom, q_non, q_of5 k20, q_of6 k20, q_of7 k20, q_of8 k20, qg 3 (by omega), qg 4 (by omega), e10, z01, b_all, not_true_eq_false, not_false_eq_true, true_implies, false_implies, and_true, true_and, or_self, or_true, true_or, or_false, false_or]
      · simp (disch := omega) only [s_X7_stoneOf, hst, fin, vp_in_nI, tn_nI, L10_0, L10_1, L10_2, L10_3, L10_4, L10_5, L10_6, L10_7, L10_8, L10_9, L10_10, fo, show ((nI 10).toInt < 3 ∨ 10 < (nI 10).toInt) = False from sw_in (by omega) (by omega) (by omega), k_isOut_f k20 (e5.trans q5), k_isSold_f k20 (e7.trans q6), q_isOut_f k20 q5, q_isSold_f k20 (show o < 1000000 by omega) q3, e0, e1, e2, e3, e4, e5, e6, e7, e8, s1, s2, p1, p2, f41, f51, q3, q4, q5, q_nom, q_non, q_of5 k20, q_of6 k20, q_of7 k20, q_of8 k20, qg 3 (by omega), qg 4 (by omega), e10, z01, b_all, not_true_eq_false, not_false_eq_true, true_implies, false_implies, and_true, true_and, or_self, or_true, true_or, or_false, false_or]
  · rcases hcs with rfl | rfl | rfl | rfl | rfl | rfl | rfl | rfl | rfl | rfl | rfl
    · refine Qz.mk (r := w 1 (14 + 10 * k + 0)) (fun post => ?_) (fun post => ?_)
      · simp (disch := omega) only [s_X6_stoneOf, k_has_t v60 n2 hkn, s_X1_tellStone, vp_in_nI, tn_nI, L0_0, L0_1, L0_2, L0_3, L0_4, L0_5, L0_6, L0_7, L0_8, L0_9, L0_10, fo, show ((nI 0).toInt < 3 ∨ 10 < (nI 0).toInt) = True from sw_lo (by omega) (by omega), k_isOut_f k20 (e5.trans q6), k_isSold_t k20 (nz_of (e7.trans q7) (by omega) (by omega)), q_isOut_f k20 q6, q_isSold_t k20 q4, e0, e1, e2, e3, e4, e5, e6, e7, e8, s1, s2, p1, p2, f41, f51, q4, q5, q6, q_nom, q_non, q_of5 k20, q_of6 k20, q_of7 k20, q_of8 k20, qg 0 (by omega), qg 4 (by omega), e10, z01, b_all, not_true_eq_false, not_false_eq_true, true_implies, false_implies, and_true, true_and, or_self, or_true, true_or, or_false, false_or]
      · simp (disch := omega) only [s_X7_stoneOf, hst, fin, vp_in_nI, tn_nI, L0_0, L0_1, L0_2, L0_3, L0_4, L0_5, L0_6, L0_7, L0_8, L0_9, L0_10, fo, show ((nI 0).toInt < 3 ∨ 10 < (nI 0).toInt) = True from sw_lo (by omega) (by omega), k_isOut_f k20 (e5.trans q6), k_isSold_t k20 (nz_of (e7.trans q7) (by omega) (by omega)), q_isOut_f k20 q6, q_isSold_t k20 q4, e0, e1, e2, e3, e4, e5, e6, e7, e8, s1, s2, p1, p2, f41, f51, q4, q5, q6, q_nom, q_non, q_of5 k20, q_of6 k20, q_of7 k20, q_of8 k20, qg 0 (by omega), qg 4 (by omega), e10, z01, b_all, not_true_eq_false, not_false_eq_true, true_implies, false_implies, and_true, true_and, or_self, or_true, true_or, or_false, false_or]
    · refine Qz.mk (r := w 1 (14 + 10 * k + 1)) (fun post => ?_) (fun post => ?_)
      · simp (disch := omega) only [s_X6_stoneOf, k_has_t v60 n2 hkn, s_X1_tellStone, vp_in_nI, tn_nI, L1_0, L1_1, L1_2, L1_3, L1_4, L1_5, L1_6, L1_7, L1_8, L1_9, L1_10, fo, show ((nI 1).toInt < 3 ∨ 10 < (nI 1).toInt) = True from sw_lo (by omega) (by omega), k_isOut_f k20 (e5.trans q6), k_isSold_t k20 (nz_of (e7.trans q7) (by omega) (by omega)), q_isOut_f k20 q6, q_isSold_t k20 q4, e0, e1, e2, e3, e4, e5, e6, e7, e8, s1, s2, p1, p2, f41, f51, q4, q5, q6, q_nom, q_non, q_of5 k20, q_of6 k20, q_of7 k20, q_of8 k20, qg 1 (by omega), qg 4 (by omega), e10, z01, b_all, not_true_eq_false, not_false_eq_true, true_implies, false_implies, and_true, true_and, or_self, or_true, true_or, or_false, false_or]
      · simp (disch := omega) only [s_X7_stoneOf, hst, fin, vp_in_nI, tn_nI, L1_0, L1_1, L1_2, L1_3, L1_4, L1_5, L1_6, L1_7, L1_8, L1_9, L1_10, fo, show ((nI 1).toInt < 3 ∨ 10 < (nI 1).toInt) = True from sw_lo (by omega) (by omega), k_isOut_f k20 (e5.trans q6), k_isSold_t k20 (nz_of (e7.trans q7) (by omega) (by omega)), q_isOut_f k20 q6, q_isSold_t k20 q4, e0, e1, e2, e3, e4, e5, e6, e7, e8, s1, s2, p1, p2, f41, f51, q4, q5, q6, q_nom, q_non, q_of5 k20, q_of6 k20, q_of7 k20, q_of8 k20, qg 1 (by omega), qg 4 (by omega), e10, z01, b_all, not_true_eq_false, not_false_eq_true, true_implies, false_implies, and_true, true_and, or_self, or_true, true_or, or_false, false_or]
    · refine Qz.mk (r := w 1 (14 + 10 * k + 2)) (fun post => ?_) (fun post => ?_)
      · simp (disch := omega) only [s_X6_stoneOf, k_has_t v60 n2 hkn, s_X1_tellStone, vp_in_nI, tn_nI, L2_0, L2_1, L2_2, L2_3, L2_4, L2_5, L2_6, L2_7, L2_8, L2_9, L2_10, fo, show ((nI 2).toInt < 3 ∨ 10 < (nI 2).toInt) = True from sw_lo (by omega) (by omega), k_isOut_f k20 (e5.trans q6), k_isSold_t k20 (nz_of (e7.trans q7) (by omega) (by omega)), q_isOut_f k20 q6, q_isSold_t k20 q4, e0, e1, e2, e3, e4, e5, e6, e7, e8, s1, s2, p1, p2, f41, f51, q4, q5, q6, q_nom, q_non, q_of5 k20, q_of6 k20, q_of7 k20, q_of8 k20, qg 2 (by omega), qg 4 (by omega), e10, z01, b_all, not_true_eq_false, not_false_eq_true, true_implies, false_implies, and_true, true_and, or_self, or_true, true_or, or_false, false_or]
      · simp (disch := omega) only [s_X7_stoneOf, hst, fin, vp_in_nI, tn_nI, L2_0, L2_1, L2_2, L2_3, L2_4, L2_5, L2_6, L2_7, L2_8, L2_9, L2_10, fo, show ((nI 2).toInt < 3 ∨ 10 < (nI 2).toInt) = True from sw_lo (by omega) (by omega), k_isOut_f k20 (e5.trans q6), k_isSold_t k20 (nz_of (e7.trans q7) (by omega) (by omega)), q_isOut_f k20 q6, q_isSold_t k20 q4, e0, e1, e2, e3, e4, e5, e6, e7, e8, s1, s2, p1, p2, f41, f51, q4, q5, q6, q_nom, q_non, q_of5 k20, q_of6 k20, q_of7 k20, q_of8 k20, qg 2 (by omega), qg 4 (by omega), e10, z01, b_all, not_true_eq_false, not_false_eq_true, true_implies, false_implies, and_true, true_and, or_self, or_true, true_or, or_false, false_or]
    · refine Qz.mk (r := nI (svN (tn (w 1 (14 + 10 * k + 0))))) (fun post => ?_) (fun post => ?_)
      · simp (disch := omega) only [s_X6_stoneOf, k_has_t v60 n2 hkn, s_X1_tellStone, vp_in_nI, tn_nI, L3_0, L3_1, L3_2, L3_3, L3_4, L3_5, L3_6, L3_7, L3_8, L3_9, L3_10, fo, show ((nI 3).toInt < 3 ∨ 10 < (nI 3).toInt) = False from sw_in (by omega) (by omega) (by omega), k_isOut_f k20 (e5.trans q6), k_isSold_t k20 (nz_of (e7.trans q7) (by omega) (by omega)), q_isOut_f k20 q6, q_isSold_t k20 q4, e0, e1, e2, e3, e4, e5, e6, e7, e8, s1, s2, p1, p2, f41, f51, q4, q5, q6, q_nom, q_non, q_of5 k20, q_of6 k20, q_of7 k20, q_of8 k20, qg 3 (by omega), qg 4 (by omega), e10, z01, b_all, not_true_eq_false, not_false_eq_true, true_implies, false_implies, and_true, true_and, or_self, or_true, true_or, or_false, false_or]
      · simp (disch := omega) only [s_X7_stoneOf, hst, fin, vp_in_nI, tn_nI, L3_0, L3_1, L3_2, L3_3, L3_4, L3_5, L3_6, L3_7, L3_8, L3_9, L3_10, fo, show ((nI 3).toInt < 3 ∨ 10 < (nI 3).toInt) = False from sw_in (by omega) (by omega) (by omega), k_isOut_f k20 (e5.trans q6), k_isSold_t k20 (nz_of (e7.trans q7) (by omega) (by omega)), q_isOut_f k20 q6, q_isSold_t k20 q4, e0, e1, e2, e3, e4, e5, e6, e7, e8, s1, s2, p1, p2, f41, f51, q4, q5, q6, q_nom, q_non, q_of5 k20, q_of6 k20, q_of7 k20, q_of8 k20, qg 3 (by omega), qg 4 (by omega), e10, z01, b_all, not_true_eq_false, not_false_eq_true, true_implies, false_implies, and_true, true_and, or_self, or_true, true_or, or_false, false_or]
    · refine Qz.mk (r := -10000004) (fun post => ?_) (fun post => ?_)
      · simp (disch := omega) only [s_X6_stoneOf, k_has_t v60 n2 hkn, s_X1_tellStone, vp_in_nI, tn_nI, L4_0, L4_1, L4_2, L4_3, L4_4, L4_5, L4_6, L4_7, L4_8, L4_9, L4_10, fo, show ((nI 4).toInt < 3 ∨ 10 < (nI 4).toInt) = False from sw_in (by omega) (by omega) (by omega), k_isOut_f k20 (e5.trans q6), k_isSold_t k20 (nz_of (e7.trans q7) (by omega) (by omega)), q_isOut_f k20 q6, q_isSold_t k20 q4, e0, e1, e2, e3, e4, e5, e6, e7, e8, s1, s2, p1, p2, f41, f51, q4, q5, q6, q_nom, q_non, q_of5 k20, q_of6 k20, q_of7 k20, q_of8 k20, qg 3 (by omega), qg 4 (by omega), e10, z01, b_all, not_true_eq_false, not_false_eq_true, true_implies, false_implies, and_true, true_and, or_self, or_true, true_or, or_false, false_or]
      · simp (disch := omega) only [s_X7_stoneOf, hst, fin, vp_in_nI, tn_nI, L4_0, L4_1, L4_2, L4_3, L4_4, L4_5, L4_6, L4_7, L4_8, L4_9, L4_10, fo, show ((nI 4).toInt < 3 ∨ 10 < (nI 4).toInt) = False from sw_in (by omega) (by omega) (by omega), k_isOut_f k20 (e5.trans q6), k_isSold_t k20 (nz_of (e7.trans q7) (by omega) (by omega)), q_isOut_f k20 q6, q_isSold_t k20 q4, e0, e1, e2, e3, e4, e5, e6, e7, e8, s1, s2, p1, p2, f41, f51, q4, q5, q6, q_nom, q_non, q_of5 k20, q_of6 k20, q_of7 k20, q_of8 k20, qg 3 (by omega), qg 4 (by omega), e10, z01, b_all, not_true_eq_false, not_false_eq_true, true_implies, false_implies, and_true, true_and, or_self, or_true, true_or, or_false, false_or]
    · refine Qz.mk (r := -10000004) (fun post => ?_) (fun post => ?_)
      · simp (disch := omega) only [s_X6_stoneOf, k_has_t v60 n2 hkn, s_X1_tellStone, vp_in_nI, tn_nI, L5_0, L5_1, L5_2, L5_3, L5_4, L5_5, L5_6, L5_7, L5_8, L5_9, L5_10, fo, show ((nI 5).toInt < 3 ∨ 10 < (nI 5).toInt) = False from sw_in (by omega) (by omega) (by omega), k_isOut_f k20 (e5.trans q6), k_isSold_t k20 (nz_of (e7.trans q7) (by omega) (by omega)), q_isOut_f k20 q6, q_isSold_t k20 q4, e0, e1, e2, e3, e4, e5, e6, e7, e8, s1, s2, p1, p2, f41, f51, q4, q5, q6, q_nom, q_non, q_of5 k20, q_of6 k20, q_of7 k20, q_of8 k20, qg 3 (by omega), qg 4 (by omega), e10, z01, b_all, not_true_eq_false, not_false_eq_true, true_implies, false_implies, and_true, true_and, or_self, or_true, true_or, or_false, false_or]
      · simp (disch := omega) only [s_X7_stoneOf, hst, fin, vp_in_nI, tn_nI, L5_0, L5_1, L5_2, L5_3, L5_4, L5_5, L5_6, L5_7, L5_8, L5_9, L5_10, fo, show ((nI 5).toInt < 3 ∨ 10 < (nI 5).toInt) = False from sw_in (by omega) (by omega) (by omega), k_isOut_f k20 (e5.trans q6), k_isSold_t k20 (nz_of (e7.trans q7) (by omega) (by omega)), q_isOut_f k20 q6, q_isSold_t k20 q4, e0, e1, e2, e3, e4, e5, e6, e7, e8, s1, s2, p1, p2, f41, f51, q4, q5, q6, q_nom, q_non, q_of5 k20, q_of6 k20, q_of7 k20, q_of8 k20, qg 3 (by omega), qg 4 (by omega), e10, z01, b_all, not_true_eq_false, not_false_eq_true, true_implies, false_implies, and_true, true_and, or_self, or_true, true_or, or_false, false_or]
    · rcases pS_m1 hT hO with ⟨hx, -⟩ | ⟨px, hpx, hx, -⟩
      · refine Qz.mk (r := -10000004) (fun post => ?_) (fun post => ?_)
        · simp (disch := omega) only [s_X6_stoneOf, k_has_t v60 n2 hkn, s_X1_tellStone, vp_in_nI, tn_nI, L6_0, L6_1, L6_2, L6_3, L6_4, L6_5, L6_6, L6_7, L6_8, L6_9, L6_10, fo, show ((nI 6).toInt < 3 ∨ 10 < (nI 6).toInt) = False from sw_in (by omega) (by omega) (by omega), k_isOut_f k20 (e5.trans q6), k_isSold_t k20 (nz_of (e7.trans q7) (by omega) (by omega)), q_isOut_f k20 q6, q_isSold_t k20 q4, e0, e1, e2, e3, e4, e5, e6, e7, e8, s1, s2, p1, p2, hx, f41, f51, q4, q5, q6, q_nom, q_non, q_of5 k20, q_of6 k20, q_of7 k20, q_of8 k20, qg 3 (by omega), qg 4 (by omega), e10, z01, b_all, not_true_eq_false, not_false_eq_true, true_implies, false_implies, and_true, true_and, or_self, or_true, true_or, or_false, false_or]
        · simp (disch := omega) only [s_X7_stoneOf, hst, fin, vp_in_nI, tn_nI, L6_0, L6_1, L6_2, L6_3, L6_4, L6_5, L6_6, L6_7, L6_8, L6_9, L6_10, fo, show ((nI 6).toInt < 3 ∨ 10 < (nI 6).toInt) = False from sw_in (by omega) (by omega) (by omega), k_isOut_f k20 (e5.trans q6), k_isSold_t k20 (nz_of (e7.trans q7) (by omega) (by omega)), q_isOut_f k20 q6, q_isSold_t k20 q4, e0, e1, e2, e3, e4, e5, e6, e7, e8, s1, s2, p1, p2, hx, f41, f51, q4, q5, q6, q_nom, q_non, q_of5 k20, q_of6 k20, q_of7 k20, q_of8 k20, qg 3 (by omega), qg 4 (by omega), e10, z01, b_all, not_true_eq_false, not_false_eq_true, true_implies, false_implies, and_true, true_and, or_self, or_true, true_or, or_false, false_or]
      · have hxm : (nI px = -1) = False := eq_false (n_m1 (by omega))
        refine Qz.mk (r := nI px) (fun post => ?_) (fun post => ?_)
        · simp (disch := omega) only [s_X6_stoneOf, k_has_t v60 n2 hkn, s_X1_tellStone, vp_in_nI, tn_nI, L6_0, L6_1, L6_2, L6_3, L6_4, L6_5, L6_6, L6_7, L6_8, L6_9, L6_10, fo, show ((nI 6).toInt < 3 ∨ 10 < (nI 6).toInt) = False from sw_in (by omega) (by omega) (by omega), k_isOut_f k20 (e5.trans q6), k_isSold_t k20 (nz_of (e7.trans q7) (by omega) (by omega)), q_isOut_f k20 q6, q_isSold_t k20 q4, e0, e1, e2, e3, e4, e5, e6, e7, e8, s1, s2, p1, p2, hx, hxm, f41, f51, q4, q5, q6, q_nom, q_non, q_of5 k20, q_of6 k20, q_of7 k20, q_of8 k20, qg 3 (by omega), qg 4 (by omega), e10, z01, b_all, not_true_eq_false, not_false_eq_true, true_implies, false_implies, and_true, true_and, or_self, or_true, true_or, or_false, false_or]
        · simp (disch := omega) only [s_X7_stoneOf, hst, fin, vp_in_nI, tn_nI, L6_0, L6_1, L6_2, L6_3, L6_4, L6_5, L6_6, L6_7, L6_8, L6_9, L6_10, fo, show ((nI 6).toInt < 3 ∨ 10 < (nI 6).toInt) = False from sw_in (by omega) (by omega) (by omega), k_isOut_f k20 (e5.trans q6), k_isSold_t k20 (nz_of (e7.trans q7) (by omega) (by omega)), q_isOut_f k20 q6, q_isSold_t k20 q4, e0, e1, e2, e3, e4, e5, e6, e7, e8, s1, s2, p1, p2, hx, hxm, f41, f51, q4, q5, q6, q_nom, q_non, q_of5 k20, q_of6 k20, q_of7 k20, q_of8 k20, qg 3 (by omega), qg 4 (by omega), e10, z01, b_all, not_true_eq_false, not_false_eq_true, true_implies, false_implies, and_true, true_and, or_self, or_true, true_or, or_false, false_or]
    · refine Qz.mk (r := -10000004) (fun post => ?_) (fun post => ?_)
      · simp (disch := omega) only [s_X6_stoneOf, k_has_t v60 n2 hkn, s_X1_tellStone, vp_in_nI, tn_nI, L7_0, L7_1, L7_2, L7_3, L7_4, L7_5, L7_6, L7_7, L7_8, L7_9, L7_10, fo, show ((nI 7).toInt < 3 ∨ 10 < (nI 7).toInt) = False from sw_in (by omega) (by omega) (by omega), k_isOut_f k20 (e5.trans q6), k_isSold_t k20 (nz_of (e7.trans q7) (by omega) (by omega)), q_isOut_f k20 q6, q_isSold_t k20 q4, e0, e1, e2, e3, e4, e5, e6, e7, e8, s1, s2, p1, p2, f41, f51, q4, q5, q6, q_nom, q_non, q_of5 k20, q_of6 k20, q_of7 k20, q_of8 k20, qg 3 (by omega), qg 4 (by omega), e10, z01, b_all, not_true_eq_false, not_false_eq_true, true_implies, false_implies, and_true, true_and, or_self, or_true, true_or, or_false, false_or]
      · simp (disch := omega) only [s_X7_stoneOf, hst, fin, vp_in_nI, tn_nI, L7_0, L7_1, L7_2, L7_3, L7_4, L7_5, L7_6, L7_7, L7_8, L7_9, L7_10, fo, show ((nI 7).toInt < 3 ∨ 10 < (nI 7).toInt) = False from sw_in (by omega) (by omega) (by omega), k_isOut_f k20 (e5.trans q6), k_isSold_t k20 (nz_of (e7.trans q7) (by omega) (by omega)), q_isOut_f k20 q6, q_isSold_t k20 q4, e0, e1, e2, e3, e4, e5, e6, e7, e8, s1, s2, p1, p2, f41, f51, q4, q5, q6, q_nom, q_non, q_of5 k20, q_of6 k20, q_of7 k20, q_of8 k20, qg 3 (by omega), qg 4 (by omega), e10, z01, b_all, not_true_eq_false, not_false_eq_true, true_implies, false_implies, and_true, true_and, or_self, or_true, true_or, or_false, false_or]
    · refine Qz.mk (r := -10000004) (fun post => ?_) (fun post => ?_)
      · simp (disch := omega) only [s_X6_stoneOf, k_has_t v60 n2 hkn, s_X1_tellStone, vp_in_nI, tn_nI, L8_0, L8_1, L8_2, L8_3, L8_4, L8_5, L8_6, L8_7, L8_8, L8_9, L8_10, fo, show ((nI 8).toInt < 3 ∨ 10 < (nI 8).toInt) = False from sw_in (by omega) (by omega) (by omega), k_isOut_f k20 (e5.trans q6), k_isSold_t k20 (nz_of (e7.trans q7) (by omega) (by omega)), q_isOut_f k20 q6, q_isSold_t k20 q4, e0, e1, e2, e3, e4, e5, e6, e7, e8, s1, s2, p1, p2, f41, f51, q4, q5, q6, q_nom, q_non, q_of5 k20, q_of6 k20, q_of7 k20, q_of8 k20, qg 3 (by omega), qg 4 (by omega), e10, z01, b_all, not_true_eq_false, not_false_eq_true, true_implies, false_implies, and_true, true_and, or_self, or_true, true_or, or_false, false_or]
      · simp (disch := omega) only [s_X7_stoneOf, hst, fin, vp_in_nI, tn_nI, L8_0, L8_1, L8_2, L8_3, L8_4, L8_5, L8_6, L8_7, L8_8, L8_9, L8_10, fo, show ((nI 8).toInt < 3 ∨ 10 < (nI 8).toInt) = False from sw_in (by omega) (by omega) (by omega), k_isOut_f k20 (e5.trans q6), k_isSold_t k20 (nz_of (e7.trans q7) (by omega) (by omega)), q_isOut_f k20 q6, q_isSold_t k20 q4, e0, e1, e2, e3, e4, e5, e6, e7, e8, s1, s2, p1, p2, f41, f51, q4, q5, q6, q_nom, q_non, q_of5 k20, q_of6 k20, q_of7 k20, q_of8 k20, qg 3 (by omega), qg 4 (by omega), e10, z01, b_all, not_true_eq_false, not_false_eq_true, true_implies, false_implies, and_true, true_and, or_self, or_true, true_or, or_false, false_or]
    · refine Qz.mk (r := w 1 (14 + 10 * k + 7)) (fun post => ?_) (fun post => ?_)
      · simp (disch := omega) only [s_X6_stoneOf, k_has_t v60 n2 hkn, s_X1_tellStone, vp_in_nI, tn_nI, L9_0, L9_1, L9_2, L9_3, L9_4, L9_5, L9_6, L9_7, L9_8, L9_9, L9_10, fo, show ((nI 9).toInt < 3 ∨ 10 < (nI 9).toInt) = False from sw_in (by omega) (by omega) (by omega), k_isOut_f k20 (e5.trans q6), k_isSold_t k20 (nz_of (e7.trans q7) (by omega) (by omega)), q_isOut_f k20 q6, q_isSold_t k20 q4, e0, e1, e2, e3, e4, e5, e6, e7, e8, s1, s2, p1, p2, f41, f51, q4, q5, q6, q_nom, q_non, q_of5 k20, q_of6 k20, q_of7 k20, q_of8 k20, qg 3 (by omega), qg 4 (by omega), e10, z01, b_all, not_true_eq_false, not_false_eq_true, true_implies, false_implies, and_true, true_and, or_self, or_true, true_or, or_false, false_or]
      · simp (disch := omega) only [s_X7_stoneOf, hst, fin, vp_in_nI, tn_nI, L9_0, L9_1, L9_2, L9_3, L9_4, L9_5, L9_6, L9_7, L9_8, L9_9, L9_10, fo, show ((nI 9).toInt < 3 ∨ 10 < (nI 9).toInt) = False from sw_in (by omega) (by omega) (by omega), k_isOut_f k20 (e5.trans q6), k_isSold_t k20 (nz_of (e7.trans q7) (by omega) (by omega)), q_isOut_f k20 q6, q_isSold_t k20 q4, e0, e1, e2, e3, e4, e5, e6, e7, e8, s1, s2, p1, p2, f41, f51, q4, q5, q6, q_nom, q_non, q_of5 k20, q_of6 k20, q_of7 k20, q_of8 k20, qg 3 (by omega), qg 4 (by omega), e10, z01, b_all, not_true_eq_false, not_false_eq_true, true_implies, false_implies, and_true, true_and, or_self, or_true, true_or, or_false, false_or]
    · refine Qz.mk (r := w 1 (14 + 10 * k + 8)) (fun post => ?_) (fun post => ?_)
      · simp (disch := omega) only [s_X6_stoneOf, k_has_t v60 n2 hkn, s_X1_tellStone, vp_in_nI, tn_nI, L10_0, L10_1, L10_2, L10_3, L10_4, L10_5, L10_6, L10_7, L10_8, L10_9, L10_10, fo, show ((nI 10).toInt < 3 ∨ 10 < (nI 10).toInt) = False from sw_in (by omega) (by omega) (by omega), k_isOut_f k20 (e5.trans q6), k_isSold_t k20 (nz_of (e7.trans q7) (by omega) (by omega)), q_isOut_f k20 q6, q_isSold_t k20 q4, e0, e1, e2, e3, e4, e5, e6, e7, e8, s1, s2, p1, p2, f41, f51, q4, q5, q6, q_nom, q_non, q_of5 k20, q_of6 k20, q_of7 k20, q_of8 k20, qg 3 (by omega), qg 4 (by omega), e10, z01, b_all, not_true_eq_false, not_false_eq_true, true_implies, false_implies, and_true, true_and, or_self, or_true, true_or, or_false, false_or]
      · simp (disch := omega) only [s_X7_stoneOf, hst, fin, vp_in_nI, tn_nI, L10_0, L10_1, L10_2, L10_3, L10_4, L10_5, L10_6, L10_7, L10_8, L10_9, L10_10, fo, show ((nI 10).toInt < 3 ∨ 10 < (nI 10).toInt) = False from sw_in (by omega) (by omega) (by omega), k_isOut_f k20 (e5.trans q6), k_isSold_t k20 (nz_of (e7.trans q7) (by omega) (by omega)), q_isOut_f k20 q6, q_isSold_t k20 q4, e0, e1, e2, e3, e4, e5, e6, e7, e8, s1, s2, p1, p2, f41, f51, q4, q5, q6, q_nom, q_non, q_of5 k20, q_of6 k20, q_of7 k20, q_of8 k20, qg 3 (by omega), qg 4 (by omega), e10, z01, b_all, not_true_eq_false, not_false_eq_true, true_implies, false_implies, and_true, true_and, or_self, or_true, true_or, or_false, false_or]
  · rcases hcs with rfl | rfl | rfl | rfl | rfl | rfl | rfl | rfl | rfl | rfl | rfl
    · refine Qz.mk (r := w 1 (14 + 10 * k + 0)) (fun post => ?_) (fun post => ?_)
      · simp (disch := omega) only [s_X6_stoneOf, k_has_t v60 n2 hkn, s_X1_tellStone, vp_in_nI, tn_nI, L0_0, L0_1, L0_2, L0_3, L0_4, L0_5, L0_6, L0_7, L0_8, L0_9, L0_10, fo, show ((nI 0).toInt < 3 ∨ 10 < (nI 0).toInt) = True from sw_lo (by omega) (by omega), k_isOut_t k20 (show m < 1000000 by omega) (e5.trans g9), k_isSold_f k20 (e7.trans g11), q_isOut_t k20 (show m < 1000000 by omega) g9, q_isSold_f k20 (show o < 1000000 by omega) g7, e0, e1, e2, e3, e4, e5, e6, e7, e8, s1, s2, p1, p2, f41, f51, g7, g8, g9, q_nom, q_non, q_of5 k20, q_of6 k20, q_of7 k20, q_of8 k20, qg 0 (by omega), qg 4 (by omega), e10, z01, b_all, not_true_eq_false, not_false_eq_true, true_implies, false_implies, and_true, true_and, or_self, or_true, true_or, or_false, false_or]
      · simp (disch := omega) only [s_X7_stoneOf, hst, fin, vp_in_nI, tn_nI, L0_0, L0_1, L0_2, L0_3, L0_4, L0_5, L0_6, L0_7, L0_8, L0_9, L0_10, fo, show ((nI 0).toInt < 3 ∨ 10 < (nI 0).toInt) = True from sw_lo (by omega) (by omega), k_isOut_t k20 (show m < 1000000 by omega) (e5.trans g9), k_isSold_f k20 (e7.trans g11), q_isOut_t k20 (show m < 1000000 by omega) g9, q_isSold_f k20 (show o < 1000000 by omega) g7, e0, e1, e2, e3, e4, e5, e6, e7, e8, s1, s2, p1, p2, f41, f51, g7, g8, g9, q_nom, q_non, q_of5 k20, q_of6 k20, q_of7 k20, q_of8 k20, qg 0 (by omega), qg 4 (by omega), e10, z01, b_all, not_true_eq_false, not_false_eq_true, true_implies, false_implies, and_true, true_and, or_self, or_true, true_or, or_false, false_or]
    · refine Qz.mk (r := w 1 (14 + 10 * k + 1)) (fun post => ?_) (fun post => ?_)
      · simp (disch := omega) only [s_X6_stoneOf, k_has_t v60 n2 hkn, s_X1_tellStone, vp_in_nI, tn_nI, L1_0, L1_1, L1_2, L1_3, L1_4, L1_5, L1_6, L1_7, L1_8, L1_9, L1_10, fo, show ((nI 1).toInt < 3 ∨ 10 < (nI 1).toInt) = True from sw_lo (by omega) (by omega), k_isOut_t k20 (show m < 1000000 by omega) (e5.trans g9), k_isSold_f k20 (e7.trans g11), q_isOut_t k20 (show m < 1000000 by omega) g9, q_isSold_f k20 (show o < 1000000 by omega) g7, e0, e1, e2, e3, e4, e5, e6, e7, e8, s1, s2, p1, p2, f41, f51, g7, g8, g9, q_nom, q_non, q_of5 k20, q_of6 k20, q_of7 k20, q_of8 k20, qg 1 (by omega), qg 4 (by omega), e10, z01, b_all, not_true_eq_false, not_false_eq_true, true_implies, false_implies, and_true, true_and, or_self, or_true, true_or, or_false, false_or]
      · simp (disch := omega) only [s_X7_stoneOf, hst, fin, vp_in_nI, tn_nI, L1_0, L1_1, L1_2, L1_3, L1_4, L1_5, L1_6, L1_7, L1_8, L1_9, L1_10, fo, show ((nI 1).toInt < 3 ∨ 10 < (nI 1).toInt) = True from sw_lo (by omega) (by omega), k_isOut_t k20 (show m < 1000000 by omega) (e5.trans g9), k_isSold_f k20 (e7.trans g11), q_isOut_t k20 (show m < 1000000 by omega) g9, q_isSold_f k20 (show o < 1000000 by omega) g7, e0, e1, e2, e3, e4, e5, e6, e7, e8, s1, s2, p1, p2, f41, f51, g7, g8, g9, q_nom, q_non, q_of5 k20, q_of6 k20, q_of7 k20, q_of8 k20, qg 1 (by omega), qg 4 (by omega), e10, z01, b_all, not_true_eq_false, not_false_eq_true, true_implies, false_implies, and_true, true_and, or_self, or_true, true_or, or_false, false_or]
    · refine Qz.mk (r := w 1 (14 + 10 * k + 2)) (fun post => ?_) (fun post => ?_)
      · simp (disch := omega) only [s_X6_stoneOf, k_has_t v60 n2 hkn, s_X1_tellStone, vp_in_nI, tn_nI, L2_0, L2_1, L2_2, L2_3, L2_4, L2_5, L2_6, L2_7, L2_8, L2_9, L2_10, fo, show ((nI 2).toInt < 3 ∨ 10 < (nI 2).toInt) = True from sw_lo (by omega) (by omega), k_isOut_t k20 (show m < 1000000 by omega) (e5.trans g9), k_isSold_f k20 (e7.trans g11), q_isOut_t k20 (show m < 1000000 by omega) g9, q_isSold_f k20 (show o < 1000000 by omega) g7, e0, e1, e2, e3, e4, e5, e6, e7, e8, s1, s2, p1, p2, f41, f51, g7, g8, g9, q_nom, q_non, q_of5 k20, q_of6 k20, q_of7 k20, q_of8 k20, qg 2 (by omega), qg 4 (by omega), e10, z01, b_all, not_true_eq_false, not_false_eq_true, true_implies, false_implies, and_true, true_and, or_self, or_true, true_or, or_false, false_or]
      · simp (disch := omega) only [s_X7_stoneOf, hst, fin, vp_in_nI, tn_nI, L2_0, L2_1, L2_2, L2_3, L2_4, L2_5, L2_6, L2_7, L2_8, L2_9, L2_10, fo, show ((nI 2).toInt < 3 ∨ 10 < (nI 2).toInt) = True from sw_lo (by omega) (by omega), k_isOut_t k20 (show m < 1000000 by omega) (e5.trans g9), k_isSold_f k20 (e7.trans g11), q_isOut_t k20 (show m < 1000000 by omega) g9, q_isSold_f k20 (show o < 1000000 by omega) g7, e0, e1, e2, e3, e4, e5, e6, e7, e8, s1, s2, p1, p2, f41, f51, g7, g8, g9, q_nom, q_non, q_of5 k20, q_of6 k20, q_of7 k20, q_of8 k20, qg 2 (by omega), qg 4 (by omega), e10, z01, b_all, not_true_eq_false, not_false_eq_true, true_implies, false_implies, and_true, true_and, or_self, or_true, true_or, or_false, false_or]
    · refine Qz.mk (r := nI (svN (tn (w 1 (14 + 10 * k + 0))))) (fun post => ?_) (fun post => ?_)
      · simp (disch := omega) only [s_X6_stoneOf, k_has_t v60 n2 hkn, s_X1_tellStone, vp_in_nI, tn_nI, L3_0, L3_1, L3_2, L3_3, L3_4, L3_5, L3_6, L3_7, L3_8, L3_9, L3_10, fo, show ((nI 3).toInt < 3 ∨ 10 < (nI 3).toInt) = False from sw_in (by omega) (by omega) (by omega), k_isOut_t k20 (show m < 1000000 by omega) (e5.trans g9), k_isSold_f k20 (e7.trans g11), q_isOut_t k20 (show m < 1000000 by omega) g9, q_isSold_f k20 (show o < 1000000 by omega) g7, e0, e1, e2, e3, e4, e5, e6, e7, e8, s1, s2, p1, p2, f41, f51, g7, g8, g9, q_nom, q_non, q_of5 k20, q_of6 k20, q_of7 k20, q_of8 k20, qg 3 (by omega), qg 4 (by omega), e10, z01, b_all, not_true_eq_false, not_false_eq_true, true_implies, false_implies, and_true, true_and, or_self, or_true, true_or, or_false, false_or]
      · simp (disch := omega) only [s_X7_stoneOf, hst, fin, vp_in_nI, tn_nI, L3_0, L3_1, L3_2, L3_3, L3_4, L3_5, L3_6, L3_7, L3_8, L3_9, L3_10, fo, show ((nI 3).toInt < 3 ∨ 10 < (nI 3).toInt) = False from sw_in (by omega) (by omega) (by omega), k_isOut_t k20 (show m < 1000000 by omega) (e5.trans g9), k_isSold_f k20 (e7.trans g11), q_isOut_t k20 (show m < 1000000 by omega) g9, q_isSold_f k20 (show o < 1000000 by omega) g7, e0, e1, e2, e3, e4, e5, e6, e7, e8, s1, s2, p1, p2, f41, f51, g7, g8, g9, q_nom, q_non, q_of5 k20, q_of6 k20, q_of7 k20, q_of8 k20, qg 3 (by omega), qg 4 (by omega), e10, z01, b_all, not_true_eq_false, not_false_eq_true, true_implies, false_implies, and_true, true_and, or_self, or_true, true_or, or_false, false_or]
    · refine Qz.mk (r := nI o) (fun post => ?_) (fun post => ?_)
      · simp (disch := omega) only [s_X6_stoneOf, k_has_t v60 n2 hkn, s_X1_tellStone, vp_in_nI, tn_nI, L4_0, L4_1, L4_2, L4_3, L4_4, L4_5, L4_6, L4_7, L4_8, L4_9, L4_10, fo, show ((nI 4).toInt < 3 ∨ 10 < (nI 4).toInt) = False from sw_in (by omega) (by omega) (by omega), k_isOut_t k20 (show m < 1000000 by omega) (e5.trans g9), k_isSold_f k20 (e7.trans g11), q_isOut_t k20 (show m < 1000000 by omega) g9, q_isSold_f k20 (show o < 1000000 by omega) g7, e0, e1, e2, e3, e4, e5, e6, e7, e8, s1, s2, p1, p2, f41, f51, g7, g8, g9, q_nom, q_non, q_of5 k20, q_of6 k20, q_of7 k20, q_of8 k20, qg 3 (by omega), qg 4 (by omega), e10, z01, b_all, not_true_eq_false, not_false_eq_true, true_implies, false_implies, and_true, true_and, or_self, or_true, true_or, or_false, false_or]
      · simp (disch := omega) only [s_X7_stoneOf, hst, fin, vp_in_nI, tn_nI, L4_0, L4_1, L4_2, L4_3, L4_4, L4_5, L4_6, L4_7, L4_8, L4_9, L4_10, fo, show ((nI 4).toInt < 3 ∨ 10 < (nI 4).toInt) = False from sw_in (by omega) (by omega) (by omega), k_isOut_t k20 (show m < 1000000 by omega) (e5.trans g9), k_isSold_f k20 (e7.trans g11), q_isOut_t k20 (show m < 1000000 by omega) g9, q_isSold_f k20 (show o < 1000000 by omega) g7, e0, e1, e2, e3, e4, e5, e6, e7, e8, s1, s2, p1, p2, f41, f51, g7, g8, g9, q_nom, q_non, q_of5 k20, q_of6 k20, q_of7 k20, q_of8 k20, qg 3 (by omega), qg 4 (by omega), e10, z01, b_all, not_true_eq_false, not_false_eq_true, true_implies, false_implies, and_true, true_and, or_self, or_true, true_or, or_false, false_or]
    · refine Qz.mk (r := nI hh) (fun post => ?_) (fun post => ?_)
      · simp (disch := omega) only [s_X6_stoneOf, k_has_t v60 n2 hkn, s_X1_tellStone, vp_in_nI, tn_nI, L5_0, L5_1, L5_2, L5_3, L5_4, L5_5, L5_6, L5_7, L5_8, L5_9, L5_10, fo, show ((nI 5).toInt < 3 ∨ 10 < (nI 5).toInt) = False from sw_in (by omega) (by omega) (by omega), k_isOut_t k20 (show m < 1000000 by omega) (e5.trans g9), k_isSold_f k20 (e7.trans g11), q_isOut_t k20 (show m < 1000000 by omega) g9, q_isSold_f k20 (show o < 1000000 by omega) g7, e0, e1, e2, e3, e4, e5, e6, e7, e8, s1, s2, p1, p2, f41, f51, g7, g8, g9, q_nom, q_non, q_of5 k20, q_of6 k20, q_of7 k20, q_of8 k20, qg 3 (by omega), qg 4 (by omega), e10, z01, b_all, not_true_eq_false, not_false_eq_true, true_implies, false_implies, and_true, true_and, or_self, or_true, true_or, or_false, false_or]
      · simp (disch := omega) only [s_X7_stoneOf, hst, fin, vp_in_nI, tn_nI, L5_0, L5_1, L5_2, L5_3, L5_4, L5_5, L5_6, L5_7, L5_8, L5_9, L5_10, fo, show ((nI 5).toInt < 3 ∨ 10 < (nI 5).toInt) = False from sw_in (by omega) (by omega) (by omega), k_isOut_t k20 (show m < 1000000 by omega) (e5.trans g9), k_isSold_f k20 (e7.trans g11), q_isOut_t k20 (show m < 1000000 by omega) g9, q_isSold_f k20 (show o < 1000000 by omega) g7, e0, e1, e2, e3, e4, e5, e6, e7, e8, s1, s2, p1, p2, f41, f51, g7, g8, g9, q_nom, q_non, q_of5 k20, q_of6 k20, q_of7 k20, q_of8 k20, qg 3 (by omega), qg 4 (by omega), e10, z01, b_all, not_true_eq_false, not_false_eq_true, true_implies, false_implies, and_true, true_and, or_self, or_true, true_or, or_false, false_or]
    · rcases pS_m1 hT hO with ⟨hx, -⟩ | ⟨px, hpx, hx, -⟩
      · refine Qz.mk (r := -10000004) (fun post => ?_) (fun post => ?_)
        · simp (disch := omega) only [s_X6_stoneOf, k_has_t v60 n2 hkn, s_X1_tellStone, vp_in_nI, tn_nI, L6_0, L6_1, L6_2, L6_3, L6_4, L6_5, L6_6, L6_7, L6_8, L6_9, L6_10, fo, show ((nI 6).toInt < 3 ∨ 10 < (nI 6).toInt) = False from sw_in (by omega) (by omega) (by omega), k_isOut_t k20 (show m < 1000000 by omega) (e5.trans g9), k_isSold_f k20 (e7.trans g11), q_isOut_t k20 (show m < 1000000 by omega) g9, q_isSold_f k20 (show o < 1000000 by omega) g7, e0, e1, e2, e3, e4, e5, e6, e7, e8, s1, s2, p1, p2, hx, f41, f51, g7, g8, g9, q_nom, q_non, q_of5 k20, q_of6 k20, q_of7 k20, q_of8 k20, qg 3 (by omega), qg 4 (by omega), e10, z01, b_all, not_true_eq_false, not_false_eq_true, true_implies, false_implies, and_true, true_and, or_self, or_true, true_or, or_false, false_or]
        · simp (disch := omega) only [s_X7_stoneOf, hst, fin, vp_in_nI, tn_nI, L6_0, L6_1, L6_2, L6_3, L6_4, L6_5, L6_6, L6_7, L6_8, L6_9, L6_10, fo, show ((nI 6).toInt < 3 ∨ 10 < (nI 6).toInt) = False from sw_in (by omega) (by omega) (by omega), k_isOut_t k20 (show m < 1000000 by omega) (e5.trans g9), k_isSold_f k20 (e7.trans g11), q_isOut_t k20 (show m < 1000000 by omega) g9, q_isSold_f k20 (show o < 1000000 by omega) g7, e0, e1, e2, e3, e4, e5, e6, e7, e8, s1, s2, p1, p2, hx, f41, f51, g7, g8, g9, q_nom, q_non, q_of5 k20, q_of6 k20, q_of7 k20, q_of8 k20, qg 3 (by omega), qg 4 (by omega), e10, z01, b_all, not_true_eq_false, not_false_eq_true, true_implies, false_implies, and_true, true_and, or_self, or_true, true_or, or_false, false_or]
      · have hxm : (nI px = -1) = False := eq_false (n_m1 (by omega))
        refine Qz.mk (r := nI px) (fun post => ?_) (fun post => ?_)
        · simp (disch := omega) only [s_X6_stoneOf, k_has_t v60 n2 hkn, s_X1_tellStone, vp_in_nI, tn_nI, L6_0, L6_1, L6_2, L6_3, L6_4, L6_5, L6_6, L6_7, L6_8, L6_9, L6_10, fo, show ((nI 6).toInt < 3 ∨ 10 < (nI 6).toInt) = False from sw_in (by omega) (by omega) (by omega), k_isOut_t k20 (show m < 1000000 by omega) (e5.trans g9), k_isSold_f k20 (e7.trans g11), q_isOut_t k20 (show m < 1000000 by omega) g9, q_isSold_f k20 (show o < 1000000 by omega) g7, e0, e1, e2, e3, e4, e5, e6, e7, e8, s1, s2, p1, p2, hx, hxm, f41, f51, g7, g8, g9, q_nom, q_non, q_of5 k20, q_of6 k20, q_of7 k20, q_of8 k20, qg 3 (by omega), qg 4 (by omega), e10, z01, b_all, not_true_eq_false, not_false_eq_true, true_implies, false_implies, and_true, true_and, or_self, or_true, true_or, or_false, false_or]
        · simp (disch := omega) only [s_X7_stoneOf, hst, fin, vp_in_nI, tn_nI, L6_0, L6_1, L6_2, L6_3, L6_4, L6_5, L6_6, L6_7, L6_8, L6_9, L6_10, fo, show ((nI 6).toInt < 3 ∨ 10 < (nI 6).toInt) = False from sw_in (by omega) (by omega) (by omega), k_isOut_t k20 (show m < 1000000 by omega) (e5.trans g9), k_isSold_f k20 (e7.trans g11), q_isOut_t k20 (show m < 1000000 by omega) g9, q_isSold_f k20 (show o < 1000000 by omega) g7, e0, e1, e2, e3, e4, e5, e6, e7, e8, s1, s2, p1, p2, hx, hxm, f41, f51, g7, g8, g9, q_nom, q_non, q_of5 k20, q_of6 k20, q_of7 k20, q_of8 k20, qg 3 (by omega), qg 4 (by omega), e10, z01, b_all, not_true_eq_false, not_false_eq_true, true_implies, false_implies, and_true, true_and, or_self, or_true, true_or, or_false, false_or]
    · refine Qz.mk (r := nI m) (fun post => ?_) (fun post => ?_)
      · simp (disch := omega) only [s_X6_stoneOf, k_has_t v60 n2 hkn, s_X1_tellStone, vp_in_nI, tn_nI, L7_0, L7_1, L7_2, L7_3, L7_4, L7_5, L7_6, L7_7, L7_8, L7_9, L7_10, fo, show ((nI 7).toInt < 3 ∨ 10 < (nI 7).toInt) = False from sw_in (by omega) (by omega) (by omega), k_isOut_t k20 (show m < 1000000 by omega) (e5.trans g9), k_isSold_f k20 (e7.trans g11), q_isOut_t k20 (show m < 1000000 by omega) g9, q_isSold_f k20 (show o < 1000000 by omega) g7, e0, e1, e2, e3, e4, e5, e6, e7, e8, s1, s2, p1, p2, f41, f51, g7, g8, g9, q_nom, q_non, q_of5 k20, q_of6 k20, q_of7 k20, q_of8 k20, qg 3 (by omega), qg 4 (by omega), e10, z01, b_all, not_true_eq_false, not_false_eq_true, true_implies, false_implies, and_true, true_and, or_self, or_true, true_or, or_false, false_or]
      · simp (disch := omega) only [s_X7_stoneOf, hst, fin, vp_in_nI, tn_nI, L7_0, L7_1, L7_2, L7_3, L7_4, L7_5, L7_6, L7_7, L7_8, L7_9, L7_10, fo, show ((nI 7).toInt < 3 ∨ 10 < (nI 7).toInt) = False from sw_in (by omega) (by omega) (by omega), k_isOut_t k20 (show m < 1000000 by omega) (e5.trans g9), k_isSold_f k20 (e7.trans g11), q_isOut_t k20 (show m < 1000000 by omega) g9, q_isSold_f k20 (show o < 1000000 by omega) g7, e0, e1, e2, e3, e4, e5, e6, e7, e8, s1, s2, p1, p2, f41, f51, g7, g8, g9, q_nom, q_non, q_of5 k20, q_of6 k20, q_of7 k20, q_of8 k20, qg 3 (by omega), qg 4 (by omega), e10, z01, b_all, not_true_eq_false, not_false_eq_true, true_implies, false_implies, and_true, true_and, or_self, or_true, true_or, or_false, false_or]
    · refine Qz.mk (r := w 1 (14 + 10 * k + 6)) (fun post => ?_) (fun post => ?_)
      · simp (disch := omega) only [s_X6_stoneOf, k_has_t v60 n2 hkn, s_X1_tellStone, vp_in_nI, tn_nI, L8_0, L8_1, L8_2, L8_3, L8_4, L8_5, L8_6, L8_7, L8_8, L8_9, L8_10, fo, show ((nI 8).toInt < 3 ∨ 10 < (nI 8).toInt) = False from sw_in (by omega) (by omega) (by omega), k_isOut_t k20 (show m < 1000000 by omega) (e5.trans g9), k_isSold_f k20 (e7.trans g11), q_isOut_t k20 (show m < 1000000 by omega) g9, q_isSold_f k20 (show o < 1000000 by omega) g7, e0, e1, e2, e3, e4, e5, e6, e7, e8, s1, s2, p1, p2, f41, f51, g7, g8, g9, q_nom, q_non, q_of5 k20, q_of6 k20, q_of7 k20, q_of8 k20, qg 3 (by omega), qg 4 (by omega), e10, z01, b_all, not_true_eq_false, not_false_eq_true, true_implies, false_implies, and_true, true_and, or_self, or_true, true_or, or_false, false_or]
      · simp (disch := omega) only [s_X7_stoneOf, hst, fin, vp_in_nI, tn_nI, L8_0, L8_1, L8_2, L8_3, L8_4, L8_5, L8_6, L8_7, L8_8, L8_9, L8_10, fo, show ((nI 8).toInt < 3 ∨ 10 < (nI 8).toInt) = False from sw_in (by omega) (by omega) (by omega), k_isOut_t k20 (show m < 1000000 by omega) (e5.trans g9), k_isSold_f k20 (e7.trans g11), q_isOut_t k20 (show m < 1000000 by omega) g9, q_isSold_f k20 (show o < 1000000 by omega) g7, e0, e1, e2, e3, e4, e5, e6, e7, e8, s1, s2, p1, p2, f41, f51, g7, g8, g9, q_nom, q_non, q_of5 k20, q_of6 k20, q_of7 k20, q_of8 k20, qg 3 (by omega), qg 4 (by omega), e10, z01, b_all, not_true_eq_false, not_false_eq_true, true_implies, false_implies, and_true, true_and, or_self, or_true, true_or, or_false, false_or]
    · refine Qz.mk (r := -10000004) (fun post => ?_) (fun post => ?_)
      · simp (disch := omega) only [s_X6_stoneOf, k_has_t v60 n2 hkn, s_X1_tellStone, vp_in_nI, tn_nI, L9_0, L9_1, L9_2, L9_3, L9_4, L9_5, L9_6, L9_7, L9_8, L9_9, L9_10, fo, show ((nI 9).toInt < 3 ∨ 10 < (nI 9).toInt) = False from sw_in (by omega) (by omega) (by omega), k_isOut_t k20 (show m < 1000000 by omega) (e5.trans g9), k_isSold_f k20 (e7.trans g11), q_isOut_t k20 (show m < 1000000 by omega) g9, q_isSold_f k20 (show o < 1000000 by omega) g7, e0, e1, e2, e3, e4, e5, e6, e7, e8, s1, s2, p1, p2, f41, f51, g7, g8, g9, q_nom, q_non, q_of5 k20, q_of6 k20, q_of7 k20, q_of8 k20, qg 3 (by omega), qg 4 (by omega), e10, z01, b_all, not_true_eq_false, not_false_eq_true, true_implies, false_implies, and_true, true_and, or_self, or_true, true_or, or_false, false_or]
      · simp (disch := omega) only [s_X7_stoneOf, hst, fin, vp_in_nI, tn_nI, L9_0, L9_1, L9_2, L9_3, L9_4, L9_5, L9_6, L9_7, L9_8, L9_9, L9_10, fo, show ((nI 9).toInt < 3 ∨ 10 < (nI 9).toInt) = False from sw_in (by omega) (by omega) (by omega), k_isOut_t k20 (show m < 1000000 by omega) (e5.trans g9), k_isSold_f k20 (e7.trans g11), q_isOut_t k20 (show m < 1000000 by omega) g9, q_isSold_f k20 (show o < 1000000 by omega) g7, e0, e1, e2, e3, e4, e5, e6, e7, e8, s1, s2, p1, p2, f41, f51, g7, g8, g9, q_nom, q_non, q_of5 k20, q_of6 k20, q_of7 k20, q_of8 k20, qg 3 (by omega), qg 4 (by omega), e10, z01, b_all, not_true_eq_false, not_false_eq_true, true_implies, false_implies, and_true, true_and, or_self, or_true, true_or, or_false, false_or]
    · refine Qz.mk (r := w 1 (14 + 10 * k + 8)) (fun post => ?_) (fun post => ?_)
      · simp (disch := omega) only [s_X6_stoneOf, k_has_t v60 n2 hkn, s_X1_tellStone, vp_in_nI, tn_nI, L10_0, L10_1, L10_2, L10_3, L10_4, L10_5, L10_6, L10_7, L10_8, L10_9, L10_10, fo, show ((nI 10).toInt < 3 ∨ 10 < (nI 10).toInt) = False from sw_in (by omega) (by omega) (by omega), k_isOut_t k20 (show m < 1000000 by omega) (e5.trans g9), k_isSold_f k20 (e7.trans g11), q_isOut_t k20 (show m < 1000000 by omega) g9, q_isSold_f k20 (show o < 1000000 by omega) g7, e0, e1, e2, e3, e4, e5, e6, e7, e8, s1, s2, p1, p2, f41, f51, g7, g8, g9, q_nom, q_non, q_of5 k20, q_of6 k20, q_of7 k20, q_of8 k20, qg 3 (by omega), qg 4 (by omega), e10, z01, b_all, not_true_eq_false, not_false_eq_true, true_implies, false_implies, and_true, true_and, or_self, or_true, true_or, or_false, false_or]
      · simp (disch := omega) only [s_X7_stoneOf, hst, fin, vp_in_nI, tn_nI, L10_0, L10_1, L10_2, L10_3, L10_4, L10_5, L10_6, L10_7, L10_8, L10_9, L10_10, fo, show ((nI 10).toInt < 3 ∨ 10 < (nI 10).toInt) = False from sw_in (by omega) (by omega) (by omega), k_isOut_t k20 (show m < 1000000 by omega) (e5.trans g9), k_isSold_f k20 (e7.trans g11), q_isOut_t k20 (show m < 1000000 by omega) g9, q_isSold_f k20 (show o < 1000000 by omega) g7, e0, e1, e2, e3, e4, e5, e6, e7, e8, s1, s2, p1, p2, f41, f51, g7, g8, g9, q_nom, q_non, q_of5 k20, q_of6 k20, q_of7 k20, q_of8 k20, qg 3 (by omega), qg 4 (by omega), e10, z01, b_all, not_true_eq_false, not_false_eq_true, true_implies, false_implies, and_true, true_and, or_self, or_true, true_or, or_false, false_or]
