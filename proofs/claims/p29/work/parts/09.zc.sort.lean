/-! PURE 28: the text: which command a word is -/
def cvN (q : Nat) : Nat := [398788, 66667, 365744, 628108, 7931013, 591493, 754996].getD q 0
theorem cd_0 : ((((32768 * (108 - 96)) + (1024 * (101 - 96))) + (32 * (110 - 96))) + 100) - 96 = nI 398788 := by decide
theorem cd_1 : ((((32768 * (98 - 96)) + (1024 * (97 - 96))) + (32 * (99 - 96))) + 107) - 96 = nI 66667 := by decide
theorem cd_2 : ((((32768 * (107 - 96)) + (1024 * (101 - 96))) + (32 * (101 - 96))) + 112) - 96 = nI 365744 := by decide
theorem cd_3 : ((((32768 * (115 - 96)) + (1024 * (101 - 96))) + (32 * (108 - 96))) + 108) - 96 = nI 628108 := by decide
theorem cd_4 : ((((32768 * (103 - 96)) + (1024 * (114 - 96))) + (32 * (97 - 96))) + 100) - 96 = nI 247844 := by decide
theorem cd_5 : ((((32768 * (114 - 96)) + (1024 * (97 - 96))) + (32 * (116 - 96))) + 101) - 96 = nI 591493 := by decide
theorem cd_6 : ((((32768 * (119 - 96)) + (1024 * (97 - 96))) + (32 * (105 - 96))) + 116) - 96 = nI 754996 := by decide
theorem cd_g : (32 : Int32) * nI 247844 + 5 = nI 7931013 := by decide
theorem cq0_0 : (nI 398788 = nI 398788) = True := eq_true rfl
theorem cq0_1 : (nI 398788 = nI 66667) = False := eq_false (by decide)
theorem cq0_2 : (nI 398788 = nI 365744) = False := eq_false (by decide)
theorem cq0_3 : (nI 398788 = nI 628108) = False := eq_false (by decide)
theorem cq0_4 : (nI 398788 = nI 7931013) = False := eq_false (by decide)
theorem cq0_5 : (nI 398788 = nI 591493) = False := eq_false (by decide)
theorem cq0_6 : (nI 398788 = nI 754996) = False := eq_false (by decide)
theorem cq1_0 : (nI 66667 = nI 398788) = False := eq_false (by decide)
theorem cq1_1 : (nI 66667 = nI 66667) = True := eq_true rfl
theorem cq1_2 : (nI 66667 = nI 365744) = False := eq_false (by decide)
theorem cq1_3 : (nI 66667 = nI 628108) = False := eq_false (by decide)
theorem cq1_4 : (nI 66667 = nI 7931013) = False := eq_false (by decide)
theorem cq1_5 : (nI 66667 = nI 591493) = False := eq_false (by decide)
theorem cq1_6 : (nI 66667 = nI 754996) = False := eq_false (by decide)
theorem cq2_0 : (nI 365744 = nI 398788) = False := eq_false (by decide)
theorem cq2_1 : (nI 365744 = nI 66667) = False := eq_false (by decide)
theorem cq2_2 : (nI 365744 = nI 365744) = True := eq_true rfl
theorem cq2_3 : (nI 365744 = nI 628108) = False := eq_false (by decide)
theorem cq2_4 : (nI 365744 = nI 7931013) = False := eq_false (by decide)
theorem cq2_5 : (nI 365744 = nI 591493) = False := eq_false (by decide)
theorem cq2_6 : (nI 365744 = nI 754996) = False := eq_false (by decide)
theorem cq3_0 : (nI 628108 = nI 398788) = False := eq_false (by decide)
theorem cq3_1 : (nI 628108 = nI 66667) = False := eq_false (by decide)
theorem cq3_2 : (nI 628108 = nI 365744) = False := eq_false (by decide)
theorem cq3_3 : (nI 628108 = nI 628108) = True := eq_true rfl
theorem cq3_4 : (nI 628108 = nI 7931013) = False := eq_false (by decide)
theorem cq3_5 : (nI 628108 = nI 591493) = False := eq_false (by decide)
theorem cq3_6 : (nI 628108 = nI 754996) = False := eq_false (by decide)
theorem cq4_0 : (nI 7931013 = nI 398788) = False := eq_false (by decide)
theorem cq4_1 : (nI 7931013 = nI 66667) = False := eq_false (by decide)
theorem cq4_2 : (nI 7931013 = nI 365744) = False := eq_false (by decide)
theorem cq4_3 : (nI 7931013 = nI 628108) = False := eq_false (by decide)
theorem cq4_4 : (nI 7931013 = nI 7931013) = True := eq_true rfl
theorem cq4_5 : (nI 7931013 = nI 591493) = False := eq_false (by decide)
theorem cq4_6 : (nI 7931013 = nI 754996) = False := eq_false (by decide)
theorem cq5_0 : (nI 591493 = nI 398788) = False := eq_false (by decide)
theorem cq5_1 : (nI 591493 = nI 66667) = False := eq_false (by decide)
theorem cq5_2 : (nI 591493 = nI 365744) = False := eq_false (by decide)
theorem cq5_3 : (nI 591493 = nI 628108) = False := eq_false (by decide)
theorem cq5_4 : (nI 591493 = nI 7931013) = False := eq_false (by decide)
theorem cq5_5 : (nI 591493 = nI 591493) = True := eq_true rfl
theorem cq5_6 : (nI 591493 = nI 754996) = False := eq_false (by decide)
theorem cq6_0 : (nI 754996 = nI 398788) = False := eq_false (by decide)
theorem cq6_1 : (nI 754996 = nI 66667) = False := eq_false (by decide)
theorem cq6_2 : (nI 754996 = nI 365744) = False := eq_false (by decide)
theorem cq6_3 : (nI 754996 = nI 628108) = False := eq_false (by decide)
theorem cq6_4 : (nI 754996 = nI 7931013) = False := eq_false (by decide)
theorem cq6_5 : (nI 754996 = nI 591493) = False := eq_false (by decide)
theorem cq6_6 : (nI 754996 = nI 754996) = True := eq_true rfl
theorem q_sort_t {q : Nat} {post : Int32 → Prop} (hq : q < 7) : s_X7_sort (nI (cvN q)) post = post (nI (q + 1)) := by
  have h7 : q = 0 ∨ q = 1 ∨ q = 2 ∨ q = 3 ∨ q = 4 ∨ q = 5 ∨ q = 6 := by omega
  unfold s_X7_sort s_X7_code
  rcases h7 with rfl | rfl | rfl | rfl | rfl | rfl | rfl
  · show _ = post (nI 1)
    rw [show cvN 0 = 398788 from rfl]
    simp only [cd_0, cd_1, cd_2, cd_3, cd_4, cd_5, cd_6, cd_g, cq0_0, cq0_1, cq0_2, cq0_3, cq0_4, cq0_5, cq0_6, not_true_eq_false, not_false_eq_true, true_implies, false_implies, and_true, true_and]
    rfl
  · show _ = post (nI 2)
    rw [show cvN 1 = 66667 from rfl]
    simp only [cd_0, cd_1, cd_2, cd_3, cd_4, cd_5, cd_6, cd_g, cq1_0, cq1_1, cq1_2, cq1_3, cq1_4, cq1_5, cq1_6, not_true_eq_false, not_false_eq_true, true_implies, false_implies, and_true, true_and]
    rfl
  · show _ = post (nI 3)
    rw [show cvN 2 = 365744 from rfl]
    simp only [cd_0, cd_1, cd_2, cd_3, cd_4, cd_5, cd_6, cd_g, cq2_0, cq2_1, cq2_2, cq2_3, cq2_4, cq2_5, cq2_6, not_true_eq_false, not_false_eq_true, true_implies, false_implies, and_true, true_and]
    rfl
  · show _ = post (nI 4)
    rw [show cvN 3 = 628108 from rfl]
    simp only [cd_0, cd_1, cd_2, cd_3, cd_4, cd_5, cd_6, cd_g, cq3_0, cq3_1, cq3_2, cq3_3, cq3_4, cq3_5, cq3_6, not_true_eq_false, not_false_eq_true, true_implies, false_implies, and_true, true_and]
    rfl
  · show _ = post (nI 5)
    rw [show cvN 4 = 7931013 from rfl]
    simp only [cd_0, cd_1, cd_2, cd_3, cd_4, cd_5, cd_6, cd_g, cq4_0, cq4_1, cq4_2, cq4_3, cq4_4, cq4_5, cq4_6, not_true_eq_false, not_false_eq_true, true_implies, false_implies, and_true, true_and]
    rfl
  · show _ = post (nI 6)
    rw [show cvN 5 = 591493 from rfl]
    simp only [cd_0, cd_1, cd_2, cd_3, cd_4, cd_5, cd_6, cd_g, cq5_0, cq5_1, cq5_2, cq5_3, cq5_4, cq5_5, cq5_6, not_true_eq_false, not_false_eq_true, true_implies, false_implies, and_true, true_and]
    rfl
  · show _ = post (nI 7)
    rw [show cvN 6 = 754996 from rfl]
    simp only [cd_0, cd_1, cd_2, cd_3, cd_4, cd_5, cd_6, cd_g, cq6_0, cq6_1, cq6_2, cq6_3, cq6_4, cq6_5, cq6_6, not_true_eq_false, not_false_eq_true, true_implies, false_implies, and_true, true_and]
    rfl
theorem q_sort_f {x : Int32} {post : Int32 → Prop} (h : ∀ q, q < 7 → ¬ x = nI (cvN q)) : s_X7_sort x post = post 0 := by
  have n0 : (x = nI 398788) = False := eq_false (h 0 (by decide))
  have n1 : (x = nI 66667) = False := eq_false (h 1 (by decide))
  have n2 : (x = nI 365744) = False := eq_false (h 2 (by decide))
  have n3 : (x = nI 628108) = False := eq_false (h 3 (by decide))
  have n4 : (x = nI 7931013) = False := eq_false (h 4 (by decide))
  have n5 : (x = nI 591493) = False := eq_false (h 5 (by decide))
  have n6 : (x = nI 754996) = False := eq_false (h 6 (by decide))
  unfold s_X7_sort s_X7_code
  simp only [cd_0, cd_1, cd_2, cd_3, cd_4, cd_5, cd_6, cd_g, n0, n1, n2, n3, n4, n5, n6, not_true_eq_false, not_false_eq_true, true_implies, false_implies, and_true, true_and]
theorem WD_lt {c : Nat → Nat} {i q : Nat} (hq : q < 7) (h : WD c i q) : ∀ j, j < wln q → lt_ c (i + j) := fun j hj => by
  obtain ⟨-, h1, h2⟩ := wch_ok q hq j hj
  unfold lt_
  rw [h j hj]
  exact ⟨h1, h2⟩
theorem wv_of {c : Nat → Nat} {i q : Nat} (hq : q < 7) (h : WD c i q) : wv c i (wln q) = cvN q := by
  have h7 : q = 0 ∨ q = 1 ∨ q = 2 ∨ q = 3 ∨ q = 4 ∨ q = 5 ∨ q = 6 := by omega
  have g0 := h 0
  have g1 := h 1
  have g2 := h 2
  have g3 := h 3
  have g4 := h 4
  rcases h7 with rfl | rfl | rfl | rfl | rfl | rfl | rfl
  · rw [show wln 0 = 4 from rfl, show cvN 0 = 398788 from rfl]
    simp only [wv]
    rw [g0 (by decide), show wch 0 0 = 108 from rfl, g1 (by decide), show wch 0 1 = 101 from rfl, g2 (by decide), show wch 0 2 = 110 from rfl, g3 (by decide), show wch 0 3 = 100 from rfl]
  · rw [show wln 1 = 4 from rfl, show cvN 1 = 66667 from rfl]
    simp only [wv]
    rw [g0 (by decide), show wch 1 0 = 98 from rfl, g1 (by decide), show wch 1 1 = 97 from rfl, g2 (by decide), show wch 1 2 = 99 from rfl, g3 (by decide), show wch 1 3 = 107 from rfl]
  · rw [show wln 2 = 4 from rfl, show cvN 2 = 365744 from rfl]
    simp only [wv]
    rw [g0 (by decide), show wch 2 0 = 107 from rfl, g1 (by decide), show wch 2 1 = 101 from rfl, g2 (by decide), show wch 2 2 = 101 from rfl, g3 (by decide), show wch 2 3 = 112 from rfl]
  · rw [show wln 3 = 4 from rfl, show cvN 3 = 628108 from rfl]
    simp only [wv]
    rw [g0 (by decide), show wch 3 0 = 115 from rfl, g1 (by decide), show wch 3 1 = 101 from rfl, g2 (by decide), show wch 3 2 = 108 from rfl, g3 (by decide), show wch 3 3 = 108 from rfl]
  · rw [show wln 4 = 5 from rfl, show cvN 4 = 7931013 from rfl]
    simp only [wv]
    rw [g0 (by decide), show wch 4 0 = 103 from rfl, g1 (by decide), show wch 4 1 = 114 from rfl, g2 (by decide), show wch 4 2 = 97 from rfl, g3 (by decide), show wch 4 3 = 100 from rfl, g4 (by decide), show wch 4 4 = 101 from rfl]
  · rw [show wln 5 = 4 from rfl, show cvN 5 = 591493 from rfl]
    simp only [wv]
    rw [g0 (by decide), show wch 5 0 = 114 from rfl, g1 (by decide), show wch 5 1 = 97 from rfl, g2 (by decide), show wch 5 2 = 116 from rfl, g3 (by decide), show wch 5 3 = 101 from rfl]
  · rw [show wln 6 = 4 from rfl, show cvN 6 = 754996 from rfl]
    simp only [wv]
    rw [g0 (by decide), show wch 6 0 = 119 from rfl, g1 (by decide), show wch 6 1 = 97 from rfl, g2 (by decide), show wch 6 2 = 105 from rfl, g3 (by decide), show wch 6 3 = 116 from rfl]
theorem wv_to {c : Nat → Nat} {i m q : Nat} (hq : q < 7) (hm : m ≤ 5) (hl : ∀ j, j < m → lt_ c (i + j)) (h : wv c i m = cvN q) : m = wln q ∧ WD c i q := by
  have h7 : q = 0 ∨ q = 1 ∨ q = 2 ∨ q = 3 ∨ q = 4 ∨ q = 5 ∨ q = 6 := by omega
  have hm6 : m = 0 ∨ m = 1 ∨ m = 2 ∨ m = 3 ∨ m = 4 ∨ m = 5 := by omega
  have key : ∀ x : Nat, cvN q = x → 29000 ≤ x ∧ (wln q = 4 ↔ x < 1048576) := by
    intro x hx
    rcases h7 with rfl | rfl | rfl | rfl | rfl | rfl | rfl <;> subst hx <;> decide
  obtain ⟨k1, k2⟩ := key _ rfl
  rw [← h] at k1 k2
  have hwl : wln q = 4 ∨ wln q = 5 := by
    unfold wln
    split <;> omega
  unfold lt_ at hl
  rcases hm6 with rfl | rfl | rfl | rfl | rfl | rfl
  · simp only [wv] at k1
    omega
  · have a0 := hl 0 (by omega)
    simp only [wv] at k1
    omega
  · have a0 := hl 0 (by omega)
    have a1 := hl 1 (by omega)
    simp only [wv] at k1
    omega
  · have a0 := hl 0 (by omega)
    have a1 := hl 1 (by omega)
    have a2 := hl 2 (by omega)
    simp only [wv] at k1
    omega
  · have a0 := hl 0 (by omega)
    have a1 := hl 1 (by omega)
    have a2 := hl 2 (by omega)
    have a3 := hl 3 (by omega)
    simp only [wv] at k1 k2 h
    have hw4 : wln q = 4 := k2.mpr (by omega)
    refine ⟨hw4.symm, fun k hk => ?_⟩
    rw [hw4] at hk
    have hk4 : k = 0 ∨ k = 1 ∨ k = 2 ∨ k = 3 := by omega
    rcases h7 with rfl | rfl | rfl | rfl | rfl | rfl | rfl
    · rw [show cvN 0 = 398788 from rfl] at h
      rcases hk4 with rfl | rfl | rfl | rfl
      · rw [show wch 0 0 = 108 from rfl]
        omega
      · rw [show wch 0 1 = 101 from rfl]
        omega
      · rw [show wch 0 2 = 110 from rfl]
        omega
      · rw [show wch 0 3 = 100 from rfl]
        omega
    · rw [show cvN 1 = 66667 from rfl] at h
      rcases hk4 with rfl | rfl | rfl | rfl
      · rw [show wch 1 0 = 98 from rfl]
        omega
      · rw [show wch 1 1 = 97 from rfl]
        omega
      · rw [show wch 1 2 = 99 from rfl]
        omega
      · rw [show wch 1 3 = 107 from rfl]
        omega
    · rw [show cvN 2 = 365744 from rfl] at h
      rcases hk4 with rfl | rfl | rfl | rfl
      · rw [show wch 2 0 = 107 from rfl]
        omega
      · rw [show wch 2 1 = 101 from rfl]
        omega
      · rw [show wch 2 2 = 101 from rfl]
        omega
      · rw [show wch 2 3 = 112 from rfl]
        omega
    · rw [show cvN 3 = 628108 from rfl] at h
      rcases hk4 with rfl | rfl | rfl | rfl
      · rw [show wch 3 0 = 115 from rfl]
        omega
      · rw [show wch 3 1 = 101 from rfl]
        omega
      · rw [show wch 3 2 = 108 from rfl]
        omega
      · rw [show wch 3 3 = 108 from rfl]
        omega
    · exact absurd hw4 (by decide)
    · rw [show cvN 5 = 591493 from rfl] at h
      rcases hk4 with rfl | rfl | rfl | rfl
      · rw [show wch 5 0 = 114 from rfl]
        omega
      · rw [show wch 5 1 = 97 from rfl]
        omega
      · rw [show wch 5 2 = 116 from rfl]
        omega
      · rw [show wch 5 3 = 101 from rfl]
        omega
    · rw [show cvN 6 = 754996 from rfl] at h
      rcases hk4 with rfl | rfl | rfl | rfl
      · rw [show wch 6 0 = 119 from rfl]
        omega
      · rw [show wch 6 1 = 97 from rfl]
        omega
      · rw [show wch 6 2 = 105 from rfl]
        omega
      · rw [show wch 6 3 = 116 from rfl]
        omega
  · have a0 := hl 0 (by omega)
    have a1 := hl 1 (by omega)
    have a2 := hl 2 (by omega)
    have a3 := hl 3 (by omega)
    have a4 := hl 4 (by omega)
    simp only [wv] at k1 k2 h
    have hw5 : wln q = 5 := by
      rcases hwl with z | z
      · have := k2.mp z
        omega
      · exact z
    refine ⟨hw5.symm, fun k hk => ?_⟩
    rw [hw5] at hk
    have hk5 : k = 0 ∨ k = 1 ∨ k = 2 ∨ k = 3 ∨ k = 4 := by omega
    rcases h7 with rfl | rfl | rfl | rfl | rfl | rfl | rfl
    · exact absurd hw5 (by decide)
    · exact absurd hw5 (by decide)
    · exact absurd hw5 (by decide)
    · exact absurd hw5 (by decide)
    · rw [show cvN 4 = 7931013 from rfl] at h
      rcases hk5 with rfl | rfl | rfl | rfl | rfl
      · rw [show wch 4 0 = 103 from rfl]
        omega
      · rw [show wch 4 1 = 114 from rfl]
        omega
      · rw [show wch 4 2 = 97 from rfl]
        omega
      · rw [show wch 4 3 = 100 from rfl]
        omega
      · rw [show wch 4 4 = 101 from rfl]
        omega
    · exact absurd hw5 (by decide)
    · exact absurd hw5 (by decide)
def hmN (q : Nat) : Nat := [4, 1, 1, 2, 3, 4, 1].getD q 0
theorem hmN_le : ∀ q, q < 7 → 1 ≤ hmN q ∧ hmN q ≤ 4 := by decide
theorem q_wants {q : Nat} {post : Int32 → Prop} (hq : q < 7) : s_X7_wants (nI (q + 1)) post = post (nI (hmN q)) := by
  have h7 : q = 0 ∨ q = 1 ∨ q = 2 ∨ q = 3 ∨ q = 4 ∨ q = 5 ∨ q = 6 := by omega
  unfold s_X7_wants
  rcases h7 with rfl | rfl | rfl | rfl | rfl | rfl | rfl
  · show _ = post (nI 4)
    simp only [show nI (0 + 1) = nI 1 from rfl, L1_1, L1_4, L1_5, L1_6, not_true_eq_false, not_false_eq_true, true_implies, false_implies, and_true, true_and]
    rfl
  · show _ = post (nI 1)
    simp only [show nI (1 + 1) = nI 2 from rfl, L2_1, L2_4, L2_5, L2_6, not_true_eq_false, not_false_eq_true, true_implies, false_implies, and_true, true_and]
    rfl
  · show _ = post (nI 1)
    simp only [show nI (2 + 1) = nI 3 from rfl, L3_1, L3_4, L3_5, L3_6, not_true_eq_false, not_false_eq_true, true_implies, false_implies, and_true, true_and]
    rfl
  · show _ = post (nI 2)
    simp only [show nI (3 + 1) = nI 4 from rfl, L4_1, L4_4, L4_5, L4_6, not_true_eq_false, not_false_eq_true, true_implies, false_implies, and_true, true_and]
    rfl
  · show _ = post (nI 3)
    simp only [show nI (4 + 1) = nI 5 from rfl, L5_1, L5_4, L5_5, L5_6, not_true_eq_false, not_false_eq_true, true_implies, false_implies, and_true, true_and]
    rfl
  · show _ = post (nI 4)
    simp only [show nI (5 + 1) = nI 6 from rfl, L6_1, L6_4, L6_5, L6_6, not_true_eq_false, not_false_eq_true, true_implies, false_implies, and_true, true_and]
    rfl
  · show _ = post (nI 1)
    simp only [show nI (6 + 1) = nI 7 from rfl, L7_1, L7_4, L7_5, L7_6, not_true_eq_false, not_false_eq_true, true_implies, false_implies, and_true, true_and]
    rfl
theorem q_wants0 {post : Int32 → Prop} : s_X7_wants 0 post = post (nI 1) := by
  unfold s_X7_wants
  rw [b_f (by decide), b_f' (by decide), b_f' (by decide), b_f' (by decide)]
  rfl
theorem k_many {q : Nat} {post : Int32 → Prop} (hq : q < 7) : s_X4_howManyNumbers (nI q) post = post (nI (hmN q)) := by
  have h7 : q = 0 ∨ q = 1 ∨ q = 2 ∨ q = 3 ∨ q = 4 ∨ q = 5 ∨ q = 6 := by omega
  have fo : ((nI q).toInt < 0 ∨ 6 < (nI q).toInt) = False := sw_in (by omega) (by omega) (by omega)
  unfold s_X4_howManyNumbers
  rcases h7 with rfl | rfl | rfl | rfl | rfl | rfl | rfl
  · show _ = post (nI 4)
    simp only [L0_0, L0_1, L0_2, L0_3, L0_4, L0_5, L0_6, fo, not_true_eq_false, not_false_eq_true, true_implies, false_implies, and_true, true_and]
    rfl
  · show _ = post (nI 1)
    simp only [L1_0, L1_1, L1_2, L1_3, L1_4, L1_5, L1_6, fo, not_true_eq_false, not_false_eq_true, true_implies, false_implies, and_true, true_and]
    rfl
  · show _ = post (nI 1)
    simp only [L2_0, L2_1, L2_2, L2_3, L2_4, L2_5, L2_6, fo, not_true_eq_false, not_false_eq_true, true_implies, false_implies, and_true, true_and]
    rfl
  · show _ = post (nI 2)
    simp only [L3_0, L3_1, L3_2, L3_3, L3_4, L3_5, L3_6, fo, not_true_eq_false, not_false_eq_true, true_implies, false_implies, and_true, true_and]
    rfl
  · show _ = post (nI 3)
    simp only [L4_0, L4_1, L4_2, L4_3, L4_4, L4_5, L4_6, fo, not_true_eq_false, not_false_eq_true, true_implies, false_implies, and_true, true_and]
    rfl
  · show _ = post (nI 4)
    simp only [L5_0, L5_1, L5_2, L5_3, L5_4, L5_5, L5_6, fo, not_true_eq_false, not_false_eq_true, true_implies, false_implies, and_true, true_and]
    rfl
  · show _ = post (nI 1)
    simp only [L6_0, L6_1, L6_2, L6_3, L6_4, L6_5, L6_6, fo, not_true_eq_false, not_false_eq_true, true_implies, false_implies, and_true, true_and]
    rfl
theorem k_wordOf {q : Nat} {post : Nat → Prop} (hq : q < 7) : s_X4_wordOf (nI q) post = post q := by
  have h7 : q = 0 ∨ q = 1 ∨ q = 2 ∨ q = 3 ∨ q = 4 ∨ q = 5 ∨ q = 6 := by omega
  have fo : ((nI q).toInt < 0 ∨ 6 < (nI q).toInt) = False := sw_in (by omega) (by omega) (by omega)
  unfold s_X4_wordOf
  rcases h7 with rfl | rfl | rfl | rfl | rfl | rfl | rfl
  · simp only [L0_0, L0_1, L0_2, L0_3, L0_4, L0_5, L0_6, fo, not_true_eq_false, not_false_eq_true, true_implies, false_implies, and_true, true_and]
  · simp only [L1_0, L1_1, L1_2, L1_3, L1_4, L1_5, L1_6, fo, not_true_eq_false, not_false_eq_true, true_implies, false_implies, and_true, true_and]
  · simp only [L2_0, L2_1, L2_2, L2_3, L2_4, L2_5, L2_6, fo, not_true_eq_false, not_false_eq_true, true_implies, false_implies, and_true, true_and]
  · simp only [L3_0, L3_1, L3_2, L3_3, L3_4, L3_5, L3_6, fo, not_true_eq_false, not_false_eq_true, true_implies, false_implies, and_true, true_and]
  · simp only [L4_0, L4_1, L4_2, L4_3, L4_4, L4_5, L4_6, fo, not_true_eq_false, not_false_eq_true, true_implies, false_implies, and_true, true_and]
  · simp only [L5_0, L5_1, L5_2, L5_3, L5_4, L5_5, L5_6, fo, not_true_eq_false, not_false_eq_true, true_implies, false_implies, and_true, true_and]
  · simp only [L6_0, L6_1, L6_2, L6_3, L6_4, L6_5, L6_6, fo, not_true_eq_false, not_false_eq_true, true_implies, false_implies, and_true, true_and]
