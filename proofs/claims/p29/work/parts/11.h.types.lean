/-! P29 8: the law types texts that never are full -/
theorem tp {G p : V} {m k : Nat} {c : Nat → Nat} (h : TC p m c) (hm : m < 60) (k1 : 32 ≤ k) (k2 : k ≤ 126) : ∃ p' c', (∀ post, s_X6_type G p (nI k) post = post (nI (m + 1)) G p') ∧ TC p' (m + 1) c' ∧ ¬ nI (m + 1) ≤ 0 := by
  obtain ⟨p', c', h1, h2⟩ := op_type (G := G) h hm k1 k2
  exact ⟨p', c', h1, h2, nI_nle (by omega) (by omega)⟩
theorem dig_e (v d : Nat) (hv : v < 10000) (h0 : 0 < d) (hd : d ≤ 1000) : 48 + ((nI v / nI d) - (nI v / nI d) / 10 * 10) = nI (48 + v / d % 10) := by
  rw [pk_div (by omega) h0 (by omega)]
  have := Nat.div_le_self v d
  rw [show nI (v / d) - nI (v / d) / 10 * 10 = nI (v / d % 10) from pk_rem (d := 10) (by omega) (by omega) (by omega)]
  exact nI_add 48 _
theorem dig_last {G x y z s H a b c d p : V} {m v : Nat} {cc : Nat → Nat} (h : TC p m cc) (hm : m < 60) (hv : v < 10000) {post : Int32 → V → V → V → V → V → V → V → V → V → V → V → Prop} (hp : ∀ p' c', TC p' (m + 1) c' → post 1 G x y z s H a b c d p') : sj_L_digits_73 post (nI v) 1 G x y z s H a b c d p := by
  obtain ⟨p', c', e1, e2, e3⟩ := tp (G := G) h hm (k := 48 + v % 10) (by omega) (by omega)
  unfold sj_L_digits_73
  rw [b_f z10, show 48 + (nI v - nI v / 10 * 10) = nI (48 + v % 10) from (by rw [show nI v - nI v / 10 * 10 = nI (v % 10) from pk_rem (d := 10) (by omega) (by omega) (by omega)]; exact nI_add 48 _), e1, b_f e3]
  exact hp p' c' e2
theorem dig_10 {G x y z s H a b c d p : V} {m v : Nat} {cc : Nat → Nat} (h : TC p m cc) (hm : m + 1 < 60) (hv : v < 10000) {post : Int32 → V → V → V → V → V → V → V → V → V → V → V → Prop} (hp : ∀ p' m' c', TC p' m' c' → m' ≤ m + (if v < 10 then 1 else 2) → post 1 G x y z s H a b c d p') : sj_L_digits_45 post (nI v) G x y z s H a b c d p := by
  unfold sj_L_digits_45
  by_cases h1 : v < 10
  · rw [b_t (show nI v < 10 from lt_n (n := 10) h1 (by omega))]
    exact dig_last h (by omega) hv (fun p' c' hc => hp p' _ c' hc (by rw [if_pos h1]; omega))
  · obtain ⟨p', c', e1, e2, e3⟩ := tp (G := G) h (by omega) (k := 48 + v / 10 % 10) (by omega) (by omega)
    rw [b_f (show ¬ nI v < 10 from ltl (n := 10) (by omega) (by omega)), show 48 + ((nI v / 10) - (nI v / 10) / 10 * 10) = nI (48 + v / 10 % 10) from dig_e v 10 hv (by omega) (by omega), e1, b_f e3]
    exact dig_last e2 (by omega) hv (fun p' c' hc => hp p' _ c' hc (by rw [if_neg h1]; omega))
theorem digits_ok {G x y z s H a b c d p : V} {m v : Nat} {cc : Nat → Nat} (h : TC p m cc) (hm : m + 3 < 60) (hv : v < 10000) {post : Int32 → V → V → V → V → V → V → V → V → V → V → V → Prop} (hp : ∀ p' m' c', TC p' m' c' → m' ≤ m + (if v < 10 then 1 else if v < 100 then 2 else 4) → post 1 G x y z s H a b c d p') : s_L_digits G x y z s H a b c d p (nI v) post := by
  have h22 : ∀ (p : V) (m1 : Nat) (cc : Nat → Nat), TC p m1 cc → m1 ≤ m + 1 → (v < 1000 → m1 = m) → sj_L_digits_22 post (nI v) G x y z s H a b c d p := fun p m1 cc h0 hm1 hs => by
    unfold sj_L_digits_22
    by_cases h1 : v < 100
    · rw [b_t (show nI v < 100 from lt_n (n := 100) h1 (by omega))]
      have := hs (by omega)
      subst this
      refine dig_10 h0 (by omega) hv (fun p' m' c' hc hm' => hp p' m' c' hc ?_)
      by_cases h2 : v < 10
      · rw [if_pos h2] at hm' ⊢
        exact hm'
      · rw [if_neg h2] at hm' ⊢
        rw [if_pos h1]
        exact hm'
    · obtain ⟨p', c', e1, e2, e3⟩ := tp (G := G) h0 (by omega) (k := 48 + v / 100 % 10) (by omega) (by omega)
      rw [b_f (show ¬ nI v < 100 from ltl (n := 100) (by omega) (by omega)), show 48 + ((nI v / 100) - (nI v / 100) / 10 * 10) = nI (48 + v / 100 % 10) from dig_e v 100 hv (by omega) (by omega), e1, b_f e3]
      refine dig_10 e2 (by omega) hv (fun p' m' c' hc hm' => hp p' m' c' hc ?_)
      rw [if_neg (show ¬ v < 10 by omega)] at hm'
      rw [if_neg (show ¬ v < 10 by omega), if_neg h1]
      omega
  unfold s_L_digits
  by_cases h1 : v < 1000
  · rw [b_t (show nI v < 1000 from lt_n (n := 1000) h1 (by omega))]
    exact h22 p m cc h (by omega) (fun _ => rfl)
  · obtain ⟨p', c', e1, e2, e3⟩ := tp (G := G) h (by omega) (k := 48 + v / 1000) (by omega) (by omega)
    rw [b_f (show ¬ nI v < 1000 from ltl (n := 1000) (by omega) (by omega)), show 48 + (nI v / 1000) = nI (48 + v / 1000) from (by rw [show nI v / 1000 = nI (v / 1000) from pk_div (d := 1000) (by omega) (by omega) (by omega)]; exact nI_add 48 _), e1, b_f e3]
    exact h22 p' (m + 1) c' e2 (Nat.le_refl _) (fun h => absurd h h1)
theorem signs_ok {G x y z s H a b c d p : V} {m k1 k2 k3 k4 : Nat} {cc : Nat → Nat} (h : TC p m cc) (hm : m + 3 < 60) (h1 : 32 ≤ k1 ∧ k1 ≤ 126) (h2 : 32 ≤ k2 ∧ k2 ≤ 126) (h3 : 32 ≤ k3 ∧ k3 ≤ 126) (h4 : 32 ≤ k4 ∧ k4 ≤ 126) {post : Int32 → V → V → V → V → V → V → V → V → V → V → V → Prop} (hp : ∀ p' c', TC p' (m + 4) c' → post 1 G x y z s H a b c d p') : s_L_signs G x y z s H a b c d p (nI k1) (nI k2) (nI k3) (nI k4) post := by
  obtain ⟨q1, c1, e1, f1, g1⟩ := tp (G := G) h (by omega) h1.1 h1.2
  obtain ⟨q2, c2, e2, f2, g2⟩ := tp (G := G) f1 (by omega) h2.1 h2.2
  obtain ⟨q3, c3, e3, f3, g3⟩ := tp (G := G) f2 (by omega) h3.1 h3.2
  obtain ⟨q4, c4, e4, f4, g4⟩ := tp (G := G) f3 (by omega) h4.1 h4.2
  unfold s_L_signs
  rw [e1, b_f g1, e2, b_f g2, e3, b_f g3, e4, b_f g4]
  exact hp q4 c4 f4
/-- how many numbers a command wants, how great, how long it is so far -/
def wtN (q : Nat) : Nat := if q < 2 then 4 else if q = 6 then 4 else if q = 5 then 3 else if q = 4 then 2 else 1
def moN (q i : Nat) : Nat := if q = 7 then 20 else if (q = 4 ∧ i = 1) ∨ (q = 6 ∧ i = 3) then 3000 else if q < 2 ∧ i < 2 then 3 else 6
def lnB (q i : Nat) : Nat := (if q = 5 then 5 else 4) + 2 * i + (if (q = 4 ∧ 2 ≤ i) ∨ (q = 6 ∧ 4 ≤ i) then 3 else if q = 7 ∧ 1 ≤ i then 1 else 0)
def dgB (n : Nat) : Nat := if n ≤ 10 then 1 else if n ≤ 100 then 2 else 4
theorem lnB_step : ∀ q, q < 8 → ∀ i, i < 4 → i < wtN q → lnB q i + 1 + dgB (moN q i) ≤ lnB q (i + 1) := by decide +kernel
theorem lnB_end : ∀ q, q < 8 → lnB q (wtN q) ≤ 15 ∧ wtN q ≤ 4 := by decide +kernel
theorem lnB_le : ∀ q, q < 8 → ∀ i, i < 5 → lnB q i ≤ 15 := by decide +kernel
theorem moN_le : ∀ q, q < 8 → ∀ i, i < 4 → 1 ≤ moN q i ∧ moN q i ≤ 3000 := by decide +kernel
theorem dgB_ok {v n : Nat} (h : v < n) (hn : n ≤ 3000) : (if v < 10 then 1 else if v < 100 then 2 else 4) ≤ dgB n := by
  unfold dgB
  by_cases h1 : n ≤ 10
  · rw [if_pos h1, if_pos (by omega)]
    exact Nat.le_refl _
  · rw [if_neg h1]
    by_cases h2 : n ≤ 100
    · rw [if_pos h2]
      split <;> (try split) <;> omega
    · rw [if_neg h2]
      split <;> (try split) <;> omega
theorem most_e {post : Int32 → V → V → V → V → V → V → V → V → V → V → V → Prop} {f1 f2 f4 f5 : Int32} {k0 rec : Int32 → Int32 → V → V → V → V → V → V → V → V → V → V → V → Prop} {q i W : Nat} (hq : q < 8) (hi : i < 4) (hW : W ≤ 4) (hiW : i < W) {G x y z s H a b c d p : V} : sb_L_types_270 post f1 f2 f4 f5 (nI q) (nI W) k0 rec 1 (nI i) G x y z s H a b c d p = sj_L_types_338 post f1 f2 f4 f5 (nI q) (nI W) rec k0 1 (nI i) (nI (moN q i)) G x y z s H a b c d p := by
  unfold sb_L_types_270
  rw [b_f (show ¬ nI W ≤ nI i from nI_ge (by omega) (by omega))]
  have hqs : q = 0 ∨ q = 1 ∨ q = 2 ∨ q = 3 ∨ q = 4 ∨ q = 5 ∨ q = 6 ∨ q = 7 := by omega
  have his : i = 0 ∨ i = 1 ∨ i = 2 ∨ i = 3 := by omega
  rcases hqs with rfl | rfl | rfl | rfl | rfl | rfl | rfl | rfl
  · rcases his with rfl | rfl | rfl | rfl
    · simp only [sj_L_types_301, sj_L_types_314, sj_L_types_320, L0_7, L0_4, L0_6, L0_1, L0_3, show ((2 : Int32) ≤ nI 0) = False from eq_false (by decide), show ((2 : Int32) ≤ nI 0) = False from eq_false (by decide), true_implies, false_implies, not_true_eq_false, not_false_eq_true, and_true, true_and]
      try exact rfl
    · simp only [sj_L_types_301, sj_L_types_314, sj_L_types_320, L0_7, L0_4, L0_6, L1_1, L1_3, show ((2 : Int32) ≤ nI 0) = False from eq_false (by decide), show ((2 : Int32) ≤ nI 1) = False from eq_false (by decide), true_implies, false_implies, not_true_eq_false, not_false_eq_true, and_true, true_and]
      try exact rfl
    · simp only [sj_L_types_301, sj_L_types_314, sj_L_types_320, L0_7, L0_4, L0_6, L2_1, L2_3, show ((2 : Int32) ≤ nI 0) = False from eq_false (by decide), show ((2 : Int32) ≤ nI 2) = True from eq_true (by decide), true_implies, false_implies, not_true_eq_false, not_false_eq_true, and_true, true_and]
      try exact rfl
    · simp only [sj_L_types_301, sj_L_types_314, sj_L_types_320, L0_7, L0_4, L0_6, L3_1, L3_3, show ((2 : Int32) ≤ nI 0) = False from eq_false (by decide), show ((2 : Int32) ≤ nI 3) = True from eq_true (by decide), true_implies, false_implies, not_true_eq_false, not_false_eq_true, and_true, true_and]
      try exact rfl
  · rcases his with rfl | rfl | rfl | rfl
    · simp only [sj_L_types_301, sj_L_types_314, sj_L_types_320, L1_7, L1_4, L1_6, L0_1, L0_3, show ((2 : Int32) ≤ nI 1) = False from eq_false (by decide), show ((2 : Int32) ≤ nI 0) = False from eq_false (by decide), true_implies, false_implies, not_true_eq_false, not_false_eq_true, and_true, true_and]
      try exact rfl
    · simp only [sj_L_types_301, sj_L_types_314, sj_L_types_320, L1_7, L1_4, L1_6, L1_1, L1_3, show ((2 : Int32) ≤ nI 1) = False from eq_false (by decide), show ((2 : Int32) ≤ nI 1) = False from eq_false (by decide), true_implies, false_implies, not_true_eq_false, not_false_eq_true, and_true, true_and]
      try exact rfl
    · simp only [sj_L_types_301, sj_L_types_314, sj_L_types_320, L1_7, L1_4, L1_6, L2_1, L2_3, show ((2 : Int32) ≤ nI 1) = False from eq_false (by decide), show ((2 : Int32) ≤ nI 2) = True from eq_true (by decide), true_implies, false_implies, not_true_eq_false, not_false_eq_true, and_true, true_and]
      try exact rfl
    · simp only [sj_L_types_301, sj_L_types_314, sj_L_types_320, L1_7, L1_4, L1_6, L3_1, L3_3, show ((2 : Int32) ≤ nI 1) = False from eq_false (by decide), show ((2 : Int32) ≤ nI 3) = True from eq_true (by decide), true_implies, false_implies, not_true_eq_false, not_false_eq_true, and_true, true_and]
      try exact rfl
  · rcases his with rfl | rfl | rfl | rfl
    · simp only [sj_L_types_301, sj_L_types_314, sj_L_types_320, L2_7, L2_4, L2_6, L0_1, L0_3, show ((2 : Int32) ≤ nI 2) = True from eq_true (by decide), show ((2 : Int32) ≤ nI 0) = False from eq_false (by decide), true_implies, false_implies, not_true_eq_false, not_false_eq_true, and_true, true_and]
      try exact rfl
    · simp only [sj_L_types_301, sj_L_types_314, sj_L_types_320, L2_7, L2_4, L2_6, L1_1, L1_3, show ((2 : Int32) ≤ nI 2) = True from eq_true (by decide), show ((2 : Int32) ≤ nI 1) = False from eq_false (by decide), true_implies, false_implies, not_true_eq_false, not_false_eq_true, and_true, true_and]
      try exact rfl
    · simp only [sj_L_types_301, sj_L_types_314, sj_L_types_320, L2_7, L2_4, L2_6, L2_1, L2_3, show ((2 : Int32) ≤ nI 2) = True from eq_true (by decide), show ((2 : Int32) ≤ nI 2) = True from eq_true (by decide), true_implies, false_implies, not_true_eq_false, not_false_eq_true, and_true, true_and]
      try exact rfl
    · simp only [sj_L_types_301, sj_L_types_314, sj_L_types_320, L2_7, L2_4, L2_6, L3_1, L3_3, show ((2 : Int32) ≤ nI 2) = True from eq_true (by decide), show ((2 : Int32) ≤ nI 3) = True from eq_true (by decide), true_implies, false_implies, not_true_eq_false, not_false_eq_true, and_true, true_and]
      try exact rfl
  · rcases his with rfl | rfl | rfl | rfl
    · simp only [sj_L_types_301, sj_L_types_314, sj_L_types_320, L3_7, L3_4, L3_6, L0_1, L0_3, show ((2 : Int32) ≤ nI 3) = True from eq_true (by decide), show ((2 : Int32) ≤ nI 0) = False from eq_false (by decide), true_implies, false_implies, not_true_eq_false, not_false_eq_true, and_true, true_and]
      try exact rfl
    · simp only [sj_L_types_301, sj_L_types_314, sj_L_types_320, L3_7, L3_4, L3_6, L1_1, L1_3, show ((2 : Int32) ≤ nI 3) = True from eq_true (by decide), show ((2 : Int32) ≤ nI 1) = False from eq_false (by decide), true_implies, false_implies, not_true_eq_false, not_false_eq_true, and_true, true_and]
      try exact rfl
    · simp only [sj_L_types_301, sj_L_types_314, sj_L_types_320, L3_7, L3_4, L3_6, L2_1, L2_3, show ((2 : Int32) ≤ nI 3) = True from eq_true (by decide), show ((2 : Int32) ≤ nI 2) = True from eq_true (by decide), true_implies, false_implies, not_true_eq_false, not_false_eq_true, and_true, true_and]
      try exact rfl
    · simp only [sj_L_types_301, sj_L_types_314, sj_L_types_320, L3_7, L3_4, L3_6, L3_1, L3_3, show ((2 : Int32) ≤ nI 3) = True from eq_true (by decide), show ((2 : Int32) ≤ nI 3) = True from eq_true (by decide), true_implies, false_implies, not_true_eq_false, not_false_eq_true, and_true, true_and]
      try exact rfl
  · rcases his with rfl | rfl | rfl | rfl
    · simp only [sj_L_types_301, sj_L_types_314, sj_L_types_320, L4_7, L4_4, L4_6, L0_1, L0_3, show ((2 : Int32) ≤ nI 4) = True from eq_true (by decide), show ((2 : Int32) ≤ nI 0) = False from eq_false (by decide), true_implies, false_implies, not_true_eq_false, not_false_eq_true, and_true, true_and]
      try exact rfl
    · simp only [sj_L_types_301, sj_L_types_314, sj_L_types_320, L4_7, L4_4, L4_6, L1_1, L1_3, show ((2 : Int32) ≤ nI 4) = True from eq_true (by decide), show ((2 : Int32) ≤ nI 1) = False from eq_false (by decide), true_implies, false_implies, not_true_eq_false, not_false_eq_true, and_true, true_and]
      try exact rfl
    · simp only [sj_L_types_301, sj_L_types_314, sj_L_types_320, L4_7, L4_4, L4_6, L2_1, L2_3, show ((2 : Int32) ≤ nI 4) = True from eq_true (by decide), show ((2 : Int32) ≤ nI 2) = True from eq_true (by decide), true_implies, false_implies, not_true_eq_false, not_false_eq_true, and_true, true_and]
      try exact rfl
    · simp only [sj_L_types_301, sj_L_types_314, sj_L_types_320, L4_7, L4_4, L4_6, L3_1, L3_3, show ((2 : Int32) ≤ nI 4) = True from eq_true (by decide), show ((2 : Int32) ≤ nI 3) = True from eq_true (by decide), true_implies, false_implies, not_true_eq_false, not_false_eq_true, and_true, true_and]
      try exact rfl
  · rcases his with rfl | rfl | rfl | rfl
    · simp only [sj_L_types_301, sj_L_types_314, sj_L_types_320, L5_7, L5_4, L5_6, L0_1, L0_3, show ((2 : Int32) ≤ nI 5) = True from eq_true (by decide), show ((2 : Int32) ≤ nI 0) = False from eq_false (by decide), true_implies, false_implies, not_true_eq_false, not_false_eq_true, and_true, true_and]
      try exact rfl
    · simp only [sj_L_types_301, sj_L_types_314, sj_L_types_320, L5_7, L5_4, L5_6, L1_1, L1_3, show ((2 : Int32) ≤ nI 5) = True from eq_true (by decide), show ((2 : Int32) ≤ nI 1) = False from eq_false (by decide), true_implies, false_implies, not_true_eq_false, not_false_eq_true, and_true, true_and]
      try exact rfl
    · simp only [sj_L_types_301, sj_L_types_314, sj_L_types_320, L5_7, L5_4, L5_6, L2_1, L2_3, show ((2 : Int32) ≤ nI 5) = True from eq_true (by decide), show ((2 : Int32) ≤ nI 2) = True from eq_true (by decide), true_implies, false_implies, not_true_eq_false, not_false_eq_true, and_true, true_and]
      try exact rfl
    · simp only [sj_L_types_301, sj_L_types_314, sj_L_types_320, L5_7, L5_4, L5_6, L3_1, L3_3, show ((2 : Int32) ≤ nI 5) = True from eq_true (by decide), show ((2 : Int32) ≤ nI 3) = True from eq_true (by decide), true_implies, false_implies, not_true_eq_false, not_false_eq_true, and_true, true_and]
      try exact rfl
  · rcases his with rfl | rfl | rfl | rfl
    · simp only [sj_L_types_301, sj_L_types_314, sj_L_types_320, L6_7, L6_4, L6_6, L0_1, L0_3, show ((2 : Int32) ≤ nI 6) = True from eq_true (by decide), show ((2 : Int32) ≤ nI 0) = False from eq_false (by decide), true_implies, false_implies, not_true_eq_false, not_false_eq_true, and_true, true_and]
      try exact rfl
    · simp only [sj_L_types_301, sj_L_types_314, sj_L_types_320, L6_7, L6_4, L6_6, L1_1, L1_3, show ((2 : Int32) ≤ nI 6) = True from eq_true (by decide), show ((2 : Int32) ≤ nI 1) = False from eq_false (by decide), true_implies, false_implies, not_true_eq_false, not_false_eq_true, and_true, true_and]
      try exact rfl
    · simp only [sj_L_types_301, sj_L_types_314, sj_L_types_320, L6_7, L6_4, L6_6, L2_1, L2_3, show ((2 : Int32) ≤ nI 6) = True from eq_true (by decide), show ((2 : Int32) ≤ nI 2) = True from eq_true (by decide), true_implies, false_implies, not_true_eq_false, not_false_eq_true, and_true, true_and]
      try exact rfl
    · simp only [sj_L_types_301, sj_L_types_314, sj_L_types_320, L6_7, L6_4, L6_6, L3_1, L3_3, show ((2 : Int32) ≤ nI 6) = True from eq_true (by decide), show ((2 : Int32) ≤ nI 3) = True from eq_true (by decide), true_implies, false_implies, not_true_eq_false, not_false_eq_true, and_true, true_and]
      try exact rfl
  · rcases his with rfl | rfl | rfl | rfl
    · simp only [sj_L_types_301, sj_L_types_314, sj_L_types_320, L7_7, L7_4, L7_6, L0_1, L0_3, show ((2 : Int32) ≤ nI 7) = True from eq_true (by decide), show ((2 : Int32) ≤ nI 0) = False from eq_false (by decide), true_implies, false_implies, not_true_eq_false, not_false_eq_true, and_true, true_and]
      try exact rfl
    · simp only [sj_L_types_301, sj_L_types_314, sj_L_types_320, L7_7, L7_4, L7_6, L1_1, L1_3, show ((2 : Int32) ≤ nI 7) = True from eq_true (by decide), show ((2 : Int32) ≤ nI 1) = False from eq_false (by decide), true_implies, false_implies, not_true_eq_false, not_false_eq_true, and_true, true_and]
      try exact rfl
    · simp only [sj_L_types_301, sj_L_types_314, sj_L_types_320, L7_7, L7_4, L7_6, L2_1, L2_3, show ((2 : Int32) ≤ nI 7) = True from eq_true (by decide), show ((2 : Int32) ≤ nI 2) = True from eq_true (by decide), true_implies, false_implies, not_true_eq_false, not_false_eq_true, and_true, true_and]
      try exact rfl
    · simp only [sj_L_types_301, sj_L_types_314, sj_L_types_320, L7_7, L7_4, L7_6, L3_1, L3_3, show ((2 : Int32) ≤ nI 7) = True from eq_true (by decide), show ((2 : Int32) ≤ nI 3) = True from eq_true (by decide), true_implies, false_implies, not_true_eq_false, not_false_eq_true, and_true, true_and]
      try exact rfl
theorem in_loop {post : Int32 → V → V → V → V → V → V → V → V → V → V → V → Prop} {f1 f2 f4 f5 : Int32} {k0 : Int32 → Int32 → V → V → V → V → V → V → V → V → V → V → V → Prop} {q M : Nat} (hq : q < 8) (hM : M ≤ 32) {G x y z s H a b c d : V} : ∀ e i, i + e = wtN q → ∀ (p : V) (m : Nat) (cc : Nat → Nat), TC p m cc → m ≤ M + lnB q i → (∀ p' m' c', TC p' m' c' → m' ≤ M + lnB q (wtN q) → k0 1 (nI (wtN q)) G x y z s H a b c d p') → sl_L_types_270 post f1 f2 f4 f5 (nI q) (nI (wtN q)) k0 (e + 1) 1 (nI i) G x y z s H a b c d p := by
  obtain ⟨w1, w2⟩ := lnB_end q hq
  intro e
  induction e with
  | zero =>
    intro i hi p m cc h hm hk
    obtain rfl : i = wtN q := by omega
    show sb_L_types_270 post f1 f2 f4 f5 (nI q) (nI (wtN q)) k0 (sl_L_types_270 post f1 f2 f4 f5 (nI q) (nI (wtN q)) k0 0) 1 (nI (wtN q)) G x y z s H a b c d p
    unfold sb_L_types_270
    rw [b_t (Int32.le_refl _)]
    exact hk p m cc h hm
  | succ e ih =>
    intro i hi p m cc h hm hk
    show sb_L_types_270 post f1 f2 f4 f5 (nI q) (nI (wtN q)) k0 (sl_L_types_270 post f1 f2 f4 f5 (nI q) (nI (wtN q)) k0 (e + 1)) 1 (nI i) G x y z s H a b c d p
    have hi4 : i < 4 := by omega
    have hb1 := lnB_step q hq i hi4 (by omega)
    have hb2 := lnB_le q hq i (by omega)
    obtain ⟨m1, m2⟩ := moN_le q hq i hi4
    rw [most_e hq hi4 w2 (by omega)]
    obtain ⟨p1, c1, e1, e2, e3⟩ := tp (G := G) h (by omega) (k := 32) (by omega) (by omega)
    obtain ⟨v, v1, v2⟩ := k_low (f5 >>> ((3 + (2 * nI i)) &&& 31)) (n := moN q i) m1 (by omega)
    unfold sj_L_types_338
    rw [b_f z10, show ∀ post, s_X6_type G p 32 post = post (nI (m + 1)) G p1 from e1, b_f e3, v2]
    refine digits_ok e2 (by omega) (by omega) (fun p' m' c' hc hm' => ?_)
    rw [b_f z10]
    unfold sj_L_types_379
    rw [nI_1]
    have hd := dgB_ok v1 m2
    exact ih (i + 1) (by omega) p' m' c' hc (by omega) hk
theorem cmd_ok {post : Int32 → V → V → V → V → V → V → V → V → V → V → V → Prop} {f1 f2 : Int32} {k0 rec : Int32 → Int32 → V → V → V → V → V → V → V → V → V → V → V → Prop} {k M : Nat} {G x y z s H a b c d : V} (hM : M ≤ 32) (hr : ∀ p' m' c', TC p' m' c' → m' ≤ M + 16 → rec 1 (nI (k + 1)) G x y z s H a b c d p') : ∀ (q : Nat), q < 8 → ∀ (p : V) (m : Nat) (cc : Nat → Nat) (y1 : Int32), TC p m cc → m ≤ M + lnB q 0 → sj_L_types_266 post f1 f2 rec k0 1 (nI k) y1 (nI q) (nI (wtN q)) 1 G x y z s H a b c d p := by
  intro q hq p m cc y1 h hm
  unfold sj_L_types_266
  refine ⟨wtN q + 1, in_loop hq hM (wtN q) 0 (by omega) p m cc h hm (fun p' m' c' hc hm' => ?_)⟩
  obtain ⟨w1, w2⟩ := lnB_end q hq
  have h430 : ∀ sgn : Nat, 32 ≤ sgn → sgn ≤ 126 → sj_L_types_430 post f1 f2 rec k0 1 (nI k) (nI sgn) G x y z s H a b c d p' := fun sgn s1 s2 => by
    obtain ⟨p1, c1, e1, e2, e3⟩ := tp (G := G) hc (by omega) s1 s2
    unfold sj_L_types_430
    rw [e1, b_f e3]
    unfold sj_L_types_441
    rw [nI_1]
    exact hr p1 _ c1 e2 (by omega)
  have h410 : sj_L_types_410 post f1 f2 rec k0 1 (nI k) G x y z s H a b c d p' := by
    obtain ⟨r, r1, r2⟩ := k_low (f1 >>> (22 &&& 31)) (n := 9) (by omega) (by omega)
    unfold sj_L_types_410
    rw [show ∀ post, s_L_low (f1 >>> (22 &&& 31)) 9 post = post (nI r) from r2]
    by_cases hz : nI r = 0
    · rw [b_t' hz]
      exact h430 32 (by omega) (by omega)
    · rw [b_f' hz]
      exact h430 59 (by omega) (by omega)
  obtain ⟨r, r1, r2⟩ := k_low (f1 >>> (25 &&& 31)) (n := 6) (by omega) (by omega)
  show (1 = 0 → _) ∧ (¬ 1 = 0 → _)
  rw [b_f z10, show ∀ post, s_L_low (f1 >>> (25 &&& 31)) 6 post = post (nI r) from r2]
  by_cases hz : nI r = 0
  · rw [b_t' hz]
    by_cases hl : nI k = f2 - 1
    · rw [b_t hl]
      unfold sj_L_types_441
      rw [nI_1]
      exact hr p' m' c' hc (by omega)
    · rw [b_f hl]
      exact h410
  · rw [b_f' hz]
    exact h410
theorem word_ok {post : Int32 → V → V → V → V → V → V → V → V → V → V → V → Prop} {f1 f2 : Int32} {k0 rec : Int32 → Int32 → V → V → V → V → V → V → V → V → V → V → V → Prop} {k M : Nat} {G x y z s H a b c d : V} (hM : M ≤ 32) (hr : ∀ p' m' c', TC p' m' c' → m' ≤ M + 16 → rec 1 (nI (k + 1)) G x y z s H a b c d p') : ∀ (q : Nat), q < 8 → ∀ (p : V) (cc : Nat → Nat) (y1 : Int32), TC p M cc → sj_L_types_86 post f1 f2 rec k0 1 (nI k) y1 (nI q) (nI (wtN q)) G x y z s H a b c d p := by
  intro q hq p cc y1 h
  have hc := cmd_ok (post := post) (f1 := f1) (f2 := f2) (k0 := k0) hM hr q hq
  unfold sj_L_types_86
  rw [b_f z10]
  have hqs : q = 0 ∨ q = 1 ∨ q = 2 ∨ q = 3 ∨ q = 4 ∨ q = 5 ∨ q = 6 ∨ q = 7 := by omega
  rcases hqs with rfl | rfl | rfl | rfl | rfl | rfl | rfl | rfl
  · simp only [L0_2, L0_3, L0_4, L0_5, L0_6, show ((2 : Int32) ≤ nI 0) = False from eq_false (by decide), true_implies, false_implies, not_true_eq_false, not_false_eq_true, and_true, true_and]
    refine signs_ok (k1 := 108) (k2 := 101) (k3 := 110) (k4 := 100) h (by omega) (by decide) (by decide) (by decide) (by decide) (fun p' c' h1 => ?_)
    rw [b_f z10]
    exact hc p' _ c' y1 h1 (show M + 4 ≤ M + lnB 0 0 from Nat.add_le_add_left (by decide) M)
  · simp only [L1_2, L1_3, L1_4, L1_5, L1_6, show ((2 : Int32) ≤ nI 1) = False from eq_false (by decide), true_implies, false_implies, not_true_eq_false, not_false_eq_true, and_true, true_and]
    refine signs_ok (k1 := 108) (k2 := 101) (k3 := 110) (k4 := 100) h (by omega) (by decide) (by decide) (by decide) (by decide) (fun p' c' h1 => ?_)
    rw [b_f z10]
    exact hc p' _ c' y1 h1 (show M + 4 ≤ M + lnB 1 0 from Nat.add_le_add_left (by decide) M)
  · simp only [L2_2, L2_3, L2_4, L2_5, L2_6, show ((2 : Int32) ≤ nI 2) = True from eq_true (by decide), true_implies, false_implies, not_true_eq_false, not_false_eq_true, and_true, true_and]
    refine signs_ok (k1 := 98) (k2 := 97) (k3 := 99) (k4 := 107) h (by omega) (by decide) (by decide) (by decide) (by decide) (fun p' c' h1 => ?_)
    rw [b_f z10]
    exact hc p' _ c' y1 h1 (show M + 4 ≤ M + lnB 2 0 from Nat.add_le_add_left (by decide) M)
  · simp only [L3_2, L3_3, L3_4, L3_5, L3_6, show ((2 : Int32) ≤ nI 3) = True from eq_true (by decide), true_implies, false_implies, not_true_eq_false, not_false_eq_true, and_true, true_and]
    refine signs_ok (k1 := 107) (k2 := 101) (k3 := 101) (k4 := 112) h (by omega) (by decide) (by decide) (by decide) (by decide) (fun p' c' h1 => ?_)
    rw [b_f z10]
    exact hc p' _ c' y1 h1 (show M + 4 ≤ M + lnB 3 0 from Nat.add_le_add_left (by decide) M)
  · simp only [L4_2, L4_3, L4_4, L4_5, L4_6, show ((2 : Int32) ≤ nI 4) = True from eq_true (by decide), true_implies, false_implies, not_true_eq_false, not_false_eq_true, and_true, true_and]
    refine signs_ok (k1 := 115) (k2 := 101) (k3 := 108) (k4 := 108) h (by omega) (by decide) (by decide) (by decide) (by decide) (fun p' c' h1 => ?_)
    rw [b_f z10]
    exact hc p' _ c' y1 h1 (show M + 4 ≤ M + lnB 4 0 from Nat.add_le_add_left (by decide) M)
  · simp only [L5_2, L5_3, L5_4, L5_5, L5_6, show ((2 : Int32) ≤ nI 5) = True from eq_true (by decide), true_implies, false_implies, not_true_eq_false, not_false_eq_true, and_true, true_and]
    refine signs_ok (k1 := 103) (k2 := 114) (k3 := 97) (k4 := 100) h (by omega) (by decide) (by decide) (by decide) (by decide) (fun p' c' h1 => ?_)
    obtain ⟨p1, c1, e1, e2, e3⟩ := tp (G := G) h1 (by omega) (k := 101) (by omega) (by omega)
    rw [b_f z10, show ∀ post, s_X6_type G p' 101 post = post (nI (M + 4 + 1)) G p1 from e1, b_f e3]
    exact hc p1 _ c1 y1 e2 (show M + 5 ≤ M + lnB 5 0 from Nat.add_le_add_left (by decide) M)
  · simp only [L6_2, L6_3, L6_4, L6_5, L6_6, show ((2 : Int32) ≤ nI 6) = True from eq_true (by decide), true_implies, false_implies, not_true_eq_false, not_false_eq_true, and_true, true_and]
    refine signs_ok (k1 := 114) (k2 := 97) (k3 := 116) (k4 := 101) h (by omega) (by decide) (by decide) (by decide) (by decide) (fun p' c' h1 => ?_)
    rw [b_f z10]
    exact hc p' _ c' y1 h1 (show M + 4 ≤ M + lnB 6 0 from Nat.add_le_add_left (by decide) M)
  · simp only [L7_2, L7_3, L7_4, L7_5, L7_6, show ((2 : Int32) ≤ nI 7) = True from eq_true (by decide), true_implies, false_implies, not_true_eq_false, not_false_eq_true, and_true, true_and]
    refine signs_ok (k1 := 119) (k2 := 97) (k3 := 105) (k4 := 116) h (by omega) (by decide) (by decide) (by decide) (by decide) (fun p' c' h1 => ?_)
    rw [b_f z10]
    exact hc p' _ c' y1 h1 (show M + 4 ≤ M + lnB 7 0 from Nat.add_le_add_left (by decide) M)
theorem types_ok {G x y z s H a b c d p : V} {m : Nat} {cc : Nat → Nat} (h : TC p m cc) (px : Int32) {post : Int32 → V → V → V → V → V → V → V → V → V → V → V → Prop} (hp : ∀ p' m' c', TC p' m' c' → post 1 G x y z s H a b c d p') : s_L_types G x y z s H a b c d p px post := by
  obtain ⟨n, n1, n2⟩ := k_low px (n := 4) (by omega) (by omega)
  obtain ⟨p0, e1, e2⟩ := op_clear (G := G) h
  have hm60 : m ≤ 60 := h.1
  unfold s_L_types
  rw [show ∀ post, s_L_low px 4 post = post (nI n) from n2, e1, b_f (n_neg (by omega))]
  unfold sj_L_types_18
  have key : ∀ e k, k + e = n → ∀ (p : V) (m : Nat) (cc : Nat → Nat), TC p m cc → m ≤ 16 * k → sl_L_types_22 post px (nI n) (fun x3 _ v0 v1 v2 v3 v4 v5 v6 v7 v8 v9 v10 => narrow .boolean (.int x3) = .int x3 ∧ post x3 v0 v1 v2 v3 v4 v5 v6 v7 v8 v9 v10) (e + 1) 1 (nI k) G x y z s H a b c d p := by
    intro e
    induction e with
    | zero =>
      intro k hk p m cc h hm
      obtain rfl : k = n := by omega
      show sb_L_types_22 _ _ _ _ _ _ _ G x y z s H a b c d p
      unfold sb_L_types_22
      rw [b_t (Int32.le_refl _)]
      exact ⟨rfl, hp p m cc h⟩
    | succ e ih =>
      intro k hk p m cc h hm
      show sb_L_types_22 post px (nI n) _ (sl_L_types_22 post px (nI n) _ (e + 1)) 1 (nI k) G x y z s H a b c d p
      obtain ⟨q, q1, q2⟩ := k_low (px >>> ((2 + (6 * nI k)) &&& 31)) (n := 8) (by omega) (by omega)
      unfold sb_L_types_22
      rw [b_f (show ¬ nI n ≤ nI k from nI_ge (by omega) (by omega)), show ∀ post, s_L_low (px >>> ((2 + (6 * nI k)) &&& 31)) 8 post = post (nI q) from q2]
      have hw := fun y1 => word_ok (post := post) (f1 := px) (f2 := nI n) (k0 := fun x3 _ v0 v1 v2 v3 v4 v5 v6 v7 v8 v9 v10 => narrow .boolean (.int x3) = .int x3 ∧ post x3 v0 v1 v2 v3 v4 v5 v6 v7 v8 v9 v10) (rec := sl_L_types_22 post px (nI n) (fun x3 _ v0 v1 v2 v3 v4 v5 v6 v7 v8 v9 v10 => narrow .boolean (.int x3) = .int x3 ∧ post x3 v0 v1 v2 v3 v4 v5 v6 v7 v8 v9 v10) (e + 1)) (k := k) (M := m) (G := G) (x := x) (y := y) (z := z) (s := s) (H := H) (a := a) (b := b) (c := c) (d := d) (by omega) (fun p' m' c' h' hm' => ih (k + 1) (by omega) p' m' c' h' (by omega)) q q1 p cc y1 h
      have hqs : q = 0 ∨ q = 1 ∨ q = 2 ∨ q = 3 ∨ q = 4 ∨ q = 5 ∨ q = 6 ∨ q = 7 := by omega
      rcases hqs with rfl | rfl | rfl | rfl | rfl | rfl | rfl | rfl
      · simp only [L0_4, L0_5, L0_6, show (nI 0 < (2 : Int32)) = True from eq_true (by decide), true_implies, false_implies, not_true_eq_false, not_false_eq_true, and_true, true_and]
        exact hw _
      · simp only [L1_4, L1_5, L1_6, show (nI 1 < (2 : Int32)) = True from eq_true (by decide), true_implies, false_implies, not_true_eq_false, not_false_eq_true, and_true, true_and]
        exact hw _
      · simp only [L2_4, L2_5, L2_6, show (nI 2 < (2 : Int32)) = False from eq_false (by decide), true_implies, false_implies, not_true_eq_false, not_false_eq_true, and_true, true_and]
        exact hw _
      · simp only [L3_4, L3_5, L3_6, show (nI 3 < (2 : Int32)) = False from eq_false (by decide), true_implies, false_implies, not_true_eq_false, not_false_eq_true, and_true, true_and]
        exact hw _
      · simp only [L4_4, L4_5, L4_6, show (nI 4 < (2 : Int32)) = False from eq_false (by decide), true_implies, false_implies, not_true_eq_false, not_false_eq_true, and_true, true_and]
        exact hw _
      · simp only [L5_4, L5_5, L5_6, show (nI 5 < (2 : Int32)) = False from eq_false (by decide), true_implies, false_implies, not_true_eq_false, not_false_eq_true, and_true, true_and]
        exact hw _
      · simp only [L6_4, L6_5, L6_6, show (nI 6 < (2 : Int32)) = False from eq_false (by decide), true_implies, false_implies, not_true_eq_false, not_false_eq_true, and_true, true_and]
        exact hw _
      · simp only [L7_4, L7_5, L7_6, show (nI 7 < (2 : Int32)) = False from eq_false (by decide), true_implies, false_implies, not_true_eq_false, not_false_eq_true, and_true, true_and]
        exact hw _
  exact ⟨n + 1, key n 0 (by omega) p0 0 _ e2 (Nat.zero_le _)⟩
