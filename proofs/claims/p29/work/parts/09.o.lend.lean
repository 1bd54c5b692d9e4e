/-! PURE 15: lend -/
theorem n11 : (nI 1 = 1) = True := eq_true rfl
theorem n01 : (nI 0 = 1) = False := eq_false (by decide)
theorem n00 : (nI 0 = 0) = True := eq_true rfl
theorem n10 : (nI 1 = 0) = False := eq_false (by decide)
theorem z01 : ((0 : Int32) = 0) = True := eq_true rfl
theorem posn {u : Int32} (h : ¬ u ≤ 0) : ∃ z, 1 ≤ z ∧ z < 2147483648 ∧ u = nI z := by
  have h1 : (0 : Int32).toInt = 0 := by decide
  rw [Int32.le_iff_toInt_le, h1] at h
  have h2 : u.toInt < 2147483648 := u.toInt_lt
  refine ⟨u.toInt.toNat, by omega, by omega, ?_⟩
  apply Int32.toInt_inj.mp
  rw [nI_toInt (by omega)]
  omega
/-- a set of stones that there are -/
theorem setOr (u : Int32) {ns : Nat} (hn : ns ≤ 20) : (∃ z, 1 ≤ z ∧ z < 2 ^ ns ∧ z < 2147483648 ∧ u = nI z) ∨ (u ≤ 0 ∨ ∃ z, 2 ^ ns ≤ z ∧ z < 2147483648 ∧ u = nI z) := by
  by_cases h : u ≤ 0
  · exact Or.inr (Or.inl h)
  · obtain ⟨z, h1, h2, h3⟩ := posn h
    by_cases h4 : z < 2 ^ ns
    · exact Or.inl ⟨z, h1, h4, h2, h3⟩
    · exact Or.inr (Or.inr ⟨z, by omega, h2, h3⟩)
theorem sh_n {z ns : Nat} (hz : z < 2147483648) (hn : ns ≤ 20) : nI z >>> (nI ns &&& 31) = nI (z / 2 ^ ns) := pk_shrN hz _ ns (s31 ns (by omega))
theorem full_n {ns : Nat} (hn : ns ≤ 20) : ((1 : Int32) <<< (nI ns &&& 31)) - 1 = nI (2 ^ ns - 1) := by
  have : 1 ≤ 2 ^ ns := Nat.one_le_two_pow
  rw [one_n (by omega)]
  exact pk_sub (a := 2 ^ ns) (b := 1) this
/-- a stone that its owner holds, with a price -/
def good (S : Nat → Int32) (f k : Nat) : Prop := S (14 + 10 * k + 3) = nI f ∧ S (14 + 10 * k + 4) = nI f ∧ ¬ pS S k = -1
theorem bit01 (z k : Nat) : z / 2 ^ k % 2 = 0 ∨ z / 2 ^ k % 2 = 1 := by omega
theorem good.home {v : V} {S : Nat → Int32} {nd nm f k : Nat} (h : good S f k) (hf : f < 1000) (hd : nd ≤ 6) (hk : Rk v S nd nm k) : stH S nd nm k := by
  obtain ⟨-, -, h1 | ⟨q, cc, q1, q2, q3, q4, q5, -⟩ | ⟨o, hh, m, a, cc, g1, g2, g3, g4, g5, g6, g7, g8, -⟩⟩ := hk
  · exact h1
  · rw [h.1] at q4
    exact absurd q4 (n_m1 (by omega))
  · have e1 := g7.symm.trans h.1
    have e2 := g8.symm.trans h.2.1
    rw [n_eq (by omega) (by omega)] at e1 e2
    omega
theorem c_step {v : V} {S : Nat → Int32} {nd ns nm f z k : Nat} (hP : RP v S) (hT : okT S) (hk : Rk v S nd nm k) (v60 : v 6 0 = nI ns) (hn : ns ≤ 20) (hkn : k < ns) (hz : z < 2147483648) (post : Int32 → V → Prop) (k0 rec : Int32 → V → Prop) : ((z / 2 ^ k % 2 = 1 → good S f k) → sb_X1_canLend_2 post (nI f) (nI z) k0 rec (nI k) v = rec (nI (k + 1)) v) ∧ (z / 2 ^ k % 2 = 1 → ¬ good S f k → sb_X1_canLend_2 post (nI f) (nI z) k0 rec (nI k) v = post 0 v) := by
  obtain ⟨⟨e0, e1, e2, e3, e4, -⟩, hO, -⟩ := hk
  have hpr : ∀ post, s_X1_priceOf v (nI k) post = post (pS S k) v := fun post => k_price hP hT hO e0 e1 e2 (by omega)
  have hle : (nI ns ≤ nI k) = False := eq_false (nI_ge (by omega) (by omega))
  constructor
  · intro hg
    rcases bit01 z k with hb | hb
    · simp (disch := omega) only [sb_X1_canLend_2, v60, hle, bit_n hz (show k < 32 by omega), hb, n01, nI_1, e10, b_all, not_true_eq_false, not_false_eq_true, true_implies, false_implies, and_true, true_and]
    · obtain ⟨g1, g2, g3⟩ := hg hb
      simp (disch := omega) only [sb_X1_canLend_2, v60, hle, bit_n hz (show k < 32 by omega), hb, n11, nI_1, vp_in_nI, tn_nI, e3, e4, g1, g2, hpr, g3, e10, b_all, not_true_eq_false, not_false_eq_true, true_implies, false_implies, and_true, true_and]
  · intro hb hg
    by_cases g1 : S (14 + 10 * k + 3) = nI f
    · by_cases g2 : S (14 + 10 * k + 4) = nI f
      · have g3 : pS S k = -1 := by
          by_cases q : pS S k = -1
          · exact q
          · exact absurd ⟨g1, g2, q⟩ hg
        simp (disch := omega) only [sb_X1_canLend_2, v60, hle, bit_n hz (show k < 32 by omega), hb, n11, nI_1, vp_in_nI, tn_nI, e3, e4, g1, g2, hpr, g3, e10, b_all, not_true_eq_false, not_false_eq_true, true_implies, false_implies, and_true, true_and]
      · simp (disch := omega) only [sb_X1_canLend_2, v60, hle, bit_n hz (show k < 32 by omega), hb, n11, nI_1, vp_in_nI, tn_nI, e3, e4, g1, g2, e10, b_all, not_true_eq_false, not_false_eq_true, true_implies, false_implies, and_true, true_and]
    · simp (disch := omega) only [sb_X1_canLend_2, v60, hle, bit_n hz (show k < 32 by omega), hb, n11, nI_1, vp_in_nI, tn_nI, e3, e4, g1, e10, b_all, not_true_eq_false, not_false_eq_true, true_implies, false_implies, and_true, true_and]
theorem r_step {v w : V} {nd ns nm f z k : Nat} (hT : okT (w 1)) (hk : Rk v (w 1) nd nm k) (S1 : w 1 1 = nI ns) (hn : ns ≤ 20) (hkn : k < ns) (hd : nd ≤ 6) (hnm : nm ≤ 10) (hf : f < nd) (hz : z < 2147483648) (post : Int32 → V → Prop) (k0 rec : Int32 → Int32 → V → Prop) : (sb_X7_mayLend_5 post (nI f) (nI z) k0 rec 0 (nI k) w = rec 0 (nI (k + 1)) w) ∧ ((z / 2 ^ k % 2 = 1 → good (w 1) f k) → sb_X7_mayLend_5 post (nI f) (nI z) k0 rec 1 (nI k) w = rec 1 (nI (k + 1)) w) ∧ (z / 2 ^ k % 2 = 1 → ¬ good (w 1) f k → sb_X7_mayLend_5 post (nI f) (nI z) k0 rec 1 (nI k) w = rec 0 (nI (k + 1)) w) := by
  have k20 : k < 20 := by omega
  have hk' := hk
  obtain ⟨-, hO, -⟩ := hk'
  have hpr : ∀ post, s_X7_price w (nI k) post = post (pS (w 1) k) w := fun post => q_price hT hO k20
  have hle : (nI ns ≤ nI k) = False := eq_false (nI_ge (by omega) (by omega))
  have hm1 : ((-1 : Int32) < 0) = True := eq_true (by decide)
  by_cases g1 : w 1 (14 + 10 * k + 3) = nI f
  · by_cases g2 : w 1 (14 + 10 * k + 4) = nI f
    · have h5 : w 1 (14 + 10 * k + 5) = -1 := by
        obtain ⟨-, -, ⟨o, cc, q1, q2, q3, q4, q5, -⟩ | ⟨q, cc, q1, q2, q3, q4, q5, q6, -⟩ | ⟨o, hh, m, a, cc, f1, f2, f3, f4, f5, f6, f7, f8, -⟩⟩ := hk
        · exact q5
        · exact q6
        · have e1 := f7.symm.trans g1
          have e2 := f8.symm.trans g2
          rw [n_eq (by omega) (by omega)] at e1 e2
          omega
      rcases pS_m1 hT hO with ⟨g3, -⟩ | ⟨x, hx, g3, -⟩
      · refine ⟨?_, fun hg => ?_, fun hb hg => ?_⟩
        · simp (disch := omega) only [sb_X7_mayLend_5, t_1, S1, hle, q_of3 k20, q_of4 k20, g1, g2, q_isOut_f k20 h5, hpr, g3, hm1, nI_1, z01, e10, b_all, not_true_eq_false, not_false_eq_true, true_implies, false_implies, and_true, true_and]
        · rcases bit01 z k with hb | hb
          · simp (disch := omega) only [sb_X7_mayLend_5, t_1, S1, hle, q_of3 k20, q_of4 k20, g1, g2, q_isOut_f k20 h5, hpr, g3, hm1, bit_n hz (show k < 32 by omega), hb, n00, nI_1, z01, e10, b_all, not_true_eq_false, not_false_eq_true, true_implies, false_implies, and_true, true_and]
          · exact absurd g3 (hg hb).2.2
        · simp (disch := omega) only [sb_X7_mayLend_5, t_1, S1, hle, q_of3 k20, q_of4 k20, g1, g2, q_isOut_f k20 h5, hpr, g3, hm1, bit_n hz (show k < 32 by omega), hb, n10, nI_1, z01, e10, b_all, not_true_eq_false, not_false_eq_true, true_implies, false_implies, and_true, true_and]
      · have hx0 : (nI x < 0) = False := eq_false (n_neg (by omega))
        refine ⟨?_, fun hg => ?_, fun hb hg => ?_⟩
        · simp (disch := omega) only [sb_X7_mayLend_5, t_1, S1, hle, q_of3 k20, q_of4 k20, g1, g2, q_isOut_f k20 h5, hpr, g3, hx0, nI_1, z01, e10, b_all, not_true_eq_false, not_false_eq_true, true_implies, false_implies, and_true, true_and]
        · rcases bit01 z k with hb | hb
          · simp (disch := omega) only [sb_X7_mayLend_5, t_1, S1, hle, q_of3 k20, q_of4 k20, g1, g2, q_isOut_f k20 h5, hpr, g3, hx0, bit_n hz (show k < 32 by omega), hb, n00, nI_1, z01, e10, b_all, not_true_eq_false, not_false_eq_true, true_implies, false_implies, and_true, true_and]
          · simp (disch := omega) only [sb_X7_mayLend_5, t_1, S1, hle, q_of3 k20, q_of4 k20, g1, g2, q_isOut_f k20 h5, hpr, g3, hx0, bit_n hz (show k < 32 by omega), hb, n10, nI_1, z01, e10, b_all, not_true_eq_false, not_false_eq_true, true_implies, false_implies, and_true, true_and]
        · exact absurd ⟨g1, g2, by rw [g3]; exact n_m1 (by omega)⟩ hg
    · refine ⟨?_, fun hg => ?_, fun hb hg => ?_⟩
      · simp (disch := omega) only [sb_X7_mayLend_5, t_1, S1, hle, q_of3 k20, q_of4 k20, g1, g2, nI_1, z01, e10, b_all, not_true_eq_false, not_false_eq_true, true_implies, false_implies, and_true, true_and]
      · rcases bit01 z k with hb | hb
        · simp (disch := omega) only [sb_X7_mayLend_5, t_1, S1, hle, q_of3 k20, q_of4 k20, g1, g2, bit_n hz (show k < 32 by omega), hb, n00, nI_1, z01, e10, b_all, not_true_eq_false, not_false_eq_true, true_implies, false_implies, and_true, true_and]
        · exact absurd (hg hb).2.1 g2
      · simp (disch := omega) only [sb_X7_mayLend_5, t_1, S1, hle, q_of3 k20, q_of4 k20, g1, g2, bit_n hz (show k < 32 by omega), hb, n10, nI_1, z01, e10, b_all, not_true_eq_false, not_false_eq_true, true_implies, false_implies, and_true, true_and]
  · refine ⟨?_, fun hg => ?_, fun hb hg => ?_⟩
    · simp (disch := omega) only [sb_X7_mayLend_5, t_1, S1, hle, q_of3 k20, g1, nI_1, z01, e10, b_all, not_true_eq_false, not_false_eq_true, true_implies, false_implies, and_true, true_and]
    · rcases bit01 z k with hb | hb
      · simp (disch := omega) only [sb_X7_mayLend_5, t_1, S1, hle, q_of3 k20, g1, bit_n hz (show k < 32 by omega), hb, n00, nI_1, z01, e10, b_all, not_true_eq_false, not_false_eq_true, true_implies, false_implies, and_true, true_and]
      · exact absurd (hg hb).1 g1
    · simp (disch := omega) only [sb_X7_mayLend_5, t_1, S1, hle, q_of3 k20, g1, bit_n hz (show k < 32 by omega), hb, n10, nI_1, z01, e10, b_all, not_true_eq_false, not_false_eq_true, true_implies, false_implies, and_true, true_and]
/-- both sides' test of a set: one answer -/
theorem may {v w : V} {nd ns nm t g e l f z : Nat} (h : Rn v (w 1) nd ns nm t g e l) (hf : f < nd) (hz : z < 2147483648) : (∃ b : Bool, (∀ post, s_X1_canLend v (nI f) (nI z) post = post (bI b) v) ∧ (∀ post, s_X7_mayLend w (nI f) (nI z) post = post (bI b) w) ∧ (b = true → ∀ k, k < ns → z / 2 ^ k % 2 = 1 → good (w 1) f k)) := by
  obtain ⟨hg, hb, ⟨hP, hT⟩, hk, h0, hm, hB⟩ := h
  obtain ⟨n1, n2, n3, n4, n5, n6, v04, S0, v60, S1, -⟩ := hg
  have hr0 : ∀ (post : Int32 → V → Prop) (k0 : Int32 → Int32 → V → Prop), ∀ d k, k + d = ns → (∃ n, sl_X7_mayLend_5 post (nI f) (nI z) k0 n 0 (nI k) w) = k0 0 (nI ns) w := by
    intro post k0 d
    induction d with
    | zero =>
      intro k hk
      obtain rfl : k = ns := by omega
      exact xo_X7_mayLend_5 (fun rec => b_t (show w 1 1 ≤ nI k by rw [S1]; exact Int32.le_refl _))
    | succ d ih =>
      intro k hk'
      exact (xs_X7_mayLend_5 (fun rec => (r_step hT (hk k (by omega)) S1 n2 (by omega) n1 n3 hf hz post k0 rec).1)).trans (ih (k + 1) (by omega))
  by_cases hall : ∀ k, k < ns → z / 2 ^ k % 2 = 1 → good (w 1) f k
  · refine ⟨true, fun post => ?_, fun post => ?_, fun _ => hall⟩
    · have key : ∀ d k, k + d = ns → (∃ n, sl_X1_canLend_2 post (nI f) (nI z) (fun _ v => post 1 v) n (nI k) v) = post 1 v := by
        intro d
        induction d with
        | zero =>
          intro k hk
          obtain rfl : k = ns := by omega
          exact xo_X1_canLend_2 (fun rec => b_t (show v 6 0 ≤ nI k by rw [v60]; exact Int32.le_refl _))
        | succ d ih =>
          intro k hk'
          exact (xs_X1_canLend_2 (fun rec => (c_step hP hT (hk k (by omega)) v60 n2 (by omega) hz post _ rec).1 (hall k (by omega)))).trans (ih (k + 1) (by omega))
      exact key ns 0 (by omega)
    · have key : ∀ (k0 : Int32 → Int32 → V → Prop), ∀ d k, k + d = ns → (∃ n, sl_X7_mayLend_5 post (nI f) (nI z) k0 n 1 (nI k) w) = k0 1 (nI ns) w := by
        intro k0 d
        induction d with
        | zero =>
          intro k hk
          obtain rfl : k = ns := by omega
          exact xo_X7_mayLend_5 (fun rec => b_t (show w 1 1 ≤ nI k by rw [S1]; exact Int32.le_refl _))
        | succ d ih =>
          intro k hk'
          exact (xs_X7_mayLend_5 (fun rec => (r_step hT (hk k (by omega)) S1 n2 (by omega) n1 n3 hf hz post k0 rec).2.1 (hall k (by omega)))).trans (ih (k + 1) (by omega))
      exact (key _ ns 0 (by omega)).trans (b_and (nz true))
  · have hex : ∃ k, k < ns ∧ (z / 2 ^ k % 2 = 1 ∧ ¬ good (w 1) f k) := by
      apply Classical.byContradiction
      intro q
      exact hall (fun k h1 h2 => Classical.byContradiction (fun h3 => q ⟨k, h1, h2, h3⟩))
    obtain ⟨i, hi, ⟨hib, hig⟩, hfi⟩ := least hex
    have hfi' : ∀ j, j < i → z / 2 ^ j % 2 = 1 → good (w 1) f j := fun j hj hb => Classical.byContradiction (fun h3 => hfi j hj ⟨hb, h3⟩)
    refine ⟨false, fun post => ?_, fun post => ?_, fun q => absurd q (by decide)⟩
    · have key : ∀ d k, k + d = i → (∃ n, sl_X1_canLend_2 post (nI f) (nI z) (fun _ v => post 1 v) n (nI k) v) = post 0 v := by
        intro d
        induction d with
        | zero =>
          intro k hk'
          obtain rfl : k = i := by omega
          exact xo_X1_canLend_2 (fun rec => (c_step hP hT (hk k hi) v60 n2 hi hz post _ rec).2 hib hig)
        | succ d ih =>
          intro k hk'
          exact (xs_X1_canLend_2 (fun rec => (c_step hP hT (hk k (by omega)) v60 n2 (by omega) hz post _ rec).1 (hfi' k (by omega)))).trans (ih (k + 1) (by omega))
      exact key i 0 (by omega)
    · have key : ∀ (k0 : Int32 → Int32 → V → Prop), ∀ d k, k + d = i → (∃ n, sl_X7_mayLend_5 post (nI f) (nI z) k0 n 1 (nI k) w) = k0 0 (nI ns) w := by
        intro k0 d
        induction d with
        | zero =>
          intro k hk'
          obtain rfl : k = i := by omega
          exact (xs_X7_mayLend_5 (fun rec => (r_step hT (hk k hi) S1 n2 hi n1 n3 hf hz post k0 rec).2.2 hib hig)).trans (hr0 post k0 (ns - (k + 1)) (k + 1) (by omega))
        | succ d ih =>
          intro k hk'
          exact (xs_X7_mayLend_5 (fun rec => (r_step hT (hk k (by omega)) S1 n2 (by omega) n1 n3 hf hz post k0 rec).2.1 (hfi' k (by omega)))).trans (ih (k + 1) (by omega))
      exact (key _ i 0 (by omega)).trans (b_and (nz false))
