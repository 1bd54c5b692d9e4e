/-! PURE 33: pair -/
def pInv (lo gr fo : Int32) : Prop := (lo = -1 ∧ fo = -1) ∨ ∃ a b, a < 20 ∧ b < 20 ∧ lo = nI a ∧ gr = nI b ∧ fo = nI (20 * a + b)
def gapI (S : Nat → Int32) (s t : Nat) : Int32 := if 0 ≤ S (14 + 10 * s + 0) - S (14 + 10 * t + 0) then S (14 + 10 * s + 0) - S (14 + 10 * t + 0) else 0 - (S (14 + 10 * s + 0) - S (14 + 10 * t + 0))
theorem q_apart {w : V} {s t : Nat} {post : Int32 → V → Prop} (hs : s < 20) (ht : t < 20) : s_X7_apart w (nI s) (nI t) post = post (gapI (w 1) s t) w := by
  unfold s_X7_apart gapI
  rw [q_of0 hs, q_of0 ht]
  by_cases h : 0 ≤ w 1 (14 + 10 * s + 0) - w 1 (14 + 10 * t + 0)
  · rw [b_t h, if_pos h]
  · rw [b_f h, if_neg h, Int32.zero_sub]
theorem d20 {s t : Nat} (hs : s < 20) (ht : t < 20) : nI (20 * s + t) / 20 = nI s ∧ nI (20 * s + t) - nI s * 20 = nI t := by
  have h1 := pk_div (a := 20 * s + t) (d := 20) (by omega) (by omega) (by omega)
  have e1 : (20 * s + t) / 20 = s := by omega
  rw [e1] at h1
  refine ⟨h1, ?_⟩
  show nI (20 * s + t) - nI s * nI 20 = nI t
  rw [pk_mul, pk_sub (by omega)]
  congr 1
  omega
theorem pair_st {v w : V} {nd ns nm t g e l i k : Nat} {x y : Int32} (hRn : Rn v (w 1) nd ns nm t g e l) (hik : i < k) (hkn : k < ns) (lo gr fo le : Int32) (hI : pInv lo gr fo) : ∃ lo' gr' fo' le', pInv lo' gr' fo' ∧ (∀ post k0 rec, sb_X5_closestPair_26 post x y (nI i) k0 rec lo gr le (nI k) v = rec lo' gr' le' (nI (k + 1)) v) ∧ (∀ post k0 rec, sb_X7_pair_28 post x y k0 rec fo le (nI (20 * i + k)) w = rec fo' le' (nI (20 * i + k + 1)) w) := by
  obtain ⟨b, al1, al2⟩ := alike hRn (show i < ns by omega) hkn
  obtain ⟨hg, hb, ⟨hP, hT⟩, hk, h0, hm, hB⟩ := hRn
  obtain ⟨n1, n2, n3, n4, n5, n6, v04, S0, v60, S1, -⟩ := hg
  have k20 : k < 20 := by omega
  have i20 : i < 20 := by omega
  obtain ⟨⟨e0, -, -, -, e4, -⟩, -⟩ := hk k hkn
  obtain ⟨⟨d0, -, -, -, d4, -⟩, -⟩ := hk i (by omega)
  obtain ⟨c1, c2⟩ := d20 i20 k20
  have hle : (nI ns ≤ nI k) = False := eq_false (nI_ge (by omega) (by omega))
  have h400 : ((400 : Int32) ≤ nI (20 * i + k)) = False := eq_false (nI_ge (b := 400) (by omega) (by omega))
  have hki : (nI k ≤ nI i) = False := eq_false (nI_ge hik (by omega))
  by_cases hx : w 1 (14 + 10 * i + 4) = x
  rotate_left
  · refine ⟨lo, gr, fo, le, hI, fun post k0 rec => ?_, fun post k0 rec => ?_⟩
    · simp (disch := omega) only [sb_X5_closestPair_26, v60, hle, vp_in_nI, tn_nI, d4, eq_false hx, nI_1, e10, z01, b_all, not_true_eq_false, not_false_eq_true, true_implies, false_implies, and_true, true_and, or_self, or_true, true_or, or_false, false_or]
    · simp (disch := omega) only [sb_X7_pair_28, h400, c1, c2, hki, t_1, S1, hle, q_of4 i20, eq_false hx, nI_1, e10, z01, b_all, not_true_eq_false, not_false_eq_true, true_implies, false_implies, and_true, true_and, or_self, or_true, true_or, or_false, false_or]
  by_cases hy : w 1 (14 + 10 * k + 4) = x
  rotate_left
  · refine ⟨lo, gr, fo, le, hI, fun post k0 rec => ?_, fun post k0 rec => ?_⟩
    · simp (disch := omega) only [sb_X5_closestPair_26, v60, hle, vp_in_nI, tn_nI, d4, e4, hx, eq_false hy, nI_1, e10, z01, b_all, not_true_eq_false, not_false_eq_true, true_implies, false_implies, and_true, true_and, or_self, or_true, true_or, or_false, false_or]
    · simp (disch := omega) only [sb_X7_pair_28, h400, c1, c2, hki, t_1, S1, hle, q_of4 i20, q_of4 k20, hx, eq_false hy, nI_1, e10, z01, b_all, not_true_eq_false, not_false_eq_true, true_implies, false_implies, and_true, true_and, or_self, or_true, true_or, or_false, false_or]
  cases b with
  | false =>
    refine ⟨lo, gr, fo, le, hI, fun post k0 rec => ?_, fun post k0 rec => ?_⟩
    · simp (disch := omega) only [sb_X5_closestPair_26, v60, hle, vp_in_nI, tn_nI, d4, e4, hx, hy, al1, show bI false = 0 from rfl, nI_1, e10, z01, b_all, not_true_eq_false, not_false_eq_true, true_implies, false_implies, and_true, true_and, or_self, or_true, true_or, or_false, false_or]
    · simp (disch := omega) only [sb_X7_pair_28, h400, c1, c2, hki, t_1, S1, hle, q_of4 i20, q_of4 k20, hx, hy, al2, show bI false = 0 from rfl, nI_1, e10, z01, b_all, not_true_eq_false, not_false_eq_true, true_implies, false_implies, and_true, true_and, or_self, or_true, true_or, or_false, false_or]
  | true =>
    have hap : ∀ post, s_X7_apart w (nI i) (nI k) post = post (gapI (w 1) i k) w := fun post => q_apart i20 k20
    have hgp : (if 0 ≤ w 1 (14 + 10 * i + 0) - w 1 (14 + 10 * k + 0) then w 1 (14 + 10 * i + 0) - w 1 (14 + 10 * k + 0) else 0 - (w 1 (14 + 10 * i + 0) - w 1 (14 + 10 * k + 0))) = gapI (w 1) i k := rfl
    have hm0 : ((-1 : Int32) < 0) = True := eq_true (by decide)
    rcases hI with ⟨rfl, rfl⟩ | ⟨a, b, ha, hb2, rfl, rfl, rfl⟩
    · refine ⟨nI i, nI k, nI (20 * i + k), gapI (w 1) i k, Or.inr ⟨i, k, i20, k20, rfl, rfl, rfl⟩, fun post k0 rec => ?_, fun post k0 rec => ?_⟩
      · simp (disch := omega) only [sb_X5_closestPair_26, v60, hle, vp_in_nI, tn_nI, d4, e4, d0, e0, hx, hy, al1, show bI true = 1 from rfl, hgp, nI_1, e10, z01, b_all, not_true_eq_false, not_false_eq_true, true_implies, false_implies, and_true, true_and, or_self, or_true, true_or, or_false, false_or]
      · simp (disch := omega) only [sb_X7_pair_28, h400, c1, c2, hki, t_1, S1, hle, q_of4 i20, q_of4 k20, hx, hy, al2, show bI true = 1 from rfl, hm0, hap, nI_1, e10, z01, b_all, not_true_eq_false, not_false_eq_true, true_implies, false_implies, and_true, true_and, or_self, or_true, true_or, or_false, false_or]
    · have am : (nI a = -1) = False := eq_false (n_m1 (by omega))
      have an : (nI (20 * a + b) < 0) = False := eq_false (n_neg (by omega))
      by_cases hl : le ≤ gapI (w 1) i k
      · refine ⟨nI a, nI b, nI (20 * a + b), le, Or.inr ⟨a, b, ha, hb2, rfl, rfl, rfl⟩, fun post k0 rec => ?_, fun post k0 rec => ?_⟩
        · simp (disch := omega) only [sb_X5_closestPair_26, v60, hle, vp_in_nI, tn_nI, d4, e4, d0, e0, hx, hy, al1, show bI true = 1 from rfl, hgp, am, eq_true hl, nI_1, e10, z01, b_all, not_true_eq_false, not_false_eq_true, true_implies, false_implies, and_true, true_and, or_self, or_true, true_or, or_false, false_or]
        · simp (disch := omega) only [sb_X7_pair_28, h400, c1, c2, hki, t_1, S1, hle, q_of4 i20, q_of4 k20, hx, hy, al2, show bI true = 1 from rfl, an, hap, eq_true hl, nI_1, e10, z01, b_all, not_true_eq_false, not_false_eq_true, true_implies, false_implies, and_true, true_and, or_self, or_true, true_or, or_false, false_or]
      · refine ⟨nI i, nI k, nI (20 * i + k), gapI (w 1) i k, Or.inr ⟨i, k, i20, k20, rfl, rfl, rfl⟩, fun post k0 rec => ?_, fun post k0 rec => ?_⟩
        · simp (disch := omega) only [sb_X5_closestPair_26, v60, hle, vp_in_nI, tn_nI, d4, e4, d0, e0, hx, hy, al1, show bI true = 1 from rfl, hgp, am, eq_false hl, nI_1, e10, z01, b_all, not_true_eq_false, not_false_eq_true, true_implies, false_implies, and_true, true_and, or_self, or_true, true_or, or_false, false_or]
        · simp (disch := omega) only [sb_X7_pair_28, h400, c1, c2, hki, t_1, S1, hle, q_of4 i20, q_of4 k20, hx, hy, al2, show bI true = 1 from rfl, an, hap, eq_false hl, nI_1, e10, z01, b_all, not_true_eq_false, not_false_eq_true, true_implies, false_implies, and_true, true_and, or_self, or_true, true_or, or_false, false_or]
theorem pair_skip {w : V} {ns i k : Nat} {x y : Int32} (S1 : w 1 1 = nI ns) (hn : ns ≤ 20) (hi : i < 20) (hk : k < 20) (h : k ≤ i ∨ ns ≤ k) (fo le : Int32) : ∀ post k0 rec, sb_X7_pair_28 post x y k0 rec fo le (nI (20 * i + k)) w = rec fo le (nI (20 * i + k + 1)) w := by
  intro post k0 rec
  obtain ⟨c1, c2⟩ := d20 hi hk
  have h400 : ((400 : Int32) ≤ nI (20 * i + k)) = False := eq_false (nI_ge (b := 400) (by omega) (by omega))
  by_cases hki : k ≤ i
  · have q : (nI k ≤ nI i) = True := eq_true (lel hki (by omega))
    simp (disch := omega) only [sb_X7_pair_28, h400, c1, c2, q, nI_1, e10, z01, b_all, not_true_eq_false, not_false_eq_true, true_implies, false_implies, and_true, true_and, or_self, or_true, true_or, or_false, false_or]
  · have q : (nI k ≤ nI i) = False := eq_false (gtl (by omega) (by omega))
    have q2 : (nI ns ≤ nI k) = True := eq_true (lel (by omega) (by omega))
    simp (disch := omega) only [sb_X7_pair_28, h400, c1, c2, q, t_1, S1, q2, nI_1, e10, z01, b_all, not_true_eq_false, not_false_eq_true, true_implies, false_implies, and_true, true_and, or_self, or_true, true_or, or_false, false_or]
theorem pair_skips {w : V} {ns i : Nat} {x y : Int32} (S1 : w 1 1 = nI ns) (hn : ns ≤ 20) (hi : i < 20) (fo le : Int32) {post : Int32 → V → Prop} {k0 : Int32 → Int32 → Int32 → V → Prop} : ∀ d k, k + d ≤ 20 → (∀ j, k ≤ j → j < k + d → j ≤ i ∨ ns ≤ j) → (∃ n, sl_X7_pair_28 post x y k0 n fo le (nI (20 * i + k)) w) = (∃ n, sl_X7_pair_28 post x y k0 n fo le (nI (20 * i + (k + d))) w) := by
  intro d
  induction d with
  | zero => intro k _ _; rfl
  | succ d ih =>
    intro k hk hj
    have := ih (k + 1) (by omega) (fun j a b => hj j (by omega) (by omega))
    rw [show k + (d + 1) = k + 1 + d by omega]
    exact (xs_X7_pair_28 (fun rec => pair_skip S1 hn hi (by omega) (hj k (by omega) (by omega)) fo le post k0 rec)).trans this
theorem pair_row {v w : V} {nd ns nm t g e l i : Nat} {x y : Int32} (hRn : Rn v (w 1) nd ns nm t g e l) : ∀ d k lo gr fo le, k + d = ns → i < k → pInv lo gr fo → ∃ lo' gr' fo' le', pInv lo' gr' fo' ∧ (∀ post k0, (∃ n, sl_X5_closestPair_26 post x y (nI i) k0 n lo gr le (nI k) v) = k0 lo' gr' le' (nI ns) v) ∧ (∀ post k0, (∃ n, sl_X7_pair_28 post x y k0 n fo le (nI (20 * i + k)) w) = (∃ n, sl_X7_pair_28 post x y k0 n fo' le' (nI (20 * i + ns)) w)) := by
  intro d
  induction d with
  | zero =>
    intro k lo gr fo le hk _ hI
    obtain rfl : k = ns := by omega
    have v60 : v 6 0 = nI k := hRn.1.2.2.2.2.2.2.2.2.1
    exact ⟨lo, gr, fo, le, hI, fun post k0 => xo_X5_closestPair_26 (fun rec => b_t (show v 6 0 ≤ nI k by rw [v60]; exact Int32.le_refl _)), fun post k0 => rfl⟩
  | succ d ih =>
    intro k lo gr fo le hk hik hI
    obtain ⟨l1, g1, f1, m1, i1, h1, h2⟩ := pair_st (x := x) (y := y) hRn hik (show k < ns by omega) lo gr fo le hI
    obtain ⟨l2, g2, f2, m2, i2, h3, h4⟩ := ih (k + 1) l1 g1 f1 m1 (by omega) (by omega) i1
    exact ⟨l2, g2, f2, m2, i2, fun post k0 => (xs_X5_closestPair_26 (fun rec => h1 post k0 rec)).trans (h3 post k0), fun post k0 => (xs_X7_pair_28 (fun rec => h2 post k0 rec)).trans (h4 post k0)⟩
theorem pair_rows {v w : V} {nd ns nm t g e l : Nat} {x y : Int32} (hRn : Rn v (w 1) nd ns nm t g e l) : ∀ d i lo gr fo le, i + d = ns → pInv lo gr fo → ∃ lo' gr' fo' le', pInv lo' gr' fo' ∧ (∀ post k0, (∃ n, sl_X5_closestPair_11 post x y k0 n lo gr le (nI i) v) = k0 lo' gr' le' (nI ns) v) ∧ (∀ post k0, (∃ n, sl_X7_pair_28 post x y k0 n fo le (nI (20 * i)) w) = (∃ n, sl_X7_pair_28 post x y k0 n fo' le' (nI (20 * ns)) w)) := by
  have v60 : v 6 0 = nI ns := hRn.1.2.2.2.2.2.2.2.2.1
  have S1 : w 1 1 = nI ns := hRn.1.2.2.2.2.2.2.2.2.2.1
  have n2 : ns ≤ 20 := hRn.1.2.1
  intro d
  induction d with
  | zero =>
    intro i lo gr fo le hi hI
    obtain rfl : i = ns := by omega
    exact ⟨lo, gr, fo, le, hI, fun post k0 => xo_X5_closestPair_11 (fun rec => b_t (show v 6 0 ≤ nI i by rw [v60]; exact Int32.le_refl _)), fun post k0 => rfl⟩
  | succ d ih =>
    intro i lo gr fo le hi hI
    obtain ⟨l1, g1, f1, m1, i1, h1, h2⟩ := pair_row (x := x) (y := y) (i := i) hRn (ns - (i + 1)) (i + 1) lo gr fo le (by omega) (by omega) hI
    obtain ⟨l2, g2, f2, m2, i2, h3, h4⟩ := ih (i + 1) l1 g1 f1 m1 (by omega) i1
    refine ⟨l2, g2, f2, m2, i2, fun post k0 => (xs_X5_closestPair_11 (fun rec => ?_)).trans (h3 post k0), fun post k0 => ?_⟩
    · unfold sb_X5_closestPair_11
      rw [v60, b_f (nI_ge (by omega) (by omega)), nI_1]
      exact h1 post (fun a b c _ v => rec a b c (nI (i + 1)) v)
    · have s1 := pair_skips (x := x) (y := y) (post := post) (k0 := k0) S1 n2 (show i < 20 by omega) fo le (i + 1) 0 (by omega) (fun j _ h => Or.inl (by omega))
      have s2 := pair_skips (x := x) (y := y) (post := post) (k0 := k0) S1 n2 (show i < 20 by omega) f1 m1 (20 - ns) ns (by omega) (fun j h _ => Or.inr h)
      rw [Nat.zero_add] at s1
      rw [show 20 * i + (ns + (20 - ns)) = 20 * (i + 1) by omega] at s2
      exact s1.trans ((h2 post k0).trans (s2.trans (h4 post k0)))
