/-! PURE 34: pair, told -/
theorem pair_tail {w : V} {ns : Nat} {x y : Int32} (S1 : w 1 1 = nI ns) (hn : ns ≤ 20) (fo le : Int32) {post : Int32 → V → Prop} {k0 : Int32 → Int32 → Int32 → V → Prop} : ∀ d i, i + d = 20 → ns ≤ i → (∃ n, sl_X7_pair_28 post x y k0 n fo le (nI (20 * i)) w) = k0 fo le (nI 400) w := by
  intro d
  induction d with
  | zero =>
    intro i hi _
    obtain rfl : i = 20 := by omega
    exact xo_X7_pair_28 (fun rec => b_t (show (400 : Int32) ≤ nI 400 by decide))
  | succ d ih =>
    intro i hi hni
    have s := pair_skips (x := x) (y := y) (post := post) (k0 := k0) S1 hn (show i < 20 by omega) fo le 20 0 (by omega) (fun j _ _ => by omega)
    rw [show 20 * i + (0 + 20) = 20 * (i + 1) by omega, Nat.add_zero] at s
    exact s.trans (ih (i + 1) (by omega) (by omega))
theorem qz_pair {v0 v w : V} (h : R v (w 1)) (p x : Int32) : Qz (s_X6_pair v0 v p x) (s_X7_pair w p x) v0 v w := by
  obtain ⟨nd, ns, nm, t, g, e, hRn⟩ := h
  have hRn' := hRn
  obtain ⟨hg, -⟩ := hRn'
  obtain ⟨n1, n2, n3, n4, n5, n6, v04, S0, v60, S1, -⟩ := hg
  rcases ixn p (n := nd) (by omega) with ⟨d, hd, rfl⟩ | hp
  rotate_left
  · refine Qz.mk (r := -10000001) (fun post => ?_) (fun post => ?_)
    · simp only [s_X6_pair, k_deal_f v04 hp, e10, z01, b_all, not_true_eq_false, not_false_eq_true, true_implies, false_implies, and_true, true_and, or_self, or_true, true_or, or_false, false_or]
    · simp only [s_X7_pair, q_isDealer_f S0 (show nd < 1000000 by omega) hp, e10, z01, b_all, not_true_eq_false, not_false_eq_true, true_implies, false_implies, and_true, true_and, or_self, or_true, true_or, or_false, false_or]
  have hdl : ∀ post, s_X7_isDealer w (nI d) post = post 1 w := fun post => q_isDealer_t S0 (show nd < 1000000 by omega) hd
  rcases rng x (a := 0) (b := 2) (by omega) (by omega) with ⟨c, -, hc2, rfl⟩ | hx
  rotate_left
  · refine Qz.mk (r := -10000001) (fun post => ?_) (fun post => ?_)
    · by_cases hx1 : x < 0
      · simp only [s_X6_pair, k_deal_t v04 n1 hd, eq_true hx1, e10, z01, b_all, not_true_eq_false, not_false_eq_true, true_implies, false_implies, and_true, true_and, or_self, or_true, true_or, or_false, false_or]
      · have q : (x ≤ 2) = False := eq_false (nle (hx.resolve_left hx1))
        simp only [s_X6_pair, k_deal_t v04 n1 hd, eq_false hx1, q, e10, z01, b_all, not_true_eq_false, not_false_eq_true, true_implies, false_implies, and_true, true_and, or_self, or_true, true_or, or_false, false_or]
    · simp only [s_X7_pair, hdl, q_in_f (show x < 0 ∨ 2 < x from hx), e10, z01, b_all, not_true_eq_false, not_false_eq_true, true_implies, false_implies, and_true, true_and, or_self, or_true, true_or, or_false, false_or]
  have f1 : (nI c < 0) = False := eq_false (n_neg (by omega))
  have f2 : (nI c ≤ 2) = True := eq_true (lel (n := 2) hc2 (by omega))
  have f3 : ∀ post, s_X7_in (nI c) 0 2 post = post 1 := fun post => q_in_n (a := 0) (b := 2) (by omega) hc2 (by omega)
  obtain ⟨lo, gr, fo, le, hI, h1, h2⟩ := pair_rows (x := nI d) (y := nI c) hRn ns 0 (-1) (-1) (-1) 0 (by omega) (Or.inl ⟨rfl, rfl⟩)
  have hcl : ∀ post, s_X6_pair v0 v (nI d) (nI c) post = ((¬ lo = (-1) → ((¬ nI c = 0 → ((¬ nI c = 1 → post le v0 v) ∧ (nI c = 1 → post gr v0 v))) ∧ (nI c = 0 → post lo v0 v))) ∧ (lo = (-1) → (post (-10000004) v0 v))) := fun post => by
    simp only [s_X6_pair, k_deal_t v04 n1 hd, f1, f2, s_X5_closestPair, e10, z01, b_all, not_true_eq_false, not_false_eq_true, true_implies, false_implies, and_true, true_and, or_self, or_true, true_or, or_false, false_or]
    exact h1 _ (fun x3 x4 x5 _ v => (¬ x3 = (-1) → ((¬ nI c = 0 → ((¬ nI c = 1 → post x5 v0 v) ∧ (nI c = 1 → post x4 v0 v))) ∧ (nI c = 0 → post x3 v0 v))) ∧ (x3 = (-1) → (post (-10000004) v0 v)))
  have hrf : ∀ post, s_X7_pair w (nI d) (nI c) post = ((0 ≤ fo → ((¬ nI c = 0 → ((¬ nI c = 1 → post le w) ∧ (nI c = 1 → (post (fo - fo / 20 * 20) w)))) ∧ (nI c = 0 → (post (fo / 20) w)))) ∧ (¬ 0 ≤ fo → (post (-10000004) w))) := fun post => by
    simp only [s_X7_pair, hdl, f3, e10, z01, b_all, not_true_eq_false, not_false_eq_true, true_implies, false_implies, and_true, true_and, or_self, or_true, true_or, or_false, false_or]
    refine (h2 _ (fun x3 x4 _ v => (0 ≤ x3 → ((¬ nI c = 0 → ((¬ nI c = 1 → post x4 v) ∧ (nI c = 1 → (post (x3 - x3 / 20 * 20) v)))) ∧ (nI c = 0 → (post (x3 / 20) v)))) ∧ (¬ 0 ≤ x3 → (post (-10000004) v)))).trans ?_
    exact pair_tail S1 n2 fo le (20 - ns) ns (by omega) (Nat.le_refl _)
  rcases hI with ⟨rfl, rfl⟩ | ⟨a, b, ha, hb, rfl, rfl, rfl⟩
  · exact Qz.mk (r := -10000004) (fun post => by rw [hcl]; exact b_t' rfl) (fun post => by rw [hrf]; exact b_f (by decide))
  · obtain ⟨c1, c2⟩ := d20 ha hb
    have am : ¬ nI a = -1 := n_m1 (by omega)
    have ap : 0 ≤ nI (20 * a + b) := nI_pos' (by omega)
    have hcs : c = 0 ∨ c = 1 ∨ c = 2 := by omega
    rcases hcs with rfl | rfl | rfl
    · exact Qz.mk (r := nI a) (fun post => by rw [hcl, b_f' am, b_t' (show nI 0 = 0 from rfl)]) (fun post => by rw [hrf, b_t ap, b_t' (show nI 0 = 0 from rfl), c1])
    · exact Qz.mk (r := nI b) (fun post => by rw [hcl, b_f' am, b_f' (show ¬ nI 1 = 0 by decide), b_t' (show nI 1 = 1 from rfl)]) (fun post => by rw [hrf, b_t ap, b_f' (show ¬ nI 1 = 0 by decide), b_t' (show nI 1 = 1 from rfl), c1, c2])
    · exact Qz.mk (r := le) (fun post => by rw [hcl, b_f' am, b_f' (show ¬ nI 2 = 0 by decide), b_f' (show ¬ nI 2 = 1 by decide)]) (fun post => by rw [hrf, b_t ap, b_f' (show ¬ nI 2 = 0 by decide), b_f' (show ¬ nI 2 = 1 by decide)])
