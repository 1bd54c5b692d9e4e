/-! P29 4: the digest is the row's alone -/
theorem tl_stoneOf (S : Nat → Int32) (p x : Int32) : ∃ r, ∀ v0 v, R v S → ∀ post, s_X6_stoneOf v0 v p x post = post r v0 v := by
  by_cases hex : ∃ v, R v S
  rotate_left
  · exact ⟨0, fun v0 v h => absurd ⟨v, h⟩ hex⟩
  · obtain ⟨v1, h1⟩ := hex
    obtain ⟨r, -, a2⟩ := qz_stoneOf (v0 := z0) (gwR h1) p x
    refine ⟨r, fun v0 v h post => ?_⟩
    obtain ⟨r', b1, b2⟩ := qz_stoneOf (v0 := v0) (gwR h) p x
    rw [(det a2 b2).1]
    exact b1 post
theorem tl_dealerOf (S : Nat → Int32) (p x : Int32) : ∃ r, ∀ v0 v, R v S → ∀ post, s_X6_dealerOf v0 v p x post = post r v0 v := by
  by_cases hex : ∃ v, R v S
  rotate_left
  · exact ⟨0, fun v0 v h => absurd ⟨v, h⟩ hex⟩
  · obtain ⟨v1, h1⟩ := hex
    obtain ⟨r, -, a2⟩ := qz_dealerOf (v0 := z0) (gwR h1) p x
    refine ⟨r, fun v0 v h post => ?_⟩
    obtain ⟨r', b1, b2⟩ := qz_dealerOf (v0 := v0) (gwR h) p x
    rw [(det a2 b2).1]
    exact b1 post
theorem tl_memoOf (S : Nat → Int32) (p x : Int32) : ∃ r, ∀ v0 v, R v S → ∀ post, s_X6_memoOf v0 v p x post = post r v0 v := by
  by_cases hex : ∃ v, R v S
  rotate_left
  · exact ⟨0, fun v0 v h => absurd ⟨v, h⟩ hex⟩
  · obtain ⟨v1, h1⟩ := hex
    obtain ⟨r, -, a2⟩ := qz_memoOf (v0 := z0) (gwR h1) p x
    refine ⟨r, fun v0 v h post => ?_⟩
    obtain ⟨r', b1, b2⟩ := qz_memoOf (v0 := v0) (gwR h) p x
    rw [(det a2 b2).1]
    exact b1 post
theorem tl_rateOf (S : Nat → Int32) (a b c u : Int32) : ∃ r, ∀ v0 v, R v S → ∀ post, s_X6_rateOf v0 v a b c u post = post r v0 v := by
  by_cases hex : ∃ v, R v S
  rotate_left
  · exact ⟨0, fun v0 v h => absurd ⟨v, h⟩ hex⟩
  · obtain ⟨v1, h1⟩ := hex
    obtain ⟨r, -, a2⟩ := qz_rateOf (v0 := z0) (gwR h1) a b c u
    refine ⟨r, fun v0 v h post => ?_⟩
    obtain ⟨r', b1, b2⟩ := qz_rateOf (v0 := v0) (gwR h) a b c u
    rw [(det a2 b2).1]
    exact b1 post
theorem count_in {c : Nat} (hc : c ≤ 10 ∨ (14 ≤ c ∧ c ≤ 15)) (v0 v v2 v3 : V) (post : Int32 → V → V → V → V → Prop) : s_X6_count v0 v v2 v3 (nI c) post = s_X1_tellNumber v (nI c) (fun r v' => post r v0 v' v2 v3) := by
  unfold s_X6_count
  have e : ∀ z : Nat, z < 1000 → (nI c = nI z) = (c = z) := fun z hz => n_eq (by omega) (by omega)
  have e1 : (nI c = (11 : Int32)) = False := eq_false (show ¬ nI c = nI 11 by rw [e 11 (by omega)]; omega)
  have e2 : (nI c = (12 : Int32)) = False := eq_false (show ¬ nI c = nI 12 by rw [e 12 (by omega)]; omega)
  have e3 : (nI c = (13 : Int32)) = False := eq_false (show ¬ nI c = nI 13 by rw [e 13 (by omega)]; omega)
  have e4 : ((nI c).toInt < 11 ∨ 13 < (nI c).toInt) = True := eq_true (by rw [nI_toInt (by omega)]; omega)
  simp only [e1, e2, e3, e4, false_implies, true_implies, true_and]
theorem tl_count (S : Nat → Int32) {c : Nat} (hc : c ≤ 10 ∨ (14 ≤ c ∧ c ≤ 15)) : ∃ r, ∀ v0 v v2 v3, R v S → ∀ post, s_X6_count v0 v v2 v3 (nI c) post = post r v0 v v2 v3 := by
  by_cases hex : ∃ v, R v S
  rotate_left
  · exact ⟨0, fun v0 v v2 v3 h => absurd ⟨v, h⟩ hex⟩
  · obtain ⟨v1, h1⟩ := hex
    obtain ⟨r, -, a2⟩ := q_count (v0 := z0) (v2 := z0) (v3 := z0) (gwR h1) rfl rfl rfl (nI c)
    refine ⟨r, fun v0 v v2 v3 h post => ?_⟩
    obtain ⟨r', b1, b2⟩ := q_count (v0 := z0) (v2 := z0) (v3 := z0) (gwR h) rfl rfl rfl (nI c)
    rw [(det a2 b2).1, count_in hc]
    have := b1 (fun r _ v' _ _ => post r v0 v' v2 v3)
    rw [count_in hc] at this
    exact this
/-- the row's own numbers -/
theorem R_ns {v : V} {S : Nat → Int32} (h : R v S) : tn (S 1) ≤ 20 ∧ v 6 0 = nI (tn (S 1)) ∧ tn (S 0) ≤ 6 ∧ v 0 4 = nI (tn (S 0)) ∧ tn (S 2) ≤ 10 ∧ v 16 0 = nI (tn (S 2)) := by
  obtain ⟨nd, ns, nm, t, g, e, hg, -⟩ := h
  obtain ⟨n1, n2, n3, n4, n5, n6, v04, S0, v60, S1, v160, S2, -⟩ := hg
  rw [S0, S1, S2, tn_nI (by omega), tn_nI (by omega), tn_nI (by omega)]
  exact ⟨n2, v60, n1, v04, n3, v160⟩
theorem dg1 (S : Nat → Int32) : ∀ d k (h : Int64), k + d = 16 → ∃ h', ∀ x, R x S → ∀ v0 v2 v3 v4 v5 v6 v7 v8 v9 v10 post k0, (∃ n, sl_L_digest_6 post k0 n h (nI k) v0 x v2 v3 v4 v5 v6 v7 v8 v9 v10) = k0 h' (nI 16) v0 x v2 v3 v4 v5 v6 v7 v8 v9 v10 := by
  intro d
  induction d with
  | zero =>
    intro k h hk
    obtain rfl : k = 16 := by omega
    exact ⟨h, fun x hx v0 v2 v3 v4 v5 v6 v7 v8 v9 v10 post k0 => xo_L_digest_6 (fun rec => b_t (show (16 : Int32) ≤ nI 16 by decide))⟩
  | succ d ih =>
    intro k h hk
    have hle : ¬ (16 : Int32) ≤ nI k := nI_ge (b := 16) (by omega) (by omega)
    by_cases h1 : k ≤ 10 ∨ 14 ≤ k
    · obtain ⟨r, hr⟩ := tl_count S (c := k) (by omega)
      obtain ⟨h', hh⟩ := ih (k + 1) (31 * h + r.toInt64) (by omega)
      refine ⟨h', fun x hx v0 v2 v3 v4 v5 v6 v7 v8 v9 v10 post k0 => (xs_L_digest_6 (fun rec => ?_)).trans (hh x hx v0 v2 v3 v4 v5 v6 v7 v8 v9 v10 post k0)⟩
      unfold sb_L_digest_6
      rw [b_f hle]
      by_cases h2 : k ≤ 10
      · rw [b_t (show nI k ≤ 10 from lel (n := 10) h2 (by omega))]
        unfold sj_L_digest_33
        rw [hr v0 x v5 v10 hx]
        unfold sj_L_digest_38
        rw [nI_1]
      · rw [b_f (show ¬ nI k ≤ 10 from gtl (n := 10) (by omega) (by omega)), b_t (show (14 : Int32) ≤ nI k from lel (c := 14) (by omega) (by omega))]
        unfold sj_L_digest_33
        rw [hr v0 x v5 v10 hx]
        unfold sj_L_digest_38
        rw [nI_1]
    · obtain ⟨h', hh⟩ := ih (k + 1) (31 * h + (0 : Int32).toInt64) (by omega)
      refine ⟨h', fun x hx v0 v2 v3 v4 v5 v6 v7 v8 v9 v10 post k0 => (xs_L_digest_6 (fun rec => ?_)).trans (hh x hx v0 v2 v3 v4 v5 v6 v7 v8 v9 v10 post k0)⟩
      unfold sb_L_digest_6
      rw [b_f hle, b_f (show ¬ nI k ≤ 10 from gtl (n := 10) (by omega) (by omega)), b_f (show ¬ (14 : Int32) ≤ nI k from nI_ge (b := 14) (by omega) (by omega))]
      unfold sj_L_digest_38
      rw [nI_1]
theorem dg2 (S : Nat → Int32) : ∀ d k (h : Int64), k + d = tn (S 1) * 11 → ∃ h', ∀ x, R x S → ∀ v0 v2 v3 v4 v5 v6 v7 v8 v9 v10 post k0, (∃ n, sl_L_digest_49 post k0 n h (nI k) v0 x v2 v3 v4 v5 v6 v7 v8 v9 v10) = k0 h' (nI (tn (S 1) * 11)) v0 x v2 v3 v4 v5 v6 v7 v8 v9 v10 := by
  intro d
  induction d with
  | zero =>
    intro k h hk
    obtain rfl : k = tn (S 1) * 11 := by omega
    refine ⟨h, fun x hx v0 v2 v3 v4 v5 v6 v7 v8 v9 v10 post k0 => xo_L_digest_49 (fun rec => ?_)⟩
    obtain ⟨z1, z2, -⟩ := R_ns hx
    unfold sb_L_digest_49
    rw [tc1 z2]
    exact b_t (by rw [show (nI (tn (S 1)) * 11) = nI (tn (S 1) * 11) from pk_mul _ 11]; exact Int32.le_refl _)
  | succ d ih =>
    intro k h hk
    obtain ⟨r, hr⟩ := tl_stoneOf S (nI k / 11) (nI k - nI k / 11 * 11)
    obtain ⟨h', hh⟩ := ih (k + 1) (31 * h + r.toInt64) (by omega)
    refine ⟨h', fun x hx v0 v2 v3 v4 v5 v6 v7 v8 v9 v10 post k0 => (xs_L_digest_49 (fun rec => ?_)).trans (hh x hx v0 v2 v3 v4 v5 v6 v7 v8 v9 v10 post k0)⟩
    obtain ⟨z1, z2, -⟩ := R_ns hx
    unfold sb_L_digest_49
    rw [tc1 z2, b_f (show ¬ nI (tn (S 1)) * 11 ≤ nI k by rw [show (nI (tn (S 1)) * 11) = nI (tn (S 1) * 11) from pk_mul _ 11]; exact nI_ge (by omega) (by omega)), hr v0 x hx, nI_1]
theorem dg3 (S : Nat → Int32) : ∀ d k (h : Int64), k + d = tn (S 0) * 6 → ∃ h', ∀ x, R x S → ∀ v0 v2 v3 v4 v5 v6 v7 v8 v9 v10 post k0, (∃ n, sl_L_digest_89 post k0 n h (nI k) v0 x v2 v3 v4 v5 v6 v7 v8 v9 v10) = k0 h' (nI (tn (S 0) * 6)) v0 x v2 v3 v4 v5 v6 v7 v8 v9 v10 := by
  intro d
  induction d with
  | zero =>
    intro k h hk
    obtain rfl : k = tn (S 0) * 6 := by omega
    refine ⟨h, fun x hx v0 v2 v3 v4 v5 v6 v7 v8 v9 v10 post k0 => xo_L_digest_89 (fun rec => ?_)⟩
    obtain ⟨-, -, z1, z2, -⟩ := R_ns hx
    unfold sb_L_digest_89
    rw [tc0 z2]
    exact b_t (by rw [show (nI (tn (S 0)) * 6) = nI (tn (S 0) * 6) from pk_mul _ 6]; exact Int32.le_refl _)
  | succ d ih =>
    intro k h hk
    obtain ⟨r, hr⟩ := tl_dealerOf S (nI k / 6) (nI k - nI k / 6 * 6)
    obtain ⟨h', hh⟩ := ih (k + 1) (31 * h + r.toInt64) (by omega)
    refine ⟨h', fun x hx v0 v2 v3 v4 v5 v6 v7 v8 v9 v10 post k0 => (xs_L_digest_89 (fun rec => ?_)).trans (hh x hx v0 v2 v3 v4 v5 v6 v7 v8 v9 v10 post k0)⟩
    obtain ⟨-, -, z1, z2, -⟩ := R_ns hx
    unfold sb_L_digest_89
    rw [tc0 z2, b_f (show ¬ nI (tn (S 0)) * 6 ≤ nI k by rw [show (nI (tn (S 0)) * 6) = nI (tn (S 0) * 6) from pk_mul _ 6]; exact nI_ge (by omega) (by omega)), hr v0 x hx, nI_1]
theorem dg4 (S : Nat → Int32) : ∀ d k (h : Int64), k + d = tn (S 2) * 8 → ∃ h', ∀ x, R x S → ∀ v0 v2 v3 v4 v5 v6 v7 v8 v9 v10 post k0, (∃ n, sl_L_digest_129 post k0 n h (nI k) v0 x v2 v3 v4 v5 v6 v7 v8 v9 v10) = k0 h' (nI (tn (S 2) * 8)) v0 x v2 v3 v4 v5 v6 v7 v8 v9 v10 := by
  intro d
  induction d with
  | zero =>
    intro k h hk
    obtain rfl : k = tn (S 2) * 8 := by omega
    refine ⟨h, fun x hx v0 v2 v3 v4 v5 v6 v7 v8 v9 v10 post k0 => xo_L_digest_129 (fun rec => ?_)⟩
    obtain ⟨-, -, -, -, z1, z2⟩ := R_ns hx
    unfold sb_L_digest_129
    rw [tc4 z2]
    exact b_t (by rw [show (nI (tn (S 2)) * 8) = nI (tn (S 2) * 8) from pk_mul _ 8]; exact Int32.le_refl _)
  | succ d ih =>
    intro k h hk
    obtain ⟨r, hr⟩ := tl_memoOf S (nI k / 8) (nI k - nI k / 8 * 8)
    obtain ⟨h', hh⟩ := ih (k + 1) (31 * h + r.toInt64) (by omega)
    refine ⟨h', fun x hx v0 v2 v3 v4 v5 v6 v7 v8 v9 v10 post k0 => (xs_L_digest_129 (fun rec => ?_)).trans (hh x hx v0 v2 v3 v4 v5 v6 v7 v8 v9 v10 post k0)⟩
    obtain ⟨-, -, -, -, z1, z2⟩ := R_ns hx
    unfold sb_L_digest_129
    rw [tc4 z2, b_f (show ¬ nI (tn (S 2)) * 8 ≤ nI k by rw [show (nI (tn (S 2)) * 8) = nI (tn (S 2) * 8) from pk_mul _ 8]; exact nI_ge (by omega) (by omega)), hr v0 x hx, nI_1]
theorem dg5 (S : Nat → Int32) : ∀ d k (h : Int64), k + d = 400 → ∃ h', ∀ x, R x S → ∀ v0 v2 v3 v4 v5 v6 v7 v8 v9 v10 post k0, (∃ n, sl_L_digest_169 post k0 n h (nI k) v0 x v2 v3 v4 v5 v6 v7 v8 v9 v10) = k0 h' (nI 400) v0 x v2 v3 v4 v5 v6 v7 v8 v9 v10 := by
  intro d
  induction d with
  | zero =>
    intro k h hk
    obtain rfl : k = 400 := by omega
    exact ⟨h, fun x hx v0 v2 v3 v4 v5 v6 v7 v8 v9 v10 post k0 => xo_L_digest_169 (fun rec => b_t (show (400 : Int32) ≤ nI 400 by decide))⟩
  | succ d ih =>
    intro k h hk
    obtain ⟨r, hr⟩ := tl_rateOf S (nI k / 80) ((nI k / 8) - (nI k / 8) / 10 * 10) (nI k - nI k / 8 * 8) 1
    obtain ⟨h', hh⟩ := ih (k + 1) (31 * h + r.toInt64) (by omega)
    refine ⟨h', fun x hx v0 v2 v3 v4 v5 v6 v7 v8 v9 v10 post k0 => (xs_L_digest_169 (fun rec => ?_)).trans (hh x hx v0 v2 v3 v4 v5 v6 v7 v8 v9 v10 post k0)⟩
    unfold sb_L_digest_169
    rw [b_f (show ¬ (400 : Int32) ≤ nI k from nI_ge (b := 400) (by omega) (by omega)), hr v0 x hx, nI_1]
theorem dg (S : Nat → Int32) : ∃ D, ∀ x, R x S → ∀ v0 v2 v3 v4 v5 v6 v7 v8 v9 v10 post, s_L_digest v0 x v2 v3 v4 v5 v6 v7 v8 v9 v10 post = post D v0 x v2 v3 v4 v5 v6 v7 v8 v9 v10 := by
  obtain ⟨h1, a1⟩ := dg1 S 16 0 71 rfl
  obtain ⟨h2, a2⟩ := dg2 S (tn (S 1) * 11) 0 h1 (by omega)
  obtain ⟨h3, a3⟩ := dg3 S (tn (S 0) * 6) 0 h2 (by omega)
  obtain ⟨h4, a4⟩ := dg4 S (tn (S 2) * 8) 0 h3 (by omega)
  obtain ⟨h5, a5⟩ := dg5 S 400 0 h4 rfl
  refine ⟨h5, fun x hx v0 v2 v3 v4 v5 v6 v7 v8 v9 v10 post => ?_⟩
  unfold s_L_digest
  refine (a1 x hx v0 v2 v3 v4 v5 v6 v7 v8 v9 v10 post _).trans ?_
  refine (a2 x hx v0 v2 v3 v4 v5 v6 v7 v8 v9 v10 post _).trans ?_
  refine (a3 x hx v0 v2 v3 v4 v5 v6 v7 v8 v9 v10 post _).trans ?_
  refine (a4 x hx v0 v2 v3 v4 v5 v6 v7 v8 v9 v10 post _).trans ?_
  exact a5 x hx v0 v2 v3 v4 v5 v6 v7 v8 v9 v10 post _
