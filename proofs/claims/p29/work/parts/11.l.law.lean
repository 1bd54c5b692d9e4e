/-! P29 12: the law, turn by turn -/
theorem lg_same (D : Int64) : lg_cmp D D = 0 := by
  unfold lg_cmp
  rw [if_neg (show ¬ D > D from Int64.lt_irrefl), if_pos rfl]
/-- what the loop goes on with -/
def Goon (rec : Int32 → Int32 → V → V → V → V → V → V → V → V → V → V → V → Prop) (k : Nat) : Prop := ∀ (G x y z s H a b c d p : V) (o n : Nat), PI G x s H a b c d p o n → rec 1 (nI k) G x y z s H a b c d p
section LAW
variable {xs : Nat → Int32} {L : Nat} {G x y z s H a b c d p : V} {o n k : Nat} {rec k0 : Int32 → Int32 → V → V → V → V → V → V → V → V → V → V → V → Prop}
theorem st243 (h : PI G x s H a b c d p o n) (hr : Goon rec (k + 1)) : sj_L_law_243 xs L rec k0 1 (nI k) G x y z s H a b c d p := by
  have h02 : H 0 2 = nI n := h.2.1.2.2.2.1
  have hn4 : n ≤ 4 := h.2.1.2.1
  unfold sj_L_law_243
  rw [b_f z10, tc11 h02, show nI k + 1 = nI (k + 1) from nI_add k 1]
  refine ⟨fun _ => hr _ _ _ _ _ _ _ _ _ _ _ _ _ h, fun _ => ?_⟩
  rcases op_undo h with ⟨y1, y2⟩ | ⟨q, H1, y1, y2, y3⟩
  · rw [y2, b_t' (show nI n = 0 by rw [y1]; rfl)]
    unfold sj_L_law_280 sj_L_law_288
    rw [b_t' (show (-10000002 : Int32) = -10000002 from rfl), show nI k + 1 = nI (k + 1) from nI_add k 1]
    exact hr _ _ _ _ _ _ _ _ _ _ _ _ _ h
  · rw [y2, b_f' (nI_ne0 (by omega) (by omega))]
    unfold sj_L_law_280 sj_L_law_288
    have e : nI q = nI n - 1 := by
      rw [y1, ← nI_1]
      exact (add_sub1 q).symm
    rw [b_t' e, show nI k + 1 = nI (k + 1) from nI_add k 1]
    exact hr _ _ _ _ _ _ _ _ _ _ _ _ _ y3
theorem st142 {G' x' s' H' a' b' c' d' p' : V} {o' n' : Nat} {S : Nat → Int32} {D : Int64} {px x2 : Int32} (hS : R x S) (hD : ∀ x, R x S → ∀ v0 v2 v3 v4 v5 v6 v7 v8 v9 v10 post, s_L_digest v0 x v2 v3 v4 v5 v6 v7 v8 v9 v10 post = post D v0 x v2 v3 v4 v5 v6 v7 v8 v9 v10) (h1 : PI G' x' s' H' a' b' c' d' p' o' n') (h2 : Aft n o' n' x x' a' b' c' d') (hr : Goon rec (k + 1)) : sj_L_law_142 xs L rec k0 x2 (nI k) px D (nI n) 1 G' x' y z s' H' a' b' c' d' p' := by
  have h02 : H' 0 2 = nI n' := h1.2.1.2.2.2.1
  have hn4 : n' ≤ 4 := h1.2.1.2.1
  have hnn : n ≤ 4 := by
    rcases h2 with ⟨y1, -⟩ | ⟨y1, -⟩
    · omega
    · omega
  have f192 : sj_L_law_192 xs L rec k0 1 (nI k) px D (nI n) (nI n') 1 G' x' y z s' H' a' b' c' d' p' := by
    unfold sj_L_law_192
    rw [b_f z10]
    refine ⟨fun _ => st243 h1 hr, fun hq => ?_⟩
    rw [show nI n + 1 = nI (n + 1) from nI_add n 1, n_eq (by omega) (by omega)] at hq
    obtain ⟨q, q1, q2⟩ := k_low (px >>> (8 &&& 31)) (n := 3) (by omega) (by omega)
    rw [show ∀ post, s_L_low (px >>> (8 &&& 31)) 3 post = post (nI q) from q2]
    refine ⟨fun _ => st243 h1 hr, fun _ => ?_⟩
    rcases h2 with ⟨z1, -⟩ | ⟨z1, z2, z3⟩
    · omega
    · rcases op_undo h1 with ⟨y1, -⟩ | ⟨w, H1, y1, y2, y3⟩
      · omega
      · obtain rfl : w = n := by omega
        rw [y2, b_t' (show nI w = nI w from rfl), hD _ (R_v hS (Ag_tr (Ag_copy _ _) z3)), b_t' (lg_same D)]
        unfold sj_L_law_242
        exact st243 y3 hr
  have f178 : n' = n + 1 → sj_L_law_178 xs L rec k0 1 (nI k) px D (nI n) (nI n') G' x' y z s' H' a' b' c' d' p' := fun hq => by
    unfold sj_L_law_178
    rw [b_t' (show nI n' = nI n + 1 by rw [hq]; exact (nI_add n 1).symm)]
    exact f192
  unfold sj_L_law_142
  rw [tc11 h02, b_f z10]
  rcases h2 with ⟨z1, z2⟩ | ⟨z1, z2, z3⟩
  · rw [b_t' (show nI n' = nI n by rw [z1])]
    rcases z2 with z2 | z2
    · rw [b_t (show nI n = 4 by rw [z2]; rfl)]
      exact f192
    · refine ⟨fun _ => f192, fun _ => ?_⟩
      rw [hD x' (by rw [z2]; exact hS), b_t (lg_same D)]
      exact f192
  · rw [b_f' (show ¬ nI n' = nI n by rw [n_eq (by omega) (by omega)]; omega)]
    exact f178 z2
theorem law_step (h : PI G x s H a b c d p o n) (hk : k < 32) (hr : Goon rec (k + 1)) : sb_L_law_73 xs L k0 rec 1 (nI k) G x y z s H a b c d p := by
  unfold sb_L_law_73
  rw [b_f (show ¬ (32 : Int32) ≤ nI k from (show ¬ nI 32 ≤ nI k from nI_ge hk (by omega))), b_f z10]
  have e2 : 2 * nI k = nI (2 * k) := pk_mul 2 k
  have e3 : 2 * nI k + 1 = nI (2 * k + 1) := by
    rw [e2]
    exact nI_add (2 * k) 1
  refine ⟨by rw [e2]; exact n_neg (by omega), by rw [e3]; exact n_neg (by omega), ?_⟩
  have hR := h.1
  obtain ⟨S, hS⟩ := hR
  obtain ⟨D, hD⟩ := dg S
  rw [hD x hS, tc11 h.2.1.2.2.2.1]
  refine acts_ok h (fun G' x' y' z' s' H' a' b' c' d' p' o' n' h1 h2 => ?_)
  show (_ ∧ _)
  rw [b_f z10]
  have hR' := h1.1
  obtain ⟨S', hS'⟩ := hR'
  rw [holds_ok hS']
  show (_ ∧ _)
  rw [b_f z10]
  exact st142 hS hD h1 h2 hr
theorem law_all : ∀ e k, k + e = 32 → Goon (sl_L_law_73 xs L (fun (x2_135 : Int32) (x3_136 : Int32) (v_137 : V) (v_138 : V) (v_139 : V) (v_140 : V) (v_141 : V) (v_142 : V) (v_143 : V) (v_144 : V) (v_145 : V) (v_146 : V) (v_147 : V) => x2_135 = 1) (e + 1)) k := by
  intro e
  induction e with
  | zero =>
    intro k hk G x y z s H a b c d p o n h
    obtain rfl : k = 32 := by omega
    rw [sl_L_law_73]
    unfold sb_L_law_73
    rw [b_t (show (32 : Int32) ≤ nI 32 from Int32.le_refl _)]
  | succ e ih =>
    intro k hk G x y z s H a b c d p o n h
    rw [sl_L_law_73]
    exact law_step h (by omega) (ih (k + 1) (by omega))
end LAW
theorem PI_start : PI z0 iM iM z0 iM iM iM iM iS 0 0 := by
  refine ⟨⟨_, R_start⟩, ⟨by decide, by decide, rfl, rfl, fun i hi => absurd hi (by omega)⟩, fun h => absurd rfl h, ⟨0, by decide, rfl, fun i hi => absurd hi (by omega)⟩⟩
theorem law_ends (xs : Nat → Int32) (L : Nat) : s_L_law xs L z0 iM iM iM iM z0 iM iM iM iM iS := by
  have go : ∀ (G x y z s H a b c d p : V) (o n : Nat), PI G x s H a b c d p o n → sj_L_law_70 xs L 1 G x y z s H a b c d p := fun G x y z s H a b c d p o n h => ⟨33, law_all 32 0 rfl G x y z s H a b c d p o n h⟩
  unfold s_L_law
  rw [holds_ok R_start, b_f z10]
  rcases op_undo PI_start with ⟨-, y2⟩ | ⟨q, H1, y1, -, -⟩
  · rw [y2, b_t' (show (-10000002 : Int32) = -10000002 from rfl)]
    obtain ⟨r1, x1, y1, H1, a1, b1, c1, d1, o1, n1, f1, g1, p1, -, -⟩ := op_dealer (y := iM) PI_start
    obtain ⟨w1, k1, k2, k3, k4⟩ := an_deal (x := iM) (nd := 0) rfl (by decide)
    obtain ⟨e1, e2⟩ := det g1 k1
    subst e1
    subst e2
    rw [f1, b_t' (show nI 0 = 0 from rfl)]
    obtain ⟨r2, x2, y2, H2, a2, b2, c2, d2, o2, n2, f2, g2, p2, -, -⟩ := op_dealer (y := y1) p1
    obtain ⟨w2, l1, l2, l3, l4⟩ := an_deal (x := x1) (nd := 1) k2 (by decide)
    obtain ⟨e1, e2⟩ := det g2 l1
    subst e1
    subst e2
    rw [f2, b_t' (show nI 1 = 1 from rfl)]
    obtain ⟨r3, x3, y3, H3, a3, b3, c3, d3, o3, n3, f3, g3, p3, -, -⟩ := op_stone (y := y2) p2 (nI 0) (nI 60) (nI 4) (nI 4)
    have h60 : x2 6 0 = nI 0 := by
      rw [l3, k3]
      rfl
    obtain ⟨w3, m1, m2⟩ := an_stone (d := 0) (c := 60) (a := 4) (b := 4) l2 h60 (by decide) (by decide) (by decide) (by decide) (by decide) (by decide) (by decide)
    obtain ⟨e1, e2⟩ := det g3 m1
    subst e1
    subst e2
    rw [show ∀ post, s_X6_stone z0 x2 y2 H2 a2 b2 c2 d2 0 60 4 4 post = post (nI 0) z0 x3 y3 H3 a3 b3 c3 d3 from f3, b_t' (show nI 0 = 0 from rfl)]
    obtain ⟨r4, x4, y4, H4, a4, b4, c4, d4, o4, n4, f4, g4, p4, -, -⟩ := op_rate (y := y3) p3 (nI 3) (nI 5) (nI 5) (nI 300)
    have h5 : ∀ i, i < 24 → x3 5 i = 0 := fun i _ => by
      rw [m2, l4, k4]
      rfl
    have hR := p3.1
    obtain ⟨S, nd, ns, nm, t, g, e, -, -, ⟨hP, -⟩, -⟩ := hR
    have hz : S (264 + (80 * 3 + 8 * 5 + 5)) = 0 := by
      by_cases q : S (264 + (80 * 3 + 8 * 5 + 5)) = 0
      · exact q
      · obtain ⟨i, i1, i2, -⟩ := hP.2.2 3 5 5 (by decide) (by decide) (by decide) q
        exact absurd (h5 i i1) i2
    obtain ⟨w4, u1⟩ := an_rate_n (r := 300) hP (show 3 < 5 by decide) (show 5 < 10 by decide) (show 5 < 8 by decide) (by decide) (by decide) hz (by rw [cz_0 24 h5]; decide)
    obtain ⟨e1, e2⟩ := det g4 u1
    subst e1
    rw [show ∀ post, s_X6_rate z0 x3 y3 H3 a3 b3 c3 d3 3 5 5 300 post = post 0 z0 x4 y4 H4 a4 b4 c4 d4 from f4, b_t' (show (0 : Int32) = 0 from rfl)]
    exact go _ _ _ _ _ _ _ _ _ _ _ _ _ p4
  · exact absurd y1 (by omega)
