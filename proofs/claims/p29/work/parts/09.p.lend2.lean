/-! PURE 16: lend, the loops -/
theorem tbl_c {S S' : Nat → Int32} (h : ∀ j, S' (264 + j) = S (264 + j)) : tbl S' = tbl S := by
  funext j
  unfold tbl
  rw [h j]
theorem pS_c {S S' : Nat → Int32} {k : Nat} (h : ∀ j, S' (264 + j) = S (264 + j)) (h0 : S' (14 + 10 * k + 0) = S (14 + 10 * k + 0)) (h1 : S' (14 + 10 * k + 1) = S (14 + 10 * k + 1)) (h2 : S' (14 + 10 * k + 2) = S (14 + 10 * k + 2)) : pS S' k = pS S k := by
  unfold pS rS
  rw [tbl_c h, h0, h1, h2]
/-- what is still to be lent -/
def togo (S : Nat → Int32) (f nm ns z k : Nat) : Prop := ∀ j, k ≤ j → j < ns → z / 2 ^ j % 2 = 1 → S (14 + 10 * j + 3) = nI f ∧ S (14 + 10 * j + 4) = nI f ∧ S (14 + 10 * j + 7) = 0 ∧ (∃ c, c ≤ nm ∧ S (14 + 10 * j + 8) = nI c) ∧ ¬ pS S j = -1
theorem togo_c {S S' : Nat → Int32} {f nm ns z k k' : Nat} (h : togo S f nm ns z k) (hk : k ≤ k') (h1 : ∀ j, k' ≤ j → j < ns → eqS S' S j) (h2 : ∀ j, S' (264 + j) = S (264 + j)) : togo S' f nm ns z k' := by
  intro j h3 h4 h5
  have hS := h1 j h3 h4
  rw [hS 3 (by omega), hS 4 (by omega), hS 7 (by omega), hS 8 (by omega), pS_c h2 (hS 0 (by omega)) (hS 1 (by omega)) (hS 2 (by omega))]
  exact h j (by omega) h4 h5
theorem lend_one {v w : V} {nd ns nm t g e l f o z k : Nat} (hRn : Rn v (w 1) nd ns (nm + 1) t g e l) (hkn : k < ns) (hf : f < nd) (ho : o < nd) (hfo : f ≠ o) (hF : w 1 (214 + 5 * nm + 0) = nI f) (hTo : w 1 (214 + 5 * nm + 1) = nI o) (htg : togo (w 1) f nm ns z k) (hz : z < 2147483648) (hbit : z / 2 ^ k % 2 = 1) : ∃ v' w', (∀ (post : Int32 → V → Prop) k0 rec, sb_X1_lendStones_97 post (nI o) (nI z) (nI nm) k0 rec (nI k) v = rec (nI (k + 1)) v') ∧ (∀ (post : Int32 → V → Prop) k0 rec, sb_X7_lends_181 post (nI o) (nI z) (nI nm) k0 rec (nI k) w = rec (nI (k + 1)) w') ∧ w' = sa w 1 (w' 1) ∧ Rn v' (w' 1) nd ns (nm + 1) t g e l ∧ w' 1 (214 + 5 * nm + 0) = nI f ∧ w' 1 (214 + 5 * nm + 1) = nI o ∧ togo (w' 1) f nm ns z (k + 1) := by
  have hRn' := hRn
  obtain ⟨hg, hb, ⟨hP, hT⟩, hk, h0, hm, hB⟩ := hRn'
  have hg' := hg
  obtain ⟨n1, n2, n3, n4, n5, n6, v04, S0, v60, S1, v160, S2, v05, S3, L4, S5, v06, S6, v07, S7⟩ := hg'
  have k20 : k < 20 := by omega
  obtain ⟨⟨e0, e1, e2, e3, e4, e5, e6, e7, e8⟩, hO, -⟩ := hk k hkn
  obtain ⟨g3, g4, g7, ⟨cc, hcc, g8⟩, hpr⟩ := htg k (Nat.le_refl _) hkn hbit
  have hle : (nI ns ≤ nI k) = False := eq_false (nI_ge (by omega) (by omega))
  have hT' : okT (upd (upd (w 1) (14 + 10 * k + 4) (nI o)) (14 + 10 * k + 5) (nI nm)) := okT_s hT (fun j hj => by simp (disch := omega) only [st1, st1n, u_s, u_n])
  have hP' : RP (st (st v 11 k (nI o)) 12 k (nI nm)) (upd (upd (w 1) (14 + 10 * k + 4) (nI o)) (14 + 10 * k + 5) (nI nm)) := RP_s (RP_c hP (fun i _ => by simp (disch := omega) only [st1, st1n, u_s, u_n]) (fun i _ => by simp (disch := omega) only [st1, st1n, u_s, u_n]) (fun i _ => by simp (disch := omega) only [st1, st1n, u_s, u_n]) (fun i _ => by simp (disch := omega) only [st1, st1n, u_s, u_n])) (fun j hj => by simp (disch := omega) only [st1, st1n, u_s, u_n])
  have hO' : okK (upd (upd (w 1) (14 + 10 * k + 4) (nI o)) (14 + 10 * k + 5) (nI nm)) k := by
    unfold okK at hO ⊢
    simp (disch := omega) only [st1, st1n, u_s, u_n]
    exact hO
  have hpS : pS (upd (upd (w 1) (14 + 10 * k + 4) (nI o)) (14 + 10 * k + 5) (nI nm)) k = pS (w 1) k := pS_c (fun j => by simp (disch := omega) only [st1, st1n, u_s, u_n]) (by simp (disch := omega) only [st1, st1n, u_s, u_n]) (by simp (disch := omega) only [st1, st1n, u_s, u_n]) (by simp (disch := omega) only [st1, st1n, u_s, u_n])
  obtain ⟨hx, -⟩ | ⟨x, hx9, hx, -⟩ := pS_m1 hT hO
  · exact absurd hx hpr
  have p1 : ∀ post, s_X1_priceOf (st (st v 11 k (nI o)) 12 k (nI nm)) (nI k) post = post (nI x) (st (st v 11 k (nI o)) 12 k (nI nm)) := fun post => by
    rw [k_price (S := upd (upd (w 1) (14 + 10 * k + 4) (nI o)) (14 + 10 * k + 5) (nI nm)) hP' hT' hO' (by simp (disch := omega) only [st1, st1n, u_s, u_n]; exact e0) (by simp (disch := omega) only [st1, st1n, u_s, u_n]; exact e1) (by simp (disch := omega) only [st1, st1n, u_s, u_n]; exact e2) k20, hpS, hx]
  have ew : (st (st w 1 (14 + 10 * k + 4) (nI o)) 1 (14 + 10 * k + 5) (nI nm)) 1 = upd (upd (w 1) (14 + 10 * k + 4) (nI o)) (14 + 10 * k + 5) (nI nm) := by simp only [st1]
  have p2 : ∀ post, s_X7_price (st (st w 1 (14 + 10 * k + 4) (nI o)) 1 (14 + 10 * k + 5) (nI nm)) (nI k) post = post (nI x) (st (st w 1 (14 + 10 * k + 4) (nI o)) 1 (14 + 10 * k + 5) (nI nm)) := fun post => by
    rw [q_price (w := st (st w 1 (14 + 10 * k + 4) (nI o)) 1 (14 + 10 * k + 5) (nI nm)) (by rw [ew]; exact hT') (by rw [ew]; exact hO') k20, ew, hpS, hx]
  refine ⟨st (st (st v 11 k (nI o)) 12 k (nI nm)) 13 k (nI x), st (st (st w 1 (14 + 10 * k + 4) (nI o)) 1 (14 + 10 * k + 5) (nI nm)) 1 (14 + 10 * k + 6) (nI x), fun post k0 rec => ?_, fun post k0 rec => ?_, ?_, ?_, ?_, ?_, ?_⟩
  · simp (disch := omega) only [sb_X1_lendStones_97, v60, hle, bit_n hz (show k < 32 by omega), hbit, n11, nI_1, vp_in_nI, tn_nI, p1, e10, b_all, not_true_eq_false, not_false_eq_true, true_implies, false_implies, and_true, true_and]
  · simp (disch := omega) only [sb_X7_lends_181, t_1, S1, hle, bit_n hz (show k < 32 by omega), hbit, n11, nI_1, q_set4 k20, q_set5 k20, q_set6 k20, p2, e10, b_all, not_true_eq_false, not_false_eq_true, true_implies, false_implies, and_true, true_and]
  · simp only [st_sa, sa_sa, sa_1]
  · simp only [st1]
    refine Rn_st hRn hkn ?a01 ?a61 ?a161 ?a21 ?a31 ?a41 ?a51 (fun j hj => ?s11) (fun j hj => ?s21) (fun j hj => ?rm1) ⟨?eq1, ?okk1, ?stt1⟩ (fun j j1 j2 => ⟨?ev1, fun f hf => ?es1⟩) (fun j hj => ?ef1) (fun d hd => ?rb1) ?bd1
    case a01 => simp (disch := omega) only [st1n]
    case a61 => simp (disch := omega) only [st1n]
    case a161 => simp (disch := omega) only [st1n]
    case a21 => simp (disch := omega) only [st1n]
    case a31 => simp (disch := omega) only [st1n]
    case a41 => simp (disch := omega) only [st1n]
    case a51 => simp (disch := omega) only [st1n]
    case s11 => simp (disch := omega) only [st1, st1n, u_s, u_n]
    case s21 => simp (disch := omega) only [st1, st1n, u_s, u_n]
    case ev1 => exact ⟨by simp (disch := omega) only [st1, st1n, u_s, u_n], by simp (disch := omega) only [st1, st1n, u_s, u_n], by simp (disch := omega) only [st1, st1n, u_s, u_n], by simp (disch := omega) only [st1, st1n, u_s, u_n], by simp (disch := omega) only [st1, st1n, u_s, u_n], by simp (disch := omega) only [st1, st1n, u_s, u_n], by simp (disch := omega) only [st1, st1n, u_s, u_n], by simp (disch := omega) only [st1, st1n, u_s, u_n], by simp (disch := omega) only [st1, st1n, u_s, u_n]⟩
    case es1 => simp (disch := omega) only [st1, st1n, u_s, u_n]
    case ef1 => exact ⟨by simp (disch := omega) only [st1, st1n, u_s, u_n], by simp (disch := omega) only [st1, st1n, u_s, u_n]⟩
    case rm1 =>
      have := hm j hj
      unfold Rm at this ⊢
      simp (disch := omega) only [st1, st1n, u_s, u_n]
      exact this
    case eq1 =>
      unfold eqK
      exact ⟨(by simp (disch := omega) only [st1, st1n, u_s, u_n]; exact e0), (by simp (disch := omega) only [st1, st1n, u_s, u_n]; exact e1), (by simp (disch := omega) only [st1, st1n, u_s, u_n]; exact e2), (by simp (disch := omega) only [st1, st1n, u_s, u_n]; exact e3), (by simp (disch := omega) only [st1, st1n, u_s, u_n]), (by simp (disch := omega) only [st1, st1n, u_s, u_n]), (by simp (disch := omega) only [st1, st1n, u_s, u_n]), (by simp (disch := omega) only [st1, st1n, u_s, u_n]; exact e7), (by simp (disch := omega) only [st1, st1n, u_s, u_n]; exact e8)⟩
    case okk1 =>
      unfold okK at hO ⊢
      simp (disch := omega) only [st1, st1n, u_s, u_n]
      exact hO
    case stt1 =>
      exact Or.inr (Or.inr ⟨f, o, nm, x, cc, hf, ho, hfo, by omega, hx9, by omega, (by simp (disch := omega) only [st1, st1n, u_s, u_n]; exact g3), (by simp (disch := omega) only [st1, st1n, u_s, u_n]), (by simp (disch := omega) only [st1, st1n, u_s, u_n]), (by simp (disch := omega) only [st1, st1n, u_s, u_n]), (by simp (disch := omega) only [st1, st1n, u_s, u_n]; exact g7), (by simp (disch := omega) only [st1, st1n, u_s, u_n]; exact g8), (by simp (disch := omega) only [st1, st1n, u_s, u_n]; exact hF), (by simp (disch := omega) only [st1, st1n, u_s, u_n]; exact hTo)⟩)
    case rb1 =>
      have := hb d hd
      simp (disch := omega) only [st1, st1n, u_s, u_n]
      exact this
    case bd1 =>
      exact BD_k hB (fun d hd => by simp (disch := omega) only [st1, st1n, u_s, u_n]) (fun j hj => ⟨by simp (disch := omega) only [st1, st1n, u_s, u_n], by simp (disch := omega) only [st1, st1n, u_s, u_n]⟩) (fun j h1 h2 => by simp (disch := omega) only [st1, st1n, u_s, u_n]) (fun j h1 h2 => by simp (disch := omega) only [st1, st1n, u_s, u_n])
  · simp (disch := omega) only [st1, st1n, u_s, u_n]
    exact hF
  · simp (disch := omega) only [st1, st1n, u_s, u_n]
    exact hTo
  · simp only [st1]
    exact togo_c htg (by omega) (fun j j1 j2 f hf => by simp (disch := omega) only [st1, st1n, u_s, u_n]) (fun j => by simp (disch := omega) only [st1, st1n, u_s, u_n])
theorem lend_none {v w : V} {nd ns nm t g e l o z k : Nat} {a b : Int32} (hRn : Rn v (w 1) nd ns nm t g e l) (hkn : k < ns) (hz : z < 2147483648) (hbit : z / 2 ^ k % 2 = 0) : (∀ (post : Int32 → V → Prop) k0 rec, sb_X1_lendStones_97 post a (nI z) b k0 rec (nI k) v = rec (nI (k + 1)) v) ∧ (∀ (post : Int32 → V → Prop) k0 rec, sb_X7_lends_181 post a (nI z) b k0 rec (nI k) w = rec (nI (k + 1)) w) := by
  obtain ⟨hg, -⟩ := hRn
  obtain ⟨n1, n2, n3, n4, n5, n6, v04, S0, v60, S1, -⟩ := hg
  have hle : (nI ns ≤ nI k) = False := eq_false (nI_ge (by omega) (by omega))
  constructor
  · intro post k0 rec
    simp (disch := omega) only [sb_X1_lendStones_97, v60, hle, bit_n hz (show k < 32 by omega), hbit, n01, nI_1, e10, b_all, not_true_eq_false, not_false_eq_true, true_implies, false_implies, and_true, true_and]
  · intro post k0 rec
    simp (disch := omega) only [sb_X7_lends_181, t_1, S1, hle, bit_n hz (show k < 32 by omega), hbit, n01, nI_1, e10, b_all, not_true_eq_false, not_false_eq_true, true_implies, false_implies, and_true, true_and]
theorem lend_all {nd ns nm t g e l f o z : Nat} (hf : f < nd) (ho : o < nd) (hfo : f ≠ o) (hz : z < 2147483648) : ∀ d k (v w : V), k + d = ns → Rn v (w 1) nd ns (nm + 1) t g e l → w 1 (214 + 5 * nm + 0) = nI f → w 1 (214 + 5 * nm + 1) = nI o → togo (w 1) f nm ns z k → ∃ v' w', (∀ (post : Int32 → V → Prop) k0, (∃ n, sl_X1_lendStones_97 post (nI o) (nI z) (nI nm) k0 n (nI k) v) = k0 (nI ns) v') ∧ (∀ (post : Int32 → V → Prop) k0, (∃ n, sl_X7_lends_181 post (nI o) (nI z) (nI nm) k0 n (nI k) w) = k0 (nI ns) w') ∧ w' = sa w 1 (w' 1) ∧ Rn v' (w' 1) nd ns (nm + 1) t g e l := by
  intro d
  induction d with
  | zero =>
    intro k v w hk hRn _ _ _
    obtain rfl : k = ns := by omega
    have v60 : v 6 0 = nI k := hRn.1.2.2.2.2.2.2.2.2.1
    have S1 : w 1 1 = nI k := hRn.1.2.2.2.2.2.2.2.2.2.1
    exact ⟨v, w, fun post k0 => xo_X1_lendStones_97 (fun rec => b_t (show v 6 0 ≤ nI k by rw [v60]; exact Int32.le_refl _)), fun post k0 => xo_X7_lends_181 (fun rec => b_t (show w 1 1 ≤ nI k by rw [S1]; exact Int32.le_refl _)), (sa_self w 1).symm, hRn⟩
  | succ d ih =>
    intro k v w hk hRn hF hTo htg
    rcases bit01 z k with hb | hb
    · obtain ⟨c1, c2⟩ := lend_none (o := o) (a := nI o) (b := nI nm) hRn (show k < ns by omega) hz hb
      obtain ⟨v', w', p1, p2, p3, p4⟩ := ih (k + 1) v w (by omega) hRn hF hTo (togo_c htg (by omega) (fun j _ _ f _ => rfl) (fun j => rfl))
      exact ⟨v', w', fun post k0 => (xs_X1_lendStones_97 (fun rec => c1 post k0 rec)).trans (p1 post k0), fun post k0 => (xs_X7_lends_181 (fun rec => c2 post k0 rec)).trans (p2 post k0), p3, p4⟩
    · obtain ⟨v1, w1, c1, c2, c3, c4, c5, c6, c7⟩ := lend_one hRn (show k < ns by omega) hf ho hfo hF hTo htg hz hb
      obtain ⟨v', w', p1, p2, p3, p4⟩ := ih (k + 1) v1 w1 (by omega) c4 c5 c6 c7
      refine ⟨v', w', fun post k0 => (xs_X1_lendStones_97 (fun rec => c1 post k0 rec)).trans (p1 post k0), fun post k0 => (xs_X7_lends_181 (fun rec => c2 post k0 rec)).trans (p2 post k0), ?_, p4⟩
      rw [c3, sa_sa] at p3
      exact p3
theorem sim_lend {v w : V} (h : R v (w 1)) (x y u s : Int32) : Sim (s_X1_lendStones v x y u s) (s_X7_lends w x y u s) v w := by
  obtain ⟨nd, ns, nm, t, g, e, hRn⟩ := h
  have hRn' := hRn
  obtain ⟨hg, hb, ⟨hP, hT⟩, hk, h0, hm, hB⟩ := hRn'
  have hg' := hg
  obtain ⟨n1, n2, n3, n4, n5, n6, v04, S0, v60, S1, v160, S2, v05, S3, L4, S5, v06, S6, v07, S7⟩ := hg'
  rcases ixn x (n := nd) (by omega) with ⟨f, hf, rfl⟩ | hx
  rotate_left
  · refine Sim.err bad1 (fun post => ?_) (fun post => ?_)
    · simp only [s_X1_lendStones, k_deal_f v04 hx, z01, e10, b_all, not_true_eq_false, not_false_eq_true, true_implies, false_implies, and_true, true_and]
    · simp only [s_X7_lends, q_isDealer_f S0 (show nd < 1000000 by omega) hx, z01, e10, b_all, not_true_eq_false, not_false_eq_true, true_implies, false_implies, and_true, true_and]
  have d1 : ∀ post, s_X7_isDealer w (nI f) post = post 1 w := fun post => q_isDealer_t S0 (show nd < 1000000 by omega) hf
  rcases ixn y (n := nd) (by omega) with ⟨o, ho, rfl⟩ | hy
  rotate_left
  · refine Sim.err bad1 (fun post => ?_) (fun post => ?_)
    · simp only [s_X1_lendStones, k_deal_t v04 n1 hf, k_deal_f v04 hy, z01, e10, b_all, not_true_eq_false, not_false_eq_true, true_implies, false_implies, and_true, true_and]
    · simp only [s_X7_lends, d1, q_isDealer_f S0 (show nd < 1000000 by omega) hy, z01, e10, b_all, not_true_eq_false, not_false_eq_true, true_implies, false_implies, and_true, true_and]
  have d2 : ∀ post, s_X7_isDealer w (nI o) post = post 1 w := fun post => q_isDealer_t S0 (show nd < 1000000 by omega) ho
  by_cases hfo : f = o
  · have q : (nI f = nI o) = True := eq_true (by rw [hfo])
    refine Sim.err bad1 (fun post => ?_) (fun post => ?_)
    · simp only [s_X1_lendStones, k_deal_t v04 n1 hf, k_deal_t v04 n1 ho, q, z01, e10, b_all, not_true_eq_false, not_false_eq_true, true_implies, false_implies, and_true, true_and]
    · simp only [s_X7_lends, d1, d2, q, z01, e10, b_all, not_true_eq_false, not_false_eq_true, true_implies, false_implies, and_true, true_and]
  have qf : (nI f = nI o) = False := eq_false (by rw [n_eq (by omega) (by omega)]; exact hfo)
  rcases rng u (a := 1) (b := 90) (by omega) (by omega) with ⟨c, c1, c2, rfl⟩ | hu
  rotate_left
  · refine Sim.err bad1 (fun post => ?_) (fun post => ?_)
    · by_cases hu1 : u < 1
      · simp only [s_X1_lendStones, k_deal_t v04 n1 hf, k_deal_t v04 n1 ho, qf, eq_true hu1, z01, e10, b_all, not_true_eq_false, not_false_eq_true, true_implies, false_implies, and_true, true_and]
      · have q : (90 < u) = True := eq_true (hu.resolve_left hu1)
        simp only [s_X1_lendStones, k_deal_t v04 n1 hf, k_deal_t v04 n1 ho, qf, eq_false hu1, q, z01, e10, b_all, not_true_eq_false, not_false_eq_true, true_implies, false_implies, and_true, true_and]
    · have q : ∀ post, s_X7_in u 1 90 post = post 0 := fun post => q_in_f (show u < 1 ∨ 90 < u from hu)
      simp only [s_X7_lends, d1, d2, qf, q, z01, e10, b_all, not_true_eq_false, not_false_eq_true, true_implies, false_implies, and_true, true_and]
  have f1 : (nI c < 1) = False := eq_false (ltl (n := 1) c1 (by omega))
  have f2 : (90 < nI c) = False := eq_false (show ¬ nI 90 < nI c by rw [n_lt (by omega) (by omega)]; omega)
  have f3 : ∀ post, s_X7_in (nI c) 1 90 post = post 1 := fun post => q_in_n (a := 1) (b := 90) c1 c2 (by omega)
  have hp20 : 2 ^ ns ≤ 2 ^ 20 := Nat.pow_le_pow_right (by decide) n2
  rcases setOr s n2 with ⟨z, z1, z2, z3, rfl⟩ | hs
  rotate_left
  · refine Sim.err bad1 (fun post => ?_) (fun post => ?_)
    · rcases hs with hs | ⟨z, z1, z2, rfl⟩
      · simp only [s_X1_lendStones, k_deal_t v04 n1 hf, k_deal_t v04 n1 ho, qf, f1, f2, eq_true hs, z01, e10, b_all, not_true_eq_false, not_false_eq_true, true_implies, false_implies, and_true, true_and]
      · have q : (nI z ≤ 0) = False := eq_false (nI_nle (by have := Nat.one_le_two_pow (n := ns); omega) (by omega))
        have q2 : (nI (z / 2 ^ ns) = 0) = False := eq_false (nI_ne0 (Nat.div_pos z1 (Nat.two_pow_pos ns)) (by have := Nat.div_le_self z (2 ^ ns); omega))
        simp only [s_X1_lendStones, k_deal_t v04 n1 hf, k_deal_t v04 n1 ho, qf, f1, f2, q, v60, sh_n z2 n2, q2, z01, e10, b_all, not_true_eq_false, not_false_eq_true, true_implies, false_implies, and_true, true_and]
    · have q : ∀ post, s_X7_in s 1 (nI (2 ^ ns - 1)) post = post 0 := fun post => q_in_f (by
        rcases hs with hs | ⟨z, z1, z2, rfl⟩
        · refine Or.inl ?_
          rw [Int32.le_iff_toInt_le] at hs
          rw [Int32.lt_iff_toInt_lt]
          have q0 : (0 : Int32).toInt = 0 := by decide
          have q1 : (1 : Int32).toInt = 1 := by decide
          omega
        · refine Or.inr ?_
          rw [n_lt (by omega) (by omega)]
          have := Nat.one_le_two_pow (n := ns)
          omega)
      simp only [s_X7_lends, d1, d2, qf, f3, t_1, S1, full_n n2, q, z01, e10, b_all, not_true_eq_false, not_false_eq_true, true_implies, false_implies, and_true, true_and]
  have q1 : (nI z ≤ 0) = False := eq_false (nI_nle (by omega) (by omega))
  have q2 : (nI (z / 2 ^ ns) = 0) = True := eq_true (by rw [Nat.div_eq_of_lt z2]; rfl)
  have q3 : ∀ post, s_X7_in (nI z) 1 (nI (2 ^ ns - 1)) post = post 1 := fun post => q_in_n (a := 1) (b := 2 ^ ns - 1) z1 (by omega) (by omega)
  obtain ⟨b, hc, hr, hall⟩ := may hRn hf z3
  cases b with
  | false =>
    refine Sim.err bad2 (fun post => ?_) (fun post => ?_)
    · have hc' : ∀ post, s_X1_canLend v (nI f) (nI z) post = post 0 v := hc
      simp only [s_X1_lendStones, k_deal_t v04 n1 hf, k_deal_t v04 n1 ho, qf, f1, f2, q1, v60, sh_n z3 n2, q2, hc', z01, e10, b_all, not_true_eq_false, not_false_eq_true, true_implies, false_implies, and_true, true_and]
    · have hr' : ∀ post, s_X7_mayLend w (nI f) (nI z) post = post 0 w := hr
      simp only [s_X7_lends, d1, d2, qf, f3, t_1, S1, full_n n2, q3, hr', z01, e10, b_all, not_true_eq_false, not_false_eq_true, true_implies, false_implies, and_true, true_and]
  | true =>
    have hc' : ∀ post, s_X1_canLend v (nI f) (nI z) post = post 1 v := hc
    have hr' : ∀ post, s_X7_mayLend w (nI f) (nI z) post = post 1 w := hr
    have a0 : (nI nm < 0) = False := eq_false (n_neg (by omega))
    by_cases hnm : nm = 10
    · have a1 : (nI nm < 10) = False := eq_false (by subst hnm; decide)
      have a2 : (nI nm = 10) = True := eq_true (by subst hnm; rfl)
      refine Sim.err bad3 (fun post => ?_) (fun post => ?_)
      · simp only [s_X1_lendStones, k_deal_t v04 n1 hf, k_deal_t v04 n1 ho, qf, f1, f2, q1, v60, sh_n z3 n2, q2, hc', s_X2_add, v160, a0, a1, z01, e10, b_all, not_true_eq_false, not_false_eq_true, true_implies, false_implies, and_true, true_and]
      · simp only [s_X7_lends, d1, d2, qf, f3, t_1, t_2, S1, S2, full_n n2, q3, hr', a2, z01, e10, b_all, not_true_eq_false, not_false_eq_true, true_implies, false_implies, and_true, true_and]
    · have a1 : (nI nm < 10) = True := eq_true (lt_n (n := 10) (by omega) (by omega))
      have a2 : (nI nm = 10) = False := eq_false (show ¬ nI nm = nI 10 by rw [n_eq (by omega) (by omega)]; exact hnm)
      have a3 : (nI nm = -1) = False := eq_false (n_m1 (by omega))
      have L0 : (214 + (5 * nI nm)) + 0 = nI (214 + 5 * nm + 0) := l214 nm 0
      have L1 : (214 + (5 * nI nm)) + 1 = nI (214 + 5 * nm + 1) := l214 nm 1
      have L2 : (214 + (5 * nI nm)) + 2 = nI (214 + 5 * nm + 2) := l214 nm 2
      have L3 : (214 + (5 * nI nm)) + 3 = nI (214 + 5 * nm + 3) := l214 nm 3
      have L40 : (214 + (5 * nI nm)) + 4 = nI (214 + 5 * nm + 4) := l214 nm 4
      obtain ⟨v1, hv1⟩ : ∃ v1, v1 = st (st (st (st (st (st v 17 nm (nI f)) 18 nm (nI o)) 19 nm (nI t + nI c)) 20 nm (nI z)) 21 nm 0) 16 0 (nI (nm + 1)) := ⟨_, rfl⟩
      obtain ⟨w1, hw1⟩ : ∃ w1, w1 = st (st (st (st (st (st w 1 2 (nI (nm + 1))) 1 (214 + 5 * nm + 0) (nI f)) 1 (214 + 5 * nm + 1) (nI o)) 1 (214 + 5 * nm + 2) (nI t + nI c)) 1 (214 + 5 * nm + 3) (nI z)) 1 (214 + 5 * nm + 4) 0 := ⟨_, rfl⟩
      have hR1 : Rn v1 (w1 1) nd ns (nm + 1) t g e 0 := by
        subst hv1
        subst hw1
        refine ⟨?_, fun d hd6 => ?_, ⟨?_, ?_⟩, fun k hk' => ?_, fun k k1 k2 => ?_, fun m hm' => ?_, ?_⟩
        · unfold Rg
          simp (disch := omega) only [st1, st1n, u_s, u_n]
          exact ⟨n1, n2, by omega, n4, n5, n6, v04, S0, v60, S1, trivial, trivial, v05, S3, L4, S5, v06, S6, v07, S7⟩
        · have := hb d hd6
          simp (disch := omega) only [st1, st1n, u_s, u_n]
          exact this
        · exact RP_s (RP_c hP (fun i _ => by simp (disch := omega) only [st1, st1n, u_s, u_n]) (fun i _ => by simp (disch := omega) only [st1, st1n, u_s, u_n]) (fun i _ => by simp (disch := omega) only [st1, st1n, u_s, u_n]) (fun i _ => by simp (disch := omega) only [st1, st1n, u_s, u_n])) (fun j hj => by simp (disch := omega) only [st1, st1n, u_s, u_n])
        · exact okT_s hT (fun j hj => by simp (disch := omega) only [st1, st1n, u_s, u_n])
        · exact Rk_c (hk k hk') ⟨by simp (disch := omega) only [st1, st1n, u_s, u_n], by simp (disch := omega) only [st1, st1n, u_s, u_n], by simp (disch := omega) only [st1, st1n, u_s, u_n], by simp (disch := omega) only [st1, st1n, u_s, u_n], by simp (disch := omega) only [st1, st1n, u_s, u_n], by simp (disch := omega) only [st1, st1n, u_s, u_n], by simp (disch := omega) only [st1, st1n, u_s, u_n], by simp (disch := omega) only [st1, st1n, u_s, u_n], by simp (disch := omega) only [st1, st1n, u_s, u_n]⟩ (fun f hf => by simp (disch := omega) only [st1, st1n, u_s, u_n]) (fun m hm => ⟨by simp (disch := omega) only [st1, st1n, u_s, u_n], by simp (disch := omega) only [st1, st1n, u_s, u_n]⟩) (Nat.le_refl _) (by omega)
        · have := h0 k k1 k2
          unfold R0 at this ⊢
          simp (disch := omega) only [st1, st1n, u_s, u_n]
          exact this
        · unfold Rm
          by_cases q : m = nm
          · subst q
            exact ⟨by simp (disch := omega) only [st1, st1n, u_s, u_n], by simp (disch := omega) only [st1, st1n, u_s, u_n], by simp (disch := omega) only [st1, st1n, u_s, u_n], by simp (disch := omega) only [st1, st1n, u_s, u_n], by simp (disch := omega) only [st1, st1n, u_s, u_n]⟩
          · have := hm m (by omega)
            unfold Rm at this
            simp (disch := omega) only [st1, st1n, u_s, u_n]
            exact this
        · refine ⟨BB_k hB.1 (fun d hd => by simp (disch := omega) only [st1, st1n, u_s, u_n]) (fun j hj => ⟨by simp (disch := omega) only [st1, st1n, u_s, u_n], by simp (disch := omega) only [st1, st1n, u_s, u_n]⟩), J1_s hB.2.1 (fun d hd => by simp (disch := omega) only [st1, st1n, u_s, u_n]) (fun j hj => by simp (disch := omega) only [st1, st1n, u_s, u_n]), J2_s hB.2.2.1 (by simp (disch := omega) only [st1, st1n, u_s, u_n]) (fun j hj => by simp (disch := omega) only [st1, st1n, u_s, u_n]), nm + 1, t, by omega, n4, ?_, ?_, fun m hm' => ?_⟩
          · simp (disch := omega) only [st1, st1n, u_s, u_n]
          · simp (disch := omega) only [st1, st1n, u_s, u_n]
            exact S3
          · by_cases q : m = nm
            · subst q
              simp (disch := omega) only [st1, st1n, u_s, u_n]
              refine ⟨?_, t + c, by omega, nI_add t c⟩
              rw [n_eq (by omega) (by omega)]
              exact hfo
            · obtain ⟨nm2, t2, y1, y2, y3, y4, y5⟩ := hB.2.2.2
              have g1 : nm2 = nm := by
                have := y3.symm.trans S2
                rw [n_eq (by omega) (by omega)] at this
                exact this
              have g2 : t2 = t := by
                have := y4.symm.trans S3
                rw [n_eq (by omega) (by omega)] at this
                exact this
              subst g1
              subst g2
              have := y5 m (by omega)
              simp (disch := omega) only [st1, st1n, u_s, u_n]
              exact this
      have hF : w1 1 (214 + 5 * nm + 0) = nI f := by
        subst hw1
        simp (disch := omega) only [st1, st1n, u_s, u_n]
      have hTo : w1 1 (214 + 5 * nm + 1) = nI o := by
        subst hw1
        simp (disch := omega) only [st1, st1n, u_s, u_n]
      have htg : togo (w1 1) f nm ns z 0 := by
        intro j _ hj hbit
        have hgd := hall rfl j hj hbit
        have hh := hgd.home (by omega) n1 (hk j hj)
        obtain ⟨o', cc, r1, r2, r3, r4, r5, r6, r7⟩ := hh
        have hp : pS (w1 1) j = pS (w 1) j := by
          subst hw1
          exact pS_c (fun i => by simp (disch := omega) only [st1, st1n, u_s, u_n]) (by simp (disch := omega) only [st1, st1n, u_s, u_n]) (by simp (disch := omega) only [st1, st1n, u_s, u_n]) (by simp (disch := omega) only [st1, st1n, u_s, u_n])
        rw [hp]
        subst hw1
        simp (disch := omega) only [st1, st1n, u_s, u_n]
        exact ⟨hgd.1, hgd.2.1, r6, ⟨cc, r2, r7⟩, hgd.2.2⟩
      obtain ⟨v', w', p1, p2, p3, p4⟩ := lend_all hf ho hfo z3 ns 0 v1 w1 (by omega) hR1 hF hTo htg
      refine Sim.mk (v' := v') (w' := w') (r := nI nm) (fun post => ?_) (fun post => ?_) ?_ (n_neg (by omega)) ⟨nd, ns, nm + 1, t, g, e, p4⟩
      · simp (disch := omega) only [s_X1_lendStones, k_deal_t v04 n1 hf, k_deal_t v04 n1 ho, qf, f1, f2, q1, v60, sh_n z3 n2, q2, hc', s_X2_add, v160, v05, a0, a1, a3, vp_in_nI, tn_nI, sc_st, st1, st1n, u_s, u_n, nI_1, z01, e10, b_all, not_true_eq_false, not_false_eq_true, true_implies, false_implies, and_true, true_and]
        rw [← hv1]
        exact p1 post (fun _ v => post (nI nm) v)
      · simp (disch := omega) only [s_X7_lends, d1, d2, qf, f3, t_1, t_2, t_3, S1, S2, S3, full_n n2, q3, hr', a2, L0, L1, L2, L3, L40, vp_in_nI, tn_nI, st1, st1n, u_s, u_n, nI_1, z01, e10, b_all, not_true_eq_false, not_false_eq_true, true_implies, false_implies, and_true, true_and]
        rw [← hw1]
        exact p2 post (fun _ v => post (nI nm) v)
      · rw [p3]
        subst hw1
        simp only [st_sa, sa_sa, sa_1]
