/-! PURE 12: dealer, stone, set, rate, unrate -/
def DB_dealer (v_1 : V)  (post : Int32 → V → Prop) : Prop :=
  (¬ (v_1 1 (tn 0)) = 6 → (∀ v_2 : V, v_2 = st v_1 1 (tn 0) ((v_1 1 (tn 0)) + 1) → (s_X7_acted v_2 ((v_2 1 (tn 0)) - 1) (fun (r_3 : Int32) (v_4 : V) => post r_3 v_4)))) ∧ ((v_1 1 (tn 0)) = 6 → (post (-10000003) v_1))
theorem q_dealer (w : V)  (post : Int32 → V → Prop) : s_X7_dealer w post = DB_dealer (fO w 2 0 (w 1) 664) post := q_begins (post := fun v_1 => DB_dealer v_1 post)
def DB_stone (v_1 : V) (p1 : Int32) (p2 : Int32) (p3 : Int32) (p4 : Int32) (post : Int32 → V → Prop) : Prop :=
  s_X7_isDealer v_1 p1 (fun (r_2 : Int32) (v_3 : V) => (r_2 = 0 → (post (-10000001) v_3)) ∧ (¬ r_2 = 0 → (s_X7_in p2 1 999 (fun (r_4 : Int32) => (r_4 = 0 → (post (-10000001) v_3)) ∧ (¬ r_4 = 0 → (s_X7_isGrade p3 p4 (fun (r_5 : Int32) => (¬ r_5 = 0 → ((¬ (v_3 1 (tn 1)) = 20 → (∀ v_6 : V, v_6 = st v_3 1 (tn 1) ((v_3 1 (tn 1)) + 1) → (s_X7_setStone v_6 (v_3 1 (tn 1)) 0 p2 (fun (v_7 : V) => s_X7_setStone v_7 (v_3 1 (tn 1)) 1 p3 (fun (v_8 : V) => s_X7_setStone v_8 (v_3 1 (tn 1)) 2 p4 (fun (v_9 : V) => s_X7_setStone v_9 (v_3 1 (tn 1)) 3 p1 (fun (v_10 : V) => s_X7_setStone v_10 (v_3 1 (tn 1)) 4 p1 (fun (v_11 : V) => s_X7_setStone v_11 (v_3 1 (tn 1)) 5 (-1) (fun (v_12 : V) => s_X7_acted v_12 (v_3 1 (tn 1)) (fun (r_13 : Int32) (v_14 : V) => post r_13 v_14)))))))))) ∧ ((v_3 1 (tn 1)) = 20 → (post (-10000003) v_3)))) ∧ (r_5 = 0 → (post (-10000001) v_3)))))))))
theorem q_stone (w : V) (p1 : Int32) (p2 : Int32) (p3 : Int32) (p4 : Int32) (post : Int32 → V → Prop) : s_X7_stone w p1 p2 p3 p4 post = DB_stone (fO w 2 0 (w 1) 664) p1 p2 p3 p4 post := q_begins (post := fun v_1 => DB_stone v_1 p1 p2 p3 p4 post)
def DB_unrate (v_1 : V) (p1 : Int32) (p2 : Int32) (p3 : Int32) (post : Int32 → V → Prop) : Prop :=
  s_X7_in p1 0 4 (fun (r_2 : Int32) => (r_2 = 0 → (post (-10000001) v_1)) ∧ (¬ r_2 = 0 → (s_X7_isGrade p2 p3 (fun (r_3 : Int32) => (¬ r_3 = 0 → (s_X7_rateAt p1 p2 p3 (fun (r_4 : Int32) => vp_in r_4 664 ∧ ((¬ (v_1 1 (tn r_4)) = 0 → (vp_in r_4 664 ∧ (∀ v_5 : V, v_5 = st v_1 1 (tn r_4) 0 → (∀ v_6 : V, v_6 = st v_5 1 (tn 5) ((v_5 1 (tn 5)) - 1) → (s_X7_acted v_6 (v_1 1 (tn r_4)) (fun (r_7 : Int32) (v_8 : V) => post r_7 v_8)))))) ∧ ((v_1 1 (tn r_4)) = 0 → (post (-10000002) v_1)))))) ∧ (r_3 = 0 → (post (-10000001) v_1))))))
theorem q_unrate (w : V) (p1 : Int32) (p2 : Int32) (p3 : Int32) (post : Int32 → V → Prop) : s_X7_unrate w p1 p2 p3 post = DB_unrate (fO w 2 0 (w 1) 664) p1 p2 p3 post := q_begins (post := fun v_1 => DB_unrate v_1 p1 p2 p3 post)
def DB_set (v_1 : V) (p1 : Int32) (p2 : Int32) (post : Int32 → V → Prop) : Prop :=
  s_X7_in p1 0 1 (fun (r_2 : Int32) => (r_2 = 0 → (post (-10000001) v_1)) ∧ (¬ r_2 = 0 → ((¬ p1 = 0 → (s_X7_in p2 0 100 (fun (r_3 : Int32) => (¬ r_3 = 0 → (vp_in (6 + p1) 664 ∧ (vp_in (6 + p1) 664 ∧ (∀ v_4 : V, v_4 = st v_1 1 (tn (6 + p1)) p2 → (s_X7_acted v_4 (v_1 1 (tn (6 + p1))) (fun (r_5 : Int32) (v_6 : V) => post r_5 v_6)))))) ∧ (r_3 = 0 → (post (-10000001) v_1))))) ∧ (p1 = 0 → (s_X7_in p2 0 30 (fun (r_9 : Int32) => (¬ r_9 = 0 → (vp_in (6 + p1) 664 ∧ (vp_in (6 + p1) 664 ∧ (∀ v_10 : V, v_10 = st v_1 1 (tn (6 + p1)) p2 → (s_X7_acted v_10 (v_1 1 (tn (6 + p1))) (fun (r_11 : Int32) (v_12 : V) => post r_11 v_12)))))) ∧ (r_9 = 0 → (post (-10000001) v_1))))))))
theorem q_set (w : V) (p1 : Int32) (p2 : Int32) (post : Int32 → V → Prop) : s_X7_set w p1 p2 post = DB_set (fO w 2 0 (w 1) 664) p1 p2 post := q_begins (post := fun v_1 => DB_set v_1 p1 p2 post)
/-- a command's two sides, the reference's with its record -/
def Pub (C D : (Int32 → V → Prop) → Prop) (v w : V) : Prop := (∃ r v' S', (∀ post, C post = post r v') ∧ (∀ post, D post = s_X7_acted (sa w 1 S') r post) ∧ ¬ r < 0 ∧ R v' S') ∨ (∃ r, bad r ∧ (∀ post, C post = post r v) ∧ ((∀ post, D post = post r w) ∨ (∀ post, D post = s_X7_acted w r post)))
theorem Sim.pub {C D : (Int32 → V → Prop) → Prop} {v w : V} (h : Sim C D v w) : Pub C (fun post => D (fun r w => s_X7_acted w r post)) v w := by
  obtain ⟨r, v', S', h1, h2, ⟨h3, h4⟩ | ⟨h3, h4, h5⟩⟩ := h
  · exact Or.inl ⟨r, v', S', h1, fun post => h2 _, h3, h4⟩
  · refine Or.inr ⟨r, h3, fun post => by rw [h1, h4], Or.inr (fun post => ?_)⟩
    rw [h5] at h2
    have := h2 (fun r w => s_X7_acted w r post)
    rw [sa_self] at this
    exact this
theorem Pub.err {C D : (Int32 → V → Prop) → Prop} {v w : V} {r : Int32} (hr : bad r) (h1 : ∀ post, C post = post r v) (h2 : ∀ post, D post = post r w) : Pub C D v w := Or.inr ⟨r, hr, h1, Or.inl h2⟩
theorem Pub.mk {C D : (Int32 → V → Prop) → Prop} {v w v' w' : V} {r : Int32} (h1 : ∀ post, C post = post r v') (h2 : ∀ post, D post = s_X7_acted w' r post) (hw : w' = sa w 1 (w' 1)) (hr : ¬ r < 0) (hR : R v' (w' 1)) : Pub C D v w := Or.inl ⟨r, v', w' 1, h1, fun post => by rw [← hw]; exact h2 post, hr, hR⟩
theorem t_0 : tn 0 = 0 := by decide
theorem t_1 : tn 1 = 1 := by decide
theorem t_2 : tn 2 = 2 := by decide
theorem t_3 : tn 3 = 3 := by decide
theorem t_4 : tn 4 = 4 := by decide
theorem t_5 : tn 5 = 5 := by decide
theorem t_6 : tn 6 = 6 := by decide
theorem t_7 : tn 7 = 7 := by decide
theorem add_sub1 (n : Nat) : nI n + 1 - 1 = nI n := by
  rw [nI_1]
  exact pk_sub (a := n + 1) (b := 1) (by omega)

theorem pub_dealer {v w : V} (h : R v (w 1)) : Pub (s_X1_addDealer v) (DB_dealer w) v w := by
  obtain ⟨nd, ns, nm, t, g, e, hRn⟩ := h
  have hBm := bnd_max hRn
  have hRn' := hRn
  obtain ⟨hg, hb, ⟨hP, hT⟩, hk, h0, hm, hB⟩ := hRn'
  have hg' := hg
  obtain ⟨n1, n2, n3, n4, n5, n6, v04, S0, v60, S1, v160, S2, v05, S3, L4, S5, v06, S6, v07, S7⟩ := hg'
  have f0 : (nI nd < 0) = False := eq_false (n_neg (by omega))
  by_cases hd : nd = 6
  · refine Pub.err bad3 (fun post => ?_) (fun post => ?_)
    · have f1 : (nI nd < 6) = False := eq_false (by subst hd; decide)
      simp only [s_X1_addDealer, v04, f0, f1, e10, b_all, not_true_eq_false, not_false_eq_true, true_implies, false_implies, and_true, true_and]
    · have f1 : (nI nd = 6) = True := eq_true (by subst hd; rfl)
      simp only [DB_dealer, t_0, S0, f1, e10, b_all, not_true_eq_false, not_false_eq_true, true_implies, false_implies, and_true, true_and]
  · have f1 : (nI nd < 6) = True := eq_true (lt_n (n := 6) (by omega) (by omega))
    have f2 : (nI nd = 6) = False := eq_false (show ¬ nI nd = nI 6 by rw [n_eq (by omega) (by omega)]; exact hd)
    apply Pub.mk
    · intro post
      simp (disch := omega) only [s_X1_addDealer, v04, f0, f1, vp_in_nI, tn_nI, sc_st, st1, st1n, u_s, u_n, add_sub1, e10, b_all, not_true_eq_false, not_false_eq_true, true_implies, false_implies, and_true, true_and]
      exact rfl
    · intro post
      simp (disch := omega) only [DB_dealer, t_0, S0, f2, st1, st1n, u_s, u_n, add_sub1, e10, b_all, not_true_eq_false, not_false_eq_true, true_implies, false_implies, and_true, true_and]
      exact rfl
    · simp only [st_sa, sa_sa, sa_1]
    · exact n_neg (by omega)
    · refine ⟨nd + 1, ns, nm, t, g, e, ?_, fun d hd6 => ?_, ⟨?_, ?_⟩, fun k hk' => ?_, fun k k1 k2 => ?_, fun m hm' => ?_, ?_⟩
      · unfold Rg
        simp (disch := omega) only [st1, st1n, u_s, u_n]
        exact ⟨by omega, n2, n3, n4, n5, n6, nI_1 nd, nI_1 nd, v60, S1, v160, S2, v05, S3, L4, S5, v06, S6, v07, S7⟩
      · obtain ⟨r1, r2⟩ := hb d hd6
        by_cases q : d = nd
        · subst q
          simp (disch := omega) only [st1, st1n, u_s, u_n]
          exact ⟨(r2 (Nat.le_refl _)).symm, fun _ => r2 (Nat.le_refl _)⟩
        · simp (disch := omega) only [st1, st1n, u_s, u_n]
          exact ⟨r1, fun z => r2 (by omega)⟩
      · exact RP_s (RP_c hP (fun i _ => by simp (disch := omega) only [st1, st1n, u_s, u_n]) (fun i _ => by simp (disch := omega) only [st1, st1n, u_s, u_n]) (fun i _ => by simp (disch := omega) only [st1, st1n, u_s, u_n]) (fun i _ => by simp (disch := omega) only [st1, st1n, u_s, u_n])) (fun j hj => by simp (disch := omega) only [st1, st1n, u_s, u_n])
      · exact okT_s hT (fun j hj => by simp (disch := omega) only [st1, st1n, u_s, u_n])
      · exact Rk_c (hk k hk') ⟨by simp (disch := omega) only [st1, st1n, u_s, u_n], by simp (disch := omega) only [st1, st1n, u_s, u_n], by simp (disch := omega) only [st1, st1n, u_s, u_n], by simp (disch := omega) only [st1, st1n, u_s, u_n], by simp (disch := omega) only [st1, st1n, u_s, u_n], by simp (disch := omega) only [st1, st1n, u_s, u_n], by simp (disch := omega) only [st1, st1n, u_s, u_n], by simp (disch := omega) only [st1, st1n, u_s, u_n], by simp (disch := omega) only [st1, st1n, u_s, u_n]⟩ (fun f hf => by simp (disch := omega) only [st1, st1n, u_s, u_n]) (fun m hm => ⟨by simp (disch := omega) only [st1, st1n, u_s, u_n], by simp (disch := omega) only [st1, st1n, u_s, u_n]⟩) (by omega) (Nat.le_refl _)
      · have := h0 k k1 k2
        unfold R0 at this ⊢
        simp (disch := omega) only [st1, st1n, u_s, u_n]
        exact this
      · have := hm m hm'
        unfold Rm at this ⊢
        simp (disch := omega) only [st1, st1n, u_s, u_n]
        exact this
      · exact BD_s hB (fun j h1 h2 h3 => by simp (disch := omega) only [st1, st1n, u_s, u_n])

theorem pub_stone {v w : V} (h : R v (w 1)) (x y z u : Int32) : Pub (s_X1_addStone v x y z u) (DB_stone w x y z u) v w := by
  obtain ⟨nd, ns, nm, t, g, e, hRn⟩ := h
  have hBm := bnd_max hRn
  have hRn' := hRn
  obtain ⟨hg, hb, ⟨hP, hT⟩, hk, h0, hm, hB⟩ := hRn'
  have hg' := hg
  obtain ⟨n1, n2, n3, n4, n5, n6, v04, S0, v60, S1, v160, S2, v05, S3, L4, S5, v06, S6, v07, S7⟩ := hg'
  rcases ixn x (n := nd) (by omega) with ⟨o, ho, rfl⟩ | hx
  rotate_left
  · refine Pub.err bad1 (fun post => ?_) (fun post => ?_)
    · unfold s_X1_addStone
      rw [k_deal_f v04 hx]
      exact b_t rfl
    · unfold DB_stone
      rw [q_isDealer_f S0 (by omega) hx]
      exact b_t rfl
  have hdl : ∀ post, s_X7_isDealer w (nI o) post = post 1 w := fun post => q_isDealer_t S0 (show nd < 1000000 by omega) ho
  rcases rng y (a := 1) (b := 999) (by omega) (by omega) with ⟨c, c1, c2, rfl⟩ | hy
  rotate_left
  · refine Pub.err bad1 (fun post => ?_) (fun post => ?_)
    · unfold s_X1_addStone
      rw [k_deal_t v04 n1 ho, b_f z10]
      by_cases hy1 : y < 1
      · exact b_t hy1
      · rw [b_f hy1]
        exact b_t (hy.resolve_left hy1)
    · unfold DB_stone
      rw [hdl, b_f z10, q_in_f (show y < 1 ∨ 999 < y from hy)]
      exact b_t rfl
  have f1 : (nI c < 1) = False := eq_false (ltl (n := 1) c1 (by omega))
  have f2 : (999 < nI c) = False := eq_false (show ¬ nI 999 < nI c by rw [n_lt (by omega) (by omega)]; omega)
  have f3 : ∀ post, s_X7_in (nI c) 1 999 post = post 1 := fun post => q_in_n (a := 1) (b := 999) c1 c2 (by omega)
  rcases lookOr z u with ⟨ya, zb, ha, hb8, rfl, rfl⟩ | hlook
  rotate_left
  · refine Pub.err bad1 (fun post => ?_) (fun post => ?_)
    · simp (disch := omega) only [s_X1_addStone, k_deal_t v04 n1 ho, f1, f2, k_look_f hlook, e10, b_all, not_true_eq_false, not_false_eq_true, true_implies, false_implies, and_true, true_and]
    · simp (disch := omega) only [DB_stone, hdl, f3, q_isGrade_f hlook, e10, b_all, not_true_eq_false, not_false_eq_true, true_implies, false_implies, and_true, true_and]
  have hlk : ∀ post, s_X6_isLook (nI ya) (nI zb) post = post 1 := fun post => k_look_t ha hb8
  have hgr : ∀ post, s_X7_isGrade (nI ya) (nI zb) post = post 1 := fun post => q_isGrade_t ha hb8
  have g0 : (nI ns < 0) = False := eq_false (n_neg (by omega))
  by_cases hs : ns = 20
  · refine Pub.err bad3 (fun post => ?_) (fun post => ?_)
    · have g1 : (nI ns < 20) = False := eq_false (by subst hs; decide)
      simp (disch := omega) only [s_X1_addStone, k_deal_t v04 n1 ho, f1, f2, hlk, s_X5_add, v60, g0, g1, e10, b_all, not_true_eq_false, not_false_eq_true, true_implies, false_implies, and_true, true_and]
    · have g1 : (nI ns = 20) = True := eq_true (by subst hs; rfl)
      simp (disch := omega) only [DB_stone, hdl, f3, hgr, t_1, S1, g1, e10, b_all, not_true_eq_false, not_false_eq_true, true_implies, false_implies, and_true, true_and]
  · have g1 : (nI ns < 20) = True := eq_true (lt_n (n := 20) (by omega) (by omega))
    have g2 : (nI ns = 20) = False := eq_false (show ¬ nI ns = nI 20 by rw [n_eq (by omega) (by omega)]; exact hs)
    have g3 : (nI ns = -1) = False := eq_false (n_m1 (by omega))
    have k20 : ns < 20 := by omega
    have R00 := h0 ns (Nat.le_refl _) k20
    obtain ⟨R06, R07, R08⟩ := R00
    apply Pub.mk
    · intro post
      simp (disch := omega) only [s_X1_addStone, k_deal_t v04 n1 ho, f1, f2, hlk, s_X5_add, v60, g0, g1, g3, vp_in_nI, tn_nI, sc_st, st1, st1n, u_s, u_n, nI_1, e10, b_all, not_true_eq_false, not_false_eq_true, true_implies, false_implies, and_true, true_and]
      exact rfl
    · intro post
      simp (disch := omega) only [DB_stone, hdl, f3, hgr, t_1, S1, g2, q_set0 k20, q_set1 k20, q_set2 k20, q_set3 k20, q_set4 k20, q_set5 k20, nI_1, e10, b_all, not_true_eq_false, not_false_eq_true, true_implies, false_implies, and_true, true_and]
      exact rfl
    · simp only [st_sa, sa_sa, sa_1]
    · exact n_neg (by omega)
    · refine ⟨nd, ns + 1, nm, t, g, e, ?_, fun d hd6 => ?_, ⟨?_, ?_⟩, fun k hk' => ?_, fun k k1 k2 => ?_, fun m hm' => ?_, ?_⟩
      · unfold Rg
        simp (disch := omega) only [st1, st1n, u_s, u_n]
        exact ⟨n1, by omega, n3, n4, n5, n6, v04, S0, trivial, trivial, v160, S2, v05, S3, L4, S5, v06, S6, v07, S7⟩
      · have := hb d hd6
        simp (disch := omega) only [st1, st1n, u_s, u_n]
        exact this
      · exact RP_s (RP_c hP (fun i _ => by simp (disch := omega) only [st1, st1n, u_s, u_n]) (fun i _ => by simp (disch := omega) only [st1, st1n, u_s, u_n]) (fun i _ => by simp (disch := omega) only [st1, st1n, u_s, u_n]) (fun i _ => by simp (disch := omega) only [st1, st1n, u_s, u_n])) (fun j hj => by simp (disch := omega) only [st1, st1n, u_s, u_n])
      · exact okT_s hT (fun j hj => by simp (disch := omega) only [st1, st1n, u_s, u_n])
      · by_cases q : k = ns
        · subst q
          refine ⟨?_, ⟨⟨c, c1, c2, by simp (disch := omega) only [st1, st1n, u_s, u_n]⟩, ⟨ya, ha, by simp (disch := omega) only [st1, st1n, u_s, u_n]⟩, ⟨zb, hb8, by simp (disch := omega) only [st1, st1n, u_s, u_n]⟩⟩, Or.inl ⟨o, 0, ho, by omega, by simp (disch := omega) only [st1, st1n, u_s, u_n], by simp (disch := omega) only [st1, st1n, u_s, u_n], by simp (disch := omega) only [st1, st1n, u_s, u_n], by simp (disch := omega) only [st1, st1n, u_s, u_n]; exact R07, by simp (disch := omega) only [st1, st1n, u_s, u_n]; exact R08⟩⟩
          unfold eqK
          exact ⟨by simp (disch := omega) only [st1, st1n, u_s, u_n], by simp (disch := omega) only [st1, st1n, u_s, u_n], by simp (disch := omega) only [st1, st1n, u_s, u_n], by simp (disch := omega) only [st1, st1n, u_s, u_n], by simp (disch := omega) only [st1, st1n, u_s, u_n], by simp (disch := omega) only [st1, st1n, u_s, u_n], by simp (disch := omega) only [st1, st1n, u_s, u_n]; exact R06.symm, by simp (disch := omega) only [st1, st1n, u_s, u_n]; exact R07.symm, by simp (disch := omega) only [st1, st1n, u_s, u_n]; exact R08.symm⟩
        · exact Rk_c (hk k (by omega)) ⟨by simp (disch := omega) only [st1, st1n, u_s, u_n], by simp (disch := omega) only [st1, st1n, u_s, u_n], by simp (disch := omega) only [st1, st1n, u_s, u_n], by simp (disch := omega) only [st1, st1n, u_s, u_n], by simp (disch := omega) only [st1, st1n, u_s, u_n], by simp (disch := omega) only [st1, st1n, u_s, u_n], by simp (disch := omega) only [st1, st1n, u_s, u_n], by simp (disch := omega) only [st1, st1n, u_s, u_n], by simp (disch := omega) only [st1, st1n, u_s, u_n]⟩ (fun f hf => by simp (disch := omega) only [st1, st1n, u_s, u_n]) (fun m hm => ⟨by simp (disch := omega) only [st1, st1n, u_s, u_n], by simp (disch := omega) only [st1, st1n, u_s, u_n]⟩) (Nat.le_refl _) (Nat.le_refl _)
      · have := h0 k (by omega) k2
        unfold R0 at this ⊢
        simp (disch := omega) only [st1, st1n, u_s, u_n]
        exact this
      · have := hm m hm'
        unfold Rm at this ⊢
        simp (disch := omega) only [st1, st1n, u_s, u_n]
        exact this
      · exact BD_k hB (fun d hd => by simp (disch := omega) only [st1, st1n, u_s, u_n]) (fun j hj => ⟨by simp (disch := omega) only [st1, st1n, u_s, u_n], by simp (disch := omega) only [st1, st1n, u_s, u_n]⟩) (fun j h1 h2 => by simp (disch := omega) only [st1, st1n, u_s, u_n]) (fun j h1 h2 => by simp (disch := omega) only [st1, st1n, u_s, u_n])
