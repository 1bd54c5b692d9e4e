/-! PURE 14: rate, unrate, set -/
theorem q_grade_f {x y z : Int32} {P Q : Prop} (h : noGrade x y z) : s_X7_in x 0 4 (fun r => (r = 0 → P) ∧ (¬ r = 0 → s_X7_isGrade y z (fun r => (r = 0 → P) ∧ (¬ r = 0 → Q)))) = P := by
  by_cases h1 : x < 0 ∨ 4 < x
  · rw [q_in_f h1]
    exact b_t rfl
  · rw [q_in_t (fun q => h1 (Or.inl q)) (fun q => h1 (Or.inr q)), b_f z10]
    rcases h with h | h
    · exact absurd h h1
    · rw [q_isGrade_f h]
      exact b_t rfl
theorem q_grade_f' {x y z : Int32} {P Q : Prop} (h : noGrade x y z) : s_X7_in x 0 4 (fun r => (r = 0 → P) ∧ (¬ r = 0 → s_X7_isGrade y z (fun r => (¬ r = 0 → Q) ∧ (r = 0 → P)))) = P := by
  by_cases h1 : x < 0 ∨ 4 < x
  · rw [q_in_f h1]
    exact b_t rfl
  · rw [q_in_t (fun q => h1 (Or.inl q)) (fun q => h1 (Or.inr q)), b_f z10]
    rcases h with h | h
    · exact absurd h h1
    · rw [q_isGrade_f h]
      exact b_t' rfl
theorem sim_rate {v w : V} (h : R v (w 1)) (x y z u : Int32) : Sim (s_X1_putRate v x y z u) (s_X7_rates w x y z u) v w := by
  obtain ⟨nd, ns, nm, t, g, e, hRn⟩ := h
  have hRn' := hRn
  obtain ⟨hg, hb, ⟨hP, hT⟩, hk, h0, hm, hB⟩ := hRn'
  have hg' := hg
  obtain ⟨n1, n2, n3, n4, n5, n6, v04, S0, v60, S1, v160, S2, v05, S3, L4, S5, v06, S6, v07, S7⟩ := hg'
  rcases gradeOr x y z with ⟨a, b, c, ha, hb10, hc, rfl, rfl, rfl⟩ | hbad
  rotate_left
  · refine Sim.err bad1 (fun post => ?_) (fun post => ?_)
    · unfold s_X1_putRate
      rw [k_grade_f hbad]
      exact b_t rfl
    · exact q_grade_f hbad
  have hin : ∀ post, s_X7_in (nI a) 0 4 post = post 1 := fun post => q_in_n (a := 0) (b := 4) (by omega) (by omega) (by omega)
  have hgr : ∀ post, s_X7_isGrade (nI b) (nI c) post = post 1 := fun post => q_isGrade_t hb10 hc
  have hkg : ∀ post, s_X6_isGrade (nI a) (nI b) (nI c) post = post 1 := fun post => k_grade_t ha hb10 hc
  have hown : ∀ post, s_X3_ownRate v (nI a) (nI b) (nI c) post = post (w 1 (264 + (80 * a + 8 * b + c))) v := fun post => k_own hP ha hb10 hc
  have hat : ∀ post, s_X7_rateAt (nI a) (nI b) (nI c) post = post (nI (264 + (80 * a + 8 * b + c))) := fun post => by
    rw [q_rateAt, show 264 + 80 * a + 8 * b + c = 264 + (80 * a + 8 * b + c) by omega]
  have hJ : 80 * a + 8 * b + c < 400 := by omega
  rcases rng u (a := 1) (b := 9999) (by omega) (by omega) with ⟨r, r1, r2, rfl⟩ | hu
  rotate_left
  · refine Sim.err bad1 (fun post => ?_) (fun post => ?_)
    · unfold s_X1_putRate
      rw [hkg, b_f z10]
      by_cases hu1 : u < 1
      · exact b_t hu1
      · rw [b_f hu1]
        exact b_f (nle (hu.resolve_left hu1))
    · unfold s_X7_rates
      rw [hin, b_f z10, hgr, b_f z10, q_in_f (show u < 1 ∨ 9999 < u from hu)]
      exact b_t' rfl
  have f1 : (nI r < 1) = False := eq_false (ltl (n := 1) r1 (by omega))
  have f2 : (nI r ≤ 9999) = True := eq_true (lel (n := 9999) r2 (by omega))
  have f3 : ∀ post, s_X7_in (nI r) 1 9999 post = post 1 := fun post => q_in_n (a := 1) (b := 9999) r1 r2 (by omega)
  by_cases hz : w 1 (264 + (80 * a + 8 * b + c)) = 0
  · by_cases hf : cz (v 5) 24 = 24
    · refine Sim.err bad3 (fun post => ?_) (fun post => ?_)
      · have hadd : ∀ post, s_X3_add v (nI a) (nI b) (nI c) (nI r) post = post 0 v := fun post => k_add_f (cz_full (v 5) 24 hf)
        simp only [s_X1_putRate, hkg, f1, f2, hown, hz, hadd, e10, b_all, not_true_eq_false, not_false_eq_true, true_implies, false_implies, and_true, true_and]
      · have f5 : (w 1 5 = 24) = True := eq_true (by rw [S5, hf]; rfl)
        simp (disch := omega) only [s_X7_rates, hin, hgr, f3, hat, vp_in_nI, tn_nI, t_5, hz, f5, e10, b_all, not_true_eq_false, not_false_eq_true, true_implies, false_implies, and_true, true_and]
    · have hlt : cz (v 5) 24 < 24 := by
        have := cz_le (v 5) 24
        omega
      obtain ⟨i, hi, h0i, hfi⟩ := least (cz_free (v 5) 24 hlt)
      have hadd : ∀ post, s_X3_add v (nI a) (nI b) (nI c) (nI r) post = post 1 (st (st (st (st v 2 i (nI a)) 3 i (nI b)) 4 i (nI c)) 5 i (nI r)) := fun post => k_add_t hi h0i hfi
      have f5 : (w 1 5 = 24) = False := eq_false (by rw [S5]; show ¬ nI (cz (v 5) 24) = nI 24; rw [n_eq (by omega) (by omega)]; exact hf)
      apply Sim.mk
      · intro post
        simp only [s_X1_putRate, hkg, f1, f2, hown, hz, hadd, e10, b_all, not_true_eq_false, not_false_eq_true, true_implies, false_implies, and_true, true_and]
        exact rfl
      · intro post
        simp (disch := omega) only [s_X7_rates, hin, hgr, f3, hat, vp_in_nI, tn_nI, t_5, hz, f5, e10, b_all, not_true_eq_false, not_false_eq_true, true_implies, false_implies, and_true, true_and]
        exact rfl
      · simp only [st_sa, sa_sa, sa_1]
      · decide
      · refine ⟨nd, ns, nm, t, g, e, Rn_rt hRn (by simp (disch := omega) only [st1, st1n, u_s, u_n]) (fun p hp => by simp (disch := omega) only [st1, st1n, u_s, u_n]) (fun j j1 j2 => by simp (disch := omega) only [st1, st1n, u_s, u_n]) ?_ ?_ ?_⟩
        · simp only [st1]
          exact RP_s (RP_add hP ha hb10 hc hi h0i hz r1 r2) (fun j hj => by
            by_cases q : j = 80 * a + 8 * b + c
            · subst q
              simp (disch := omega) only [st1, st1n, u_s, u_n]
            · simp (disch := omega) only [st1, st1n, u_s, u_n])
        · simp only [st1]
          exact okT_u (okT_s hT (fun j hj => by simp (disch := omega) only [st1, st1n, u_s, u_n])) r2
        · simp (disch := omega) only [st1, st1n, u_s, u_n]
          have := cz_upd (v 5) (nI r) (i := i) 24 hi
          rw [if_pos h0i, if_neg (nI_ne0 (by omega) (by omega))] at this
          rw [S5, nI_1, show cz (upd (v 5) i (nI r)) 24 = cz (v 5) 24 + 1 by omega]
  · obtain ⟨i, hi, he⟩ := hP.has ha hb10 hc hz
    have hch : ∀ post, s_X3_change v (nI a) (nI b) (nI c) (nI r) post = post (st v 5 i (nI r)) := fun post => k_change hP hi he
    obtain ⟨e1, e2⟩ := hT.at hJ
    have hz' : (w 1 (264 + (80 * a + 8 * b + c)) = 0) = False := eq_false hz
    apply Sim.mk
    · intro post
      simp only [s_X1_putRate, hkg, f1, f2, hown, hz', hch, e10, b_all, not_true_eq_false, not_false_eq_true, true_implies, false_implies, and_true, true_and]
      exact rfl
    · intro post
      simp (disch := omega) only [s_X7_rates, hin, hgr, f3, hat, vp_in_nI, tn_nI, t_5, hz', Int32.add_zero, e10, b_all, not_true_eq_false, not_false_eq_true, true_implies, false_implies, and_true, true_and]
      exact rfl
    · simp only [st_sa, sa_sa, sa_1]
    · rw [e1]
      exact n_neg (by omega)
    · refine ⟨nd, ns, nm, t, g, e, Rn_rt hRn (by simp (disch := omega) only [st1, st1n, u_s, u_n]) (fun p hp => by simp (disch := omega) only [st1, st1n, u_s, u_n]) (fun j j1 j2 => by simp (disch := omega) only [st1, st1n, u_s, u_n]) ?_ ?_ ?_⟩
      · simp only [st1]
        exact RP_s (RP_new hP ha hb10 hc hi he r1 r2) (fun j hj => by
          by_cases q : j = 80 * a + 8 * b + c
          · subst q
            simp (disch := omega) only [st1, st1n, u_s, u_n]
          · simp (disch := omega) only [st1, st1n, u_s, u_n])
      · simp only [st1]
        exact okT_u (okT_s hT (fun j hj => by simp (disch := omega) only [st1, st1n, u_s, u_n])) r2
      · simp (disch := omega) only [st1, st1n, u_s, u_n]
        have := cz_upd (v 5) (nI r) (i := i) 24 hi
        rw [if_neg he.1, if_neg (nI_ne0 (by omega) (by omega))] at this
        rw [S5, show cz (upd (v 5) i (nI r)) 24 = cz (v 5) 24 by omega]
theorem pub_unrate {v w : V} (h : R v (w 1)) (x y z : Int32) : Pub (s_X1_takeRate v x y z) (DB_unrate w x y z) v w := by
  obtain ⟨nd, ns, nm, t, g, e, hRn⟩ := h
  have hRn' := hRn
  obtain ⟨hg, hb, ⟨hP, hT⟩, hk, h0, hm, hB⟩ := hRn'
  have hg' := hg
  obtain ⟨n1, n2, n3, n4, n5, n6, v04, S0, v60, S1, v160, S2, v05, S3, L4, S5, v06, S6, v07, S7⟩ := hg'
  rcases gradeOr x y z with ⟨a, b, c, ha, hb10, hc, rfl, rfl, rfl⟩ | hbad
  rotate_left
  · refine Pub.err bad1 (fun post => ?_) (fun post => ?_)
    · unfold s_X1_takeRate
      rw [k_grade_f hbad]
      exact b_t' rfl
    · exact q_grade_f' hbad
  have hin : ∀ post, s_X7_in (nI a) 0 4 post = post 1 := fun post => q_in_n (a := 0) (b := 4) (by omega) (by omega) (by omega)
  have hgr : ∀ post, s_X7_isGrade (nI b) (nI c) post = post 1 := fun post => q_isGrade_t hb10 hc
  have hkg : ∀ post, s_X6_isGrade (nI a) (nI b) (nI c) post = post 1 := fun post => k_grade_t ha hb10 hc
  have hown : ∀ post, s_X3_ownRate v (nI a) (nI b) (nI c) post = post (w 1 (264 + (80 * a + 8 * b + c))) v := fun post => k_own hP ha hb10 hc
  have hat : ∀ post, s_X7_rateAt (nI a) (nI b) (nI c) post = post (nI (264 + (80 * a + 8 * b + c))) := fun post => by
    rw [q_rateAt, show 264 + 80 * a + 8 * b + c = 264 + (80 * a + 8 * b + c) by omega]
  have hJ : 80 * a + 8 * b + c < 400 := by omega
  by_cases hz : w 1 (264 + (80 * a + 8 * b + c)) = 0
  · refine Pub.err bad2 (fun post => ?_) (fun post => ?_)
    · simp only [s_X1_takeRate, hkg, hown, hz, e10, b_all, not_true_eq_false, not_false_eq_true, true_implies, false_implies, and_true, true_and]
    · simp (disch := omega) only [DB_unrate, hin, hgr, hat, vp_in_nI, tn_nI, hz, e10, b_all, not_true_eq_false, not_false_eq_true, true_implies, false_implies, and_true, true_and]
  · obtain ⟨i, hi, he⟩ := hP.has ha hb10 hc hz
    have hch : ∀ post, s_X3_change v (nI a) (nI b) (nI c) 0 post = post (st v 5 i 0) := fun post => k_change hP hi he
    obtain ⟨e1, e2⟩ := hT.at hJ
    have hz' : (w 1 (264 + (80 * a + 8 * b + c)) = 0) = False := eq_false hz
    apply Pub.mk
    · intro post
      simp only [s_X1_takeRate, hkg, hown, hz', hch, e10, b_all, not_true_eq_false, not_false_eq_true, true_implies, false_implies, and_true, true_and]
      exact rfl
    · intro post
      simp (disch := omega) only [DB_unrate, hin, hgr, hat, vp_in_nI, tn_nI, t_5, hz', st1, u_n, e10, b_all, not_true_eq_false, not_false_eq_true, true_implies, false_implies, and_true, true_and]
      exact rfl
    · simp only [st_sa, sa_sa, sa_1]
    · rw [e1]
      exact n_neg (by omega)
    · refine ⟨nd, ns, nm, t, g, e, Rn_rt hRn (by simp (disch := omega) only [st1, st1n, u_s, u_n]) (fun p hp => by simp (disch := omega) only [st1, st1n, u_s, u_n]) (fun j j1 j2 => by simp (disch := omega) only [st1, st1n, u_s, u_n]) ?_ ?_ ?_⟩
      · simp only [st1]
        exact RP_s (RP_out hP ha hb10 hc hi he) (fun j hj => by
          by_cases q : j = 80 * a + 8 * b + c
          · subst q
            simp (disch := omega) only [st1, st1n, u_s, u_n]
          · simp (disch := omega) only [st1, st1n, u_s, u_n])
      · simp only [st1]
        exact okT_s (okT_u (j := 80 * a + 8 * b + c) (r := 0) hT (by omega)) (fun j hj => by
          by_cases q : j = 80 * a + 8 * b + c
          · subst q
            simp (disch := omega) only [st1, st1n, u_s, u_n]
            rfl
          · simp (disch := omega) only [st1, st1n, u_s, u_n])
      · simp (disch := omega) only [st1, st1n, u_s, u_n]
        have := cz_upd (v 5) 0 (i := i) 24 hi
        rw [if_neg he.1, if_pos rfl] at this
        rw [S5, show (nI (cz (v 5) 24) - 1 : Int32) = nI (cz (v 5) 24 - 1) from pk_sub (a := cz (v 5) 24) (b := 1) (by omega), show cz (upd (v 5) i 0) 24 = cz (v 5) 24 - 1 by omega]
theorem pub_set {v w : V} (h : R v (w 1)) (x y : Int32) : Pub (s_X1_putSetting v x y) (DB_set w x y) v w := by
  obtain ⟨nd, ns, nm, t, g, e, hRn⟩ := h
  have hRn' := hRn
  obtain ⟨hg, hb, ⟨hP, hT⟩, hk, h0, hm, hB⟩ := hRn'
  have hg' := hg
  obtain ⟨n1, n2, n3, n4, n5, n6, v04, S0, v60, S1, v160, S2, v05, S3, L4, S5, v06, S6, v07, S7⟩ := hg'
  rcases rng x (a := 0) (b := 1) (by omega) (by omega) with ⟨a, -, ha, rfl⟩ | hx
  rotate_left
  · refine Pub.err bad1 (fun post => ?_) (fun post => ?_)
    · unfold s_X1_putSetting
      by_cases hx1 : x < 0
      · exact b_t hx1
      · rw [b_f hx1]
        exact b_t (hx.resolve_left hx1)
    · unfold DB_set
      rw [q_in_f (show x < 0 ∨ 1 < x from hx)]
      exact b_t rfl
  have fa : (nI a < 0) = False := eq_false (n_neg (by omega))
  have fb : (1 < nI a) = False := eq_false (show ¬ nI 1 < nI a by rw [n_lt (by omega) (by omega)]; omega)
  have fi : ∀ post, s_X7_in (nI a) 0 1 post = post 1 := fun post => q_in_n (a := 0) (b := 1) (by omega) ha (by omega)
  have hr : ∀ M : Nat, M < 1000 → (∃ c, c ≤ M ∧ y = nI c) ∨ (y < 0 ∨ nI M < y) := fun M hM => by
    rcases rng y (a := 0) (b := M) (by omega) (by omega) with ⟨c, -, h2, h3⟩ | h
    · exact Or.inl ⟨c, h2, h3⟩
    · exact Or.inr h
  by_cases h0a : a = 0
  · subst h0a
    have z0 : (nI 0 = 0) = True := eq_true rfl
    have zt : tn (6 + nI 0) = 6 := by decide
    have zv : vp_in (6 + nI 0) 664 = True := eq_true (vp_in_nI (n := 6) (by omega) (by decide))
    rcases hr 30 (by omega) with ⟨c, hc, rfl⟩ | hy
    · have fc : (nI c < 0) = False := eq_false (n_neg (by omega))
      have fd : (nI c ≤ 30) = True := eq_true (lel (n := 30) hc (by omega))
      have fj : ∀ post, s_X7_in (nI c) 0 30 post = post 1 := fun post => q_in_n (a := 0) (b := 30) (by omega) hc (by omega)
      apply Pub.mk
      · intro post
        simp only [s_X1_putSetting, fa, fb, fc, fd, z0, v06, sc_st, e10, b_all, not_true_eq_false, not_false_eq_true, true_implies, false_implies, and_true, true_and]
        exact rfl
      · intro post
        simp only [DB_set, fi, z0, fj, zt, zv, S6, e10, b_all, not_true_eq_false, not_false_eq_true, true_implies, false_implies, and_true, true_and]
        exact rfl
      · simp only [st_sa, sa_sa, sa_1]
      · exact n_neg (by omega)
      · refine ⟨nd, ns, nm, t, c, e, ?_⟩
        refine ⟨?_, fun d hd => ?_, ⟨?_, ?_⟩, fun k hk' => ?_, fun k k1 k2 => ?_, fun m hm' => ?_, ?_⟩
        · unfold Rg
          simp (disch := omega) only [st1, st1n, u_s, u_n]
          exact ⟨n1, n2, n3, n4, hc, n6, v04, S0, v60, S1, v160, S2, v05, S3, L4, S5, trivial, trivial, v07, S7⟩
        · have := hb d hd
          simp (disch := omega) only [st1, st1n, u_s, u_n]
          exact this
        · exact RP_s (RP_c hP (fun i _ => by simp (disch := omega) only [st1, st1n, u_s, u_n]) (fun i _ => by simp (disch := omega) only [st1, st1n, u_s, u_n]) (fun i _ => by simp (disch := omega) only [st1, st1n, u_s, u_n]) (fun i _ => by simp (disch := omega) only [st1, st1n, u_s, u_n])) (fun j hj => by simp (disch := omega) only [st1, st1n, u_s, u_n])
        · exact okT_s hT (fun j hj => by simp (disch := omega) only [st1, st1n, u_s, u_n])
        · exact Rk_c (hk k hk') ⟨by simp (disch := omega) only [st1, st1n, u_s, u_n], by simp (disch := omega) only [st1, st1n, u_s, u_n], by simp (disch := omega) only [st1, st1n, u_s, u_n], by simp (disch := omega) only [st1, st1n, u_s, u_n], by simp (disch := omega) only [st1, st1n, u_s, u_n], by simp (disch := omega) only [st1, st1n, u_s, u_n], by simp (disch := omega) only [st1, st1n, u_s, u_n], by simp (disch := omega) only [st1, st1n, u_s, u_n], by simp (disch := omega) only [st1, st1n, u_s, u_n]⟩ (fun f hf => by simp (disch := omega) only [st1, st1n, u_s, u_n]) (fun m hm => ⟨by simp (disch := omega) only [st1, st1n, u_s, u_n], by simp (disch := omega) only [st1, st1n, u_s, u_n]⟩) (Nat.le_refl _) (Nat.le_refl _)
        · have := h0 k k1 k2
          unfold R0 at this ⊢
          simp (disch := omega) only [st1, st1n, u_s, u_n]
          exact this
        · have := hm m hm'
          unfold Rm at this ⊢
          simp (disch := omega) only [st1, st1n, u_s, u_n]
          exact this
        · exact BD_s hB (fun j h1 h2 h3 => by simp (disch := omega) only [st1, st1n, u_s, u_n])
    · refine Pub.err bad1 (fun post => ?_) (fun post => ?_)
      · by_cases hy1 : y < 0
        · simp only [s_X1_putSetting, fa, fb, eq_true hy1, e10, b_all, not_true_eq_false, not_false_eq_true, true_implies, false_implies, and_true, true_and]
        · have fd : (y ≤ 30) = False := eq_false (nle (hy.resolve_left hy1))
          simp only [s_X1_putSetting, fa, fb, eq_false hy1, fd, z0, e10, b_all, not_true_eq_false, not_false_eq_true, true_implies, false_implies, and_true, true_and]
      · have fj : ∀ post, s_X7_in y 0 30 post = post 0 := fun post => q_in_f (show y < 0 ∨ 30 < y from hy)
        simp only [DB_set, fi, z0, fj, e10, b_all, not_true_eq_false, not_false_eq_true, true_implies, false_implies, and_true, true_and]
  · obtain rfl : a = 1 := by omega
    have z0 : (nI 1 = 0) = False := eq_false (by decide)
    have zt : tn (6 + nI 1) = 7 := by decide
    have zv : vp_in (6 + nI 1) 664 = True := eq_true (vp_in_nI (n := 7) (by omega) (by decide))
    rcases hr 100 (by omega) with ⟨c, hc, rfl⟩ | hy
    · have fc : (nI c < 0) = False := eq_false (n_neg (by omega))
      have fd : (nI c ≤ 100) = True := eq_true (lel (n := 100) hc (by omega))
      have fj : ∀ post, s_X7_in (nI c) 0 100 post = post 1 := fun post => q_in_n (a := 0) (b := 100) (by omega) hc (by omega)
      apply Pub.mk
      · intro post
        simp only [s_X1_putSetting, fa, fb, fc, fd, z0, v07, sc_st, e10, b_all, not_true_eq_false, not_false_eq_true, true_implies, false_implies, and_true, true_and]
        exact rfl
      · intro post
        simp only [DB_set, fi, z0, fj, zt, zv, S7, e10, b_all, not_true_eq_false, not_false_eq_true, true_implies, false_implies, and_true, true_and]
        exact rfl
      · simp only [st_sa, sa_sa, sa_1]
      · exact n_neg (by omega)
      · refine ⟨nd, ns, nm, t, g, c, ?_⟩
        refine ⟨?_, fun d hd => ?_, ⟨?_, ?_⟩, fun k hk' => ?_, fun k k1 k2 => ?_, fun m hm' => ?_, ?_⟩
        · unfold Rg
          simp (disch := omega) only [st1, st1n, u_s, u_n]
          exact ⟨n1, n2, n3, n4, n5, hc, v04, S0, v60, S1, v160, S2, v05, S3, L4, S5, v06, S6, trivial, trivial⟩
        · have := hb d hd
          simp (disch := omega) only [st1, st1n, u_s, u_n]
          exact this
        · exact RP_s (RP_c hP (fun i _ => by simp (disch := omega) only [st1, st1n, u_s, u_n]) (fun i _ => by simp (disch := omega) only [st1, st1n, u_s, u_n]) (fun i _ => by simp (disch := omega) only [st1, st1n, u_s, u_n]) (fun i _ => by simp (disch := omega) only [st1, st1n, u_s, u_n])) (fun j hj => by simp (disch := omega) only [st1, st1n, u_s, u_n])
        · exact okT_s hT (fun j hj => by simp (disch := omega) only [st1, st1n, u_s, u_n])
        · exact Rk_c (hk k hk') ⟨by simp (disch := omega) only [st1, st1n, u_s, u_n], by simp (disch := omega) only [st1, st1n, u_s, u_n], by simp (disch := omega) only [st1, st1n, u_s, u_n], by simp (disch := omega) only [st1, st1n, u_s, u_n], by simp (disch := omega) only [st1, st1n, u_s, u_n], by simp (disch := omega) only [st1, st1n, u_s, u_n], by simp (disch := omega) only [st1, st1n, u_s, u_n], by simp (disch := omega) only [st1, st1n, u_s, u_n], by simp (disch := omega) only [st1, st1n, u_s, u_n]⟩ (fun f hf => by simp (disch := omega) only [st1, st1n, u_s, u_n]) (fun m hm => ⟨by simp (disch := omega) only [st1, st1n, u_s, u_n], by simp (disch := omega) only [st1, st1n, u_s, u_n]⟩) (Nat.le_refl _) (Nat.le_refl _)
        · have := h0 k k1 k2
          unfold R0 at this ⊢
          simp (disch := omega) only [st1, st1n, u_s, u_n]
          exact this
        · have := hm m hm'
          unfold Rm at this ⊢
          simp (disch := omega) only [st1, st1n, u_s, u_n]
          exact this
        · exact BD_s hB (fun j h1 h2 h3 => by simp (disch := omega) only [st1, st1n, u_s, u_n])
    · refine Pub.err bad1 (fun post => ?_) (fun post => ?_)
      · by_cases hy1 : y < 0
        · simp only [s_X1_putSetting, fa, fb, eq_true hy1, e10, b_all, not_true_eq_false, not_false_eq_true, true_implies, false_implies, and_true, true_and]
        · have fd : (y ≤ 100) = False := eq_false (nle (hy.resolve_left hy1))
          simp only [s_X1_putSetting, fa, fb, eq_false hy1, fd, z0, e10, b_all, not_true_eq_false, not_false_eq_true, true_implies, false_implies, and_true, true_and]
      · have fj : ∀ post, s_X7_in y 0 100 post = post 0 := fun post => q_in_f (show y < 0 ∨ 100 < y from hy)
        simp only [DB_set, fi, z0, fj, e10, b_all, not_true_eq_false, not_false_eq_true, true_implies, false_implies, and_true, true_and]
