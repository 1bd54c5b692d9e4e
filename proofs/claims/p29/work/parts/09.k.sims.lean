/-! PURE 11: sell, keep, back, grade -/
theorem sim_sell {v w : V} (h : R v (w 1)) (x y : Int32) : Sim (s_X1_sellStone v x y) (s_X7_sells w x y) v w := by
  obtain ⟨nd, ns, nm, t, g, e, hRn⟩ := h
  have hBm := bnd_max hRn
  have hRn' := hRn
  obtain ⟨hg, hb, ⟨hP, hT⟩, hk, h0, hm, hB⟩ := hRn'
  have hg' := hg
  obtain ⟨n1, n2, n3, n4, n5, n6, v04, S0, v60, S1, v160, S2, v05, S3, L4, S5, v06, S6, v07, S7⟩ := hg'
  rcases ixn x (n := ns) (by omega) with ⟨k, hkn, rfl⟩ | hx
  rotate_left
  · refine Sim.err bad1 (fun post => ?_) (fun post => ?_)
    · unfold s_X1_sellStone
      rw [k_has_f v60 hx]
      exact b_t rfl
    · unfold s_X7_sells
      rw [q_isStone_f S1 (by omega) hx]
      exact b_t rfl
  have k20 : k < 20 := by omega
  have hst : ∀ post, s_X7_isStone w (nI k) post = post 1 w := fun post => q_isStone_t S1 (show ns < 1000000 by omega) hkn
  obtain ⟨⟨e0, e1, e2, e3, e4, e5, e6, e7, e8⟩, hO, hc⟩ := hk k hkn
  rcases rng y (a := 1) (b := 9999) (by omega) (by omega) with ⟨c, c1, c2, rfl⟩ | hy
  rotate_left
  · refine Sim.err bad1 (fun post => ?_) (fun post => ?_)
    · unfold s_X1_sellStone
      rw [k_has_t v60 n2 hkn, b_f z10]
      by_cases hy1 : y < 1
      · exact b_t hy1
      · rw [b_f hy1]
        exact b_f (nle (hy.resolve_left hy1))
    · unfold s_X7_sells
      rw [hst, b_f z10, q_in_f (show y < 1 ∨ 9999 < y from hy)]
      exact b_t' rfl
  have f1 : (nI c < 1) = False := eq_false (ltl (n := 1) c1 (by omega))
  have f2 : (nI c ≤ 9999) = True := eq_true (lel (n := 9999) c2 (by omega))
  have f3 : ∀ post, s_X7_in (nI c) 1 9999 post = post 1 := fun post => q_in_n (a := 1) (b := 9999) c1 c2 (by omega)
  rcases hc with ⟨o, cc, q1, q2, q3, q4, q5, q6, q7⟩ | ⟨q, cc, q1, q2, q3, q4, q5, q6, q7, q8⟩ | ⟨o, hh, m, a, cc, g1, g2, g3, g4, g5, g6, g7, g8, g9, g10, g11, g12, g13, g14⟩
  · have hbo := (hb o (by omega)).1
    apply Sim.mk
    · intro post
      simp (disch := omega) only [s_X1_sellStone, k_has_t v60 n2 hkn, f1, f2, vp_in_nI, k_isOut_f k20 (e5.trans q5), k_isSold_f k20 (e7.trans q6), tn_nI, e3, q3, k_deal_t v04 n1 q1, hbo, st1, st1n, u_s, u_n, e10, b_all, not_true_eq_false, not_false_eq_true, true_implies, false_implies, and_true, true_and]
      exact rfl
    · intro post
      simp (disch := omega) only [s_X7_sells, hst, f3, vp_in_nI, q_isOut_f k20 q5, q_isSold_f k20 (show o < 1000000 by omega) q3, tn_nI, q_of3 k20, q3, q_set3 k20, q_set4 k20, q_set7 k20, l8, st1, st1n, u_s, u_n, e10, b_all, not_true_eq_false, not_false_eq_true, true_implies, false_implies, and_true, true_and]
      rw [Int32.add_comm 100000000]
      try exact rfl
    · simp only [st_sa, sa_sa, sa_1]
    · have := (mv (c := c) (by omega) (by omega) (hB.1 o (by omega))).1
      exact base_pos (by omega)
    · refine ⟨nd, ns, nm, t, g, e, ?_⟩
      refine Rn_st hRn hkn ?a01 ?a61 ?a161 ?a21 ?a31 ?a41 ?a51 (fun j hj => ?s11) (fun j hj => ?s21) (fun j hj => ?rm1) ⟨?eq1, ?okk1, ?stt1⟩ (fun j j1 j2 => ⟨?ev1, fun f hf => ?es1⟩) (fun j hj => ?ef1) (fun d hd => ?rb1) ?bd1
      case a01 => simp (disch := omega) only [st1n]
      case a61 => simp (disch := omega) only [st1n]
      case a161 => simp (disch := omega) only [st1n]
      case a21 => simp (disch := omega) only [st1n]
      case a31 => simp (disch := omega) only [st1n]
      case a41 => simp (disch := omega) only [st1n]
      case a51 => simp (disch := omega) only [st1n]
      case s11 => simp (disch := omega) only [st1, st1n, u_s, u_n]
      case s21 => simp (disch := omega) only [st1, st1n, u_s, u_n]
      case ev1 => exact ⟨by simp (disch := omega) only [st1, st1n, u_s, u_n], by simp (disch := omega) only [st1, st1n, u_s, u_n], by simp (disch := omega) only [st1, st1n, u_s, u_n], by simp (disch := omega) only [st1, st1n, u_s, u_n], by simp (disch := omega) only [st1, st1n, u_s, u_n], by simp (disch := omega) only [st1, st1n, u_s, u_n], by simp (disch := omega) only [st1, st1n, u_s, u_n], by simp (disch := omega) only [st1, st1n, u_s, u_n], by simp (disch := omega) only [st1, st1n, u_s, u_n]⟩
      case es1 => simp (disch := omega) only [st1, st1n, u_s, u_n]
      case ef1 => exact ⟨by simp (disch := omega) only [st1, st1n, u_s, u_n], by simp (disch := omega) only [st1, st1n, u_s, u_n]⟩
      case rm1 =>
        have := hm j hj
        unfold Rm at this ⊢
        simp (disch := omega) only [st1, st1n, u_s, u_n]
        exact this
      case eq1 =>
        unfold eqK
        exact ⟨(by simp (disch := omega) only [st1, st1n, u_s, u_n]; exact e0), (by simp (disch := omega) only [st1, st1n, u_s, u_n]; exact e1), (by simp (disch := omega) only [st1, st1n, u_s, u_n]; exact e2), (by simp (disch := omega) only [st1, st1n, u_s, u_n]), (by simp (disch := omega) only [st1, st1n, u_s, u_n]), (by simp (disch := omega) only [st1, st1n, u_s, u_n]; exact e5), (by simp (disch := omega) only [st1, st1n, u_s, u_n]; exact e6), (by simp (disch := omega) only [st1, st1n, u_s, u_n]), (by simp (disch := omega) only [st1, st1n, u_s, u_n]; exact e8)⟩
      case okk1 =>
        unfold okK at hO ⊢
        simp (disch := omega) only [st1, st1n, u_s, u_n]
        exact hO
      case stt1 =>
        exact Or.inr (Or.inl ⟨c, cc, c1, c2, q2, (by simp (disch := omega) only [st1, st1n, u_s, u_n]), (by simp (disch := omega) only [st1, st1n, u_s, u_n]), (by simp (disch := omega) only [st1, st1n, u_s, u_n]; exact q5), (by simp (disch := omega) only [st1, st1n, u_s, u_n]), (by simp (disch := omega) only [st1, st1n, u_s, u_n]; exact q7)⟩)
      case rb1 =>
        by_cases hdo : d = o
        · subst hdo
          have := hb d hd
          refine ⟨?_, fun z => by omega⟩
          simp (disch := omega) only [st1, st1n, u_s, u_n]
        · have := hb d hd
          simp (disch := omega) only [st1, st1n, u_s, u_n]
          exact this
      case bd1 =>
        refine BD_mv (k := k) (a := c) hB (by omega) k20 (by omega) ?_ (fun j j1 j2 => ?_) (fun d hd => ?_) ?_ (J2_s hB.2.2.1 (by simp (disch := omega) only [st1, st1n, u_s, u_n]) (fun j hj => by simp (disch := omega) only [st1, st1n, u_s, u_n])) (J3_s hB.2.2.2 (by simp (disch := omega) only [st1, st1n, u_s, u_n]) (by simp (disch := omega) only [st1, st1n, u_s, u_n]) (fun m hm => ⟨by simp (disch := omega) only [st1, st1n, u_s, u_n], by simp (disch := omega) only [st1, st1n, u_s, u_n], by simp (disch := omega) only [st1, st1n, u_s, u_n]⟩))
        · unfold bnd
          simp (disch := omega) only [st1, st1n, u_s, u_n]
          rw [q6, tn_nI (by omega)]
          have : tn 0 = 0 := by decide
          omega
        · unfold bnd
          simp (disch := omega) only [st1, st1n, u_s, u_n]
        · by_cases hdo : d = o
          · subst hdo
            refine Or.inr ⟨c, Nat.le_refl _, Or.inl ?_⟩
            simp (disch := omega) only [st1, st1n, u_s, u_n]
          · refine Or.inl ?_
            simp (disch := omega) only [st1, st1n, u_s, u_n]
        · have e3 : J1 (w 1) := hB.2.1
          unfold J1 at e3 ⊢
          refine Eq.trans (sI_one (k := o) (f := fun d => w 1 (8 + d)) (x := nI c) ?_ 6 (by omega) (fun i _ hi => ?_)) (Eq.trans (congrArg (· + nI c) e3) (Eq.symm (sI_one (k := k) (f := fun j => w 1 (14 + 10 * j + 7)) (x := nI c) ?_ 20 k20 (fun i _ hi => ?_))))
          · simp (disch := omega) only [st1, st1n, u_s, u_n]
          · simp (disch := omega) only [st1, st1n, u_s, u_n]
          · simp (disch := omega) only [st1, st1n, u_s, u_n]
            rw [q6]
            exact (Int32.zero_add _).symm
          · simp (disch := omega) only [st1, st1n, u_s, u_n]
  · refine Sim.err bad2 (fun post => ?_) (fun post => ?_)
    · simp (disch := omega) only [s_X1_sellStone, k_has_t v60 n2 hkn, f1, f2, vp_in_nI, k_isOut_f k20 (e5.trans q6), k_isSold_t k20 (nz_of (e7.trans q7) (by omega) (by omega)), e10, b_all, not_true_eq_false, not_false_eq_true, true_implies, false_implies, and_true, true_and]
    · simp (disch := omega) only [s_X7_sells, hst, f3, q_isOut_f k20 q6, q_isSold_t k20 q4, e10, b_all, not_true_eq_false, not_false_eq_true, true_implies, false_implies, and_true, true_and]
  · refine Sim.err bad2 (fun post => ?_) (fun post => ?_)
    · simp (disch := omega) only [s_X1_sellStone, k_has_t v60 n2 hkn, f1, f2, vp_in_nI, k_isOut_t k20 (show m < 1000000 by omega) (e5.trans g9), e10, b_all, not_true_eq_false, not_false_eq_true, true_implies, false_implies, and_true, true_and]
    · simp (disch := omega) only [s_X7_sells, hst, f3, q_isOut_t k20 (show m < 1000000 by omega) g9, e10, b_all, not_true_eq_false, not_false_eq_true, true_implies, false_implies, and_true, true_and]
theorem sim_pay {v w : V} {nd ns nm t g e l k c : Nat} (hRn : Rn v (w 1) nd ns nm t g e l) (hkn : k < ns) (hc : c ≤ 200000) (hOut : stO (w 1) nd nm k) : ∃ v' S', (∀ post, s_X1_keepFor v (nI k) (nI c) post = post v') ∧ (∀ post, s_X7_pays w (nI k) (nI c) post = post (sa w 1 S')) ∧ (Rn v' S' nd ns nm t g e l ∧ v' 0 8 = v 0 8 ∧ J2 S' 1) := by
  have hBm := bnd_max hRn
  have hRn' := hRn
  obtain ⟨hg, hb, ⟨hP, hT⟩, hk, h0, hm, hB⟩ := hRn'
  have hg' := hg
  obtain ⟨n1, n2, n3, n4, n5, n6, v04, S0, v60, S1, v160, S2, v05, S3, L4, S5, v06, S6, v07, S7⟩ := hg'
  have k20 : k < 20 := by omega
  obtain ⟨⟨e0, e1, e2, e3, e4, e5, e6, e7, e8⟩, hO, -⟩ := hk k hkn
  obtain ⟨o, hh, m, a, cc, g1, g2, g3, g4, g5, g6, g7, g8, g9, g10, g11, g12, g13, g14⟩ := hOut
  have L : (214 + (5 * nI m)) + 4 = nI (214 + 5 * m + 4) := l214 m 4
  apply Pay.mk
  · intro post
    simp (disch := omega) only [s_X1_keepFor, vp_in_nI, tn_nI, e3, e4, e5, g7, g8, g9, k_deal_t v04 n1 g1, k_deal_t v04 n1 g2, k_memo_t v160 n3 g4, st1, st1n, u_s, u_n, e10, b_all, not_true_eq_false, not_false_eq_true, true_implies, false_implies, and_true, true_and]
    exact rfl
  · intro post
    simp (disch := omega) only [s_X7_pays, vp_in_nI, tn_nI, q_of3 k20, q_of4 k20, q_of5 k20, q_of8 k20, q_set3 k20, q_set5 k20, q_set8 k20, l8, L, g7, g8, g9, st1, st1n, u_s, u_n, e10, b_all, not_true_eq_false, not_false_eq_true, true_implies, false_implies, and_true, true_and]
    exact rfl
  · simp only [st_sa, sa_sa, sa_1]
  · have hJ2 : ∀ S' : Nat → Int32, S' 4 = w 1 4 → (∀ j, j < 20 → j ≠ k → S' (14 + 10 * j + 8) = w 1 (14 + 10 * j + 8)) → S' (14 + 10 * k + 8) = nI (cc + 1) → J2 S' 1 := by
      intro S' z1 z2 z3
      obtain ⟨qq, y1, y2⟩ := hB.2.2.1
      refine ⟨qq, z1.trans y1, ?_⟩
      have := sm_one (f := kpS (w 1)) (g := kpS S') (k := k) 20 k20 (fun i hi hik => by unfold kpS; rw [z2 i hi hik])
      have c1 : kpS (w 1) k = cc := by unfold kpS; rw [g12, tn_nI (by omega)]
      have c2 : kpS S' k = cc + 1 := by unfold kpS; rw [z3, tn_nI (by omega)]
      omega
    refine ⟨?_, by simp (disch := omega) only [st1n], ?_⟩
    rotate_left
    · refine hJ2 _ (by simp (disch := omega) only [st1, st1n, u_s, u_n]) (fun j hj hjk => by simp (disch := omega) only [st1, st1n, u_s, u_n]) ?_
      simp (disch := omega) only [st1, st1n, u_s, u_n]
      rw [g12]
      exact nI_1 cc
    refine Rn_st hRn hkn ?a02 ?a62 ?a162 ?a22 ?a32 ?a42 ?a52 (fun j hj => ?s12) (fun j hj => ?s22) (fun j hj => ?rm2) ⟨?eq2, ?okk2, ?stt2⟩ (fun j j1 j2 => ⟨?ev2, fun f hf => ?es2⟩) (fun j hj => ?ef2) (fun d hd => ?rb2) ?bd2
    case a02 => simp (disch := omega) only [st1n]
    case a62 => simp (disch := omega) only [st1n]
    case a162 => simp (disch := omega) only [st1n]
    case a22 => simp (disch := omega) only [st1n]
    case a32 => simp (disch := omega) only [st1n]
    case a42 => simp (disch := omega) only [st1n]
    case a52 => simp (disch := omega) only [st1n]
    case s12 => simp (disch := omega) only [st1, st1n, u_s, u_n]
    case s22 => simp (disch := omega) only [st1, st1n, u_s, u_n]
    case ev2 => exact ⟨by simp (disch := omega) only [st1, st1n, u_s, u_n], by simp (disch := omega) only [st1, st1n, u_s, u_n], by simp (disch := omega) only [st1, st1n, u_s, u_n], by simp (disch := omega) only [st1, st1n, u_s, u_n], by simp (disch := omega) only [st1, st1n, u_s, u_n], by simp (disch := omega) only [st1, st1n, u_s, u_n], by simp (disch := omega) only [st1, st1n, u_s, u_n], by simp (disch := omega) only [st1, st1n, u_s, u_n], by simp (disch := omega) only [st1, st1n, u_s, u_n]⟩
    case es2 => simp (disch := omega) only [st1, st1n, u_s, u_n]
    case ef2 => exact ⟨by simp (disch := omega) only [st1, st1n, u_s, u_n], by simp (disch := omega) only [st1, st1n, u_s, u_n]⟩
    case rm2 =>
      have := hm j hj
      unfold Rm at this ⊢
      obtain ⟨r0, r1, r2, r3, r4⟩ := this
      by_cases hj2 : j = m
      · subst hj2
        exact ⟨(by simp (disch := omega) only [st1, st1n, u_s, u_n]; exact r0), (by simp (disch := omega) only [st1, st1n, u_s, u_n]; exact r1), (by simp (disch := omega) only [st1, st1n, u_s, u_n]; exact r2), (by simp (disch := omega) only [st1, st1n, u_s, u_n]; exact r3), (by simp (disch := omega) only [st1, st1n, u_s, u_n]; rw [r4])⟩
      · exact ⟨(by simp (disch := omega) only [st1, st1n, u_s, u_n]; exact r0), (by simp (disch := omega) only [st1, st1n, u_s, u_n]; exact r1), (by simp (disch := omega) only [st1, st1n, u_s, u_n]; exact r2), (by simp (disch := omega) only [st1, st1n, u_s, u_n]; exact r3), (by simp (disch := omega) only [st1, st1n, u_s, u_n]; exact r4)⟩
    case eq2 =>
      unfold eqK
      exact ⟨(by simp (disch := omega) only [st1, st1n, u_s, u_n]; exact e0), (by simp (disch := omega) only [st1, st1n, u_s, u_n]; exact e1), (by simp (disch := omega) only [st1, st1n, u_s, u_n]; exact e2), (by simp (disch := omega) only [st1, st1n, u_s, u_n]), (by simp (disch := omega) only [st1, st1n, u_s, u_n]; exact e4), (by simp (disch := omega) only [st1, st1n, u_s, u_n]), (by simp (disch := omega) only [st1, st1n, u_s, u_n]; exact e6), (by simp (disch := omega) only [st1, st1n, u_s, u_n]; exact e7), (by simp (disch := omega) only [st1, st1n, u_s, u_n]; rw [e8])⟩
    case okk2 =>
      unfold okK at hO ⊢
      simp (disch := omega) only [st1, st1n, u_s, u_n]
      exact hO
    case stt2 =>
      exact Or.inl ⟨hh, cc + 1, g2, g6, (by simp (disch := omega) only [st1, st1n, u_s, u_n]), (by simp (disch := omega) only [st1, st1n, u_s, u_n]; exact g8), (by simp (disch := omega) only [st1, st1n, u_s, u_n]), (by simp (disch := omega) only [st1, st1n, u_s, u_n]; exact g11), (by simp (disch := omega) only [st1, st1n, u_s, u_n]; rw [g12]; exact nI_1 cc)⟩
    case rb2 =>
      have q := hb d hd
      have qh := (hb hh (by omega)).1
      have qo := (hb o (by omega)).1
      by_cases hdo : d = o
      · subst hdo
        refine ⟨?_, fun z => by omega⟩
        simp (disch := omega) only [st1, st1n, u_s, u_n]
        rw [qo]
      · by_cases hdh : d = hh
        · subst hdh
          refine ⟨?_, fun z => by omega⟩
          simp (disch := omega) only [st1, st1n, u_s, u_n]
          rw [qh]
        · simp (disch := omega) only [st1, st1n, u_s, u_n]
          exact q
    case bd2 =>
      refine BD_mv (k := k) (a := 200000) hB (by omega) k20 (by omega) ?_ (fun j j1 j2 => ?_) (fun d hd => ?_) ?_ ?_ (J3_s hB.2.2.2 (by simp (disch := omega) only [st1, st1n, u_s, u_n]) (by simp (disch := omega) only [st1, st1n, u_s, u_n]) (fun m' hm' => ⟨by simp (disch := omega) only [st1, st1n, u_s, u_n], by simp (disch := omega) only [st1, st1n, u_s, u_n], by simp (disch := omega) only [st1, st1n, u_s, u_n]⟩))
      · unfold bnd
        simp (disch := omega) only [st1, st1n, u_s, u_n]
        rw [g12, nI_1, tn_nI (by omega), tn_nI (by omega)]
        omega
      · unfold bnd
        simp (disch := omega) only [st1, st1n, u_s, u_n]
      · by_cases hdo : d = o
        · subst hdo
          refine Or.inr ⟨c, hc, Or.inl ?_⟩
          simp (disch := omega) only [st1, st1n, u_s, u_n]
        · by_cases hdh : d = hh
          · subst hdh
            refine Or.inr ⟨c, hc, Or.inr ?_⟩
            simp (disch := omega) only [st1, st1n, u_s, u_n]
          · refine Or.inl ?_
            simp (disch := omega) only [st1, st1n, u_s, u_n]
      · have z3 : J1 (w 1) := hB.2.1
        unfold J1 at z3 ⊢
        have e1 : sI (upd (fun d => w 1 (8 + d)) hh (w 1 (8 + hh) - nI c)) 6 = sI (fun d => w 1 (8 + d)) 6 + - nI c := sI_one (k := hh) (by rw [u_s, Int32.sub_eq_add_neg]) 6 (by omega) (fun i _ hi => (show upd (fun d => w 1 (8 + d)) hh (w 1 (8 + hh) - nI c) i = w 1 (8 + i) from u_n hi).symm)
        refine Eq.trans (sI_one (k := o) (f := upd (fun d => w 1 (8 + d)) hh (w 1 (8 + hh) - nI c)) (x := nI c) ?_ 6 (by omega) (fun i _ hi => ?_)) (Eq.trans ?_ (z3.trans (sI_cong 20 (fun j hj => ?_))))
        · simp (disch := omega) only [st1, st1n, u_s, u_n]
        · by_cases q2 : i = hh
          · subst q2
            simp (disch := omega) only [st1, st1n, u_s, u_n]
          · simp (disch := omega) only [st1, st1n, u_s, u_n]
        · rw [e1, Int32.add_assoc, Int32.add_left_neg, Int32.add_zero]
        · simp (disch := omega) only [st1, st1n, u_s, u_n]
      · refine J2_le (hJ2 _ (by simp (disch := omega) only [st1, st1n, u_s, u_n]) (fun j hj hjk => by simp (disch := omega) only [st1, st1n, u_s, u_n]) ?_)
        simp (disch := omega) only [st1, st1n, u_s, u_n]
        rw [g12]
        exact nI_1 cc
theorem sim_keep {v w : V} (h : R v (w 1)) (x : Int32) : Sim (s_X1_keepStone v x) (s_X7_keeps w x) v w := by
  obtain ⟨nd, ns, nm, t, g, e, hRn⟩ := h
  have hBm := bnd_max hRn
  have hRn' := hRn
  obtain ⟨hg, hb, ⟨hP, hT⟩, hk, h0, hm, hB⟩ := hRn'
  have hg' := hg
  obtain ⟨n1, n2, n3, n4, n5, n6, v04, S0, v60, S1, v160, S2, v05, S3, L4, S5, v06, S6, v07, S7⟩ := hg'
  rcases ixn x (n := ns) (by omega) with ⟨k, hkn, rfl⟩ | hx
  rotate_left
  · refine Sim.err bad1 (fun post => ?_) (fun post => ?_)
    · unfold s_X1_keepStone
      rw [k_has_f v60 hx]
      exact b_t' rfl
    · unfold s_X7_keeps
      rw [q_isStone_f S1 (by omega) hx]
      exact b_t' rfl
  have k20 : k < 20 := by omega
  have hst : ∀ post, s_X7_isStone w (nI k) post = post 1 w := fun post => q_isStone_t S1 (show ns < 1000000 by omega) hkn
  obtain ⟨⟨e0, e1, e2, e3, e4, e5, e6, e7, e8⟩, hO, hc⟩ := hk k hkn
  have hc' := hc
  rcases hc with ⟨o, cc, q1, q2, q3, q4, q5, q6, q7⟩ | ⟨q, cc, q1, q2, q3, q4, q5, q6, q7, q8⟩ | ⟨o, hh, m, a, cc, g1, g2, g3, g4, g5, g6, g7, g8, g9, g10, g11, g12, g13, g14⟩
  · refine Sim.err bad2 (fun post => ?_) (fun post => ?_)
    · simp (disch := omega) only [s_X1_keepStone, k_has_t v60 n2 hkn, k_isOut_f k20 (e5.trans q5), e10, b_all, not_true_eq_false, not_false_eq_true, true_implies, false_implies, and_true, true_and]
    · simp (disch := omega) only [s_X7_keeps, hst, q_isOut_f k20 q5, e10, b_all, not_true_eq_false, not_false_eq_true, true_implies, false_implies, and_true, true_and]
  · refine Sim.err bad2 (fun post => ?_) (fun post => ?_)
    · simp (disch := omega) only [s_X1_keepStone, k_has_t v60 n2 hkn, k_isOut_f k20 (e5.trans q6), e10, b_all, not_true_eq_false, not_false_eq_true, true_implies, false_implies, and_true, true_and]
    · simp (disch := omega) only [s_X7_keeps, hst, q_isOut_f k20 q6, e10, b_all, not_true_eq_false, not_false_eq_true, true_implies, false_implies, and_true, true_and]
  · have hOut : stO (w 1) nd nm k := ⟨o, hh, m, a, cc, g1, g2, g3, g4, g5, g6, g7, g8, g9, g10, g11, g12, g13, g14⟩
    obtain ⟨v', S', p1, p2, p3, -⟩ := sim_pay (c := a) hRn hkn (by omega) hOut
    refine ⟨nI a, v', S', fun post => ?_, fun post => ?_, Or.inl ⟨n_neg (by omega), nd, ns, nm, t, g, e, p3⟩⟩
    · simp (disch := omega) only [s_X1_keepStone, k_has_t v60 n2 hkn, k_isOut_t k20 (show m < 1000000 by omega) (e5.trans g9), vp_in_nI, tn_nI, e6, g10, p1, e10, b_all, not_true_eq_false, not_false_eq_true, true_implies, false_implies, and_true, true_and]
    · simp (disch := omega) only [s_X7_keeps, hst, q_isOut_t k20 (show m < 1000000 by omega) g9, q_of6 k20, g10, p2, e10, b_all, not_true_eq_false, not_false_eq_true, true_implies, false_implies, and_true, true_and]
theorem sim_back {v w : V} (h : R v (w 1)) (x : Int32) : Sim (s_X1_giveBack v x) (s_X7_gives w x) v w := by
  obtain ⟨nd, ns, nm, t, g, e, hRn⟩ := h
  have hBm := bnd_max hRn
  have hRn' := hRn
  obtain ⟨hg, hb, ⟨hP, hT⟩, hk, h0, hm, hB⟩ := hRn'
  have hg' := hg
  obtain ⟨n1, n2, n3, n4, n5, n6, v04, S0, v60, S1, v160, S2, v05, S3, L4, S5, v06, S6, v07, S7⟩ := hg'
  rcases ixn x (n := ns) (by omega) with ⟨k, hkn, rfl⟩ | hx
  rotate_left
  · refine Sim.err bad1 (fun post => ?_) (fun post => ?_)
    · unfold s_X1_giveBack
      rw [k_has_f v60 hx]
      exact b_t' rfl
    · unfold s_X7_gives
      rw [q_isStone_f S1 (by omega) hx]
      exact b_t' rfl
  have k20 : k < 20 := by omega
  have hst : ∀ post, s_X7_isStone w (nI k) post = post 1 w := fun post => q_isStone_t S1 (show ns < 1000000 by omega) hkn
  obtain ⟨⟨e0, e1, e2, e3, e4, e5, e6, e7, e8⟩, hO, hc⟩ := hk k hkn
  rcases hc with ⟨o, cc, q1, q2, q3, q4, q5, q6, q7⟩ | ⟨q, cc, q1, q2, q3, q4, q5, q6, q7, q8⟩ | ⟨o, hh, m, a, cc, g1, g2, g3, g4, g5, g6, g7, g8, g9, g10, g11, g12, g13, g14⟩
  · refine Sim.err bad2 (fun post => ?_) (fun post => ?_)
    · simp (disch := omega) only [s_X1_giveBack, k_has_t v60 n2 hkn, k_isOut_f k20 (e5.trans q5), e10, b_all, not_true_eq_false, not_false_eq_true, true_implies, false_implies, and_true, true_and]
    · simp (disch := omega) only [s_X7_gives, hst, q_isOut_f k20 q5, e10, b_all, not_true_eq_false, not_false_eq_true, true_implies, false_implies, and_true, true_and]
  · refine Sim.err bad2 (fun post => ?_) (fun post => ?_)
    · simp (disch := omega) only [s_X1_giveBack, k_has_t v60 n2 hkn, k_isOut_f k20 (e5.trans q6), e10, b_all, not_true_eq_false, not_false_eq_true, true_implies, false_implies, and_true, true_and]
    · simp (disch := omega) only [s_X7_gives, hst, q_isOut_f k20 q6, e10, b_all, not_true_eq_false, not_false_eq_true, true_implies, false_implies, and_true, true_and]
  · have c1 : ∀ (z : V) post, z 6 0 = nI ns → s_X5_setWhere_12 z (nI m) post = post (setF (z 12) (nI m) ns) z := fun z post hz => k_memoSet hz n2
    have c2 : ∀ (z : V) post, z 1 1 = nI ns → s_X7_outBy z (nI m) post = post (setF (fun k => z 1 (14 + 10 * k + 5)) (nI m) ns) z := fun z post hz => q_outBy hz n2
    have hset : setF (upd (v 12) k (-1)) (nI m) ns = setF (fun j => upd (upd (w 1) (14 + 10 * k + 4) (nI o)) (14 + 10 * k + 5) (-1) (14 + 10 * j + 5)) (nI m) ns := setF_cong ns (fun j hj => by
      obtain ⟨⟨-, -, -, -, -, z5, -⟩, -⟩ := hk j hj
      by_cases hjk : j = k
      · subst hjk
        simp (disch := omega) only [st1, st1n, u_s, u_n]
      · simp (disch := omega) only [st1, st1n, u_s, u_n]
        exact z5)
    apply Sim.mk
    · intro post
      simp (disch := omega) only [s_X1_giveBack, k_has_t v60 n2 hkn, k_isOut_t k20 (show m < 1000000 by omega) (e5.trans g9), vp_in_nI, tn_nI, e3, e5, g7, g9, e10, b_all, not_true_eq_false, not_false_eq_true, true_implies, false_implies, and_true, true_and]
      rw [c1 _ _ (by simp (disch := omega) only [st1, st1n, u_s, u_n]; exact v60)]
      simp (disch := omega) only [st1, st1n]
      rw [k_bitc n2]
      try exact rfl
    · intro post
      simp (disch := omega) only [s_X7_gives, hst, q_isOut_t k20 (show m < 1000000 by omega) g9, q_of5 k20, q_of3 k20, g9, g7, q_set4 k20, q_set5 k20, e10, b_all, not_true_eq_false, not_false_eq_true, true_implies, false_implies, and_true, true_and]
      rw [c2 _ _ (by simp (disch := omega) only [st1, st1n, u_s, u_n]; exact S1)]
      simp (disch := omega) only [st1]
      rw [q_ones, ← hset]
      try exact rfl
    · simp only [st_sa, sa_sa, sa_1]
    · exact on_pos n2
    · refine ⟨nd, ns, nm, t, g, e, ?_⟩
      refine Rn_st hRn hkn ?a03 ?a63 ?a163 ?a23 ?a33 ?a43 ?a53 (fun j hj => ?s13) (fun j hj => ?s23) (fun j hj => ?rm3) ⟨?eq3, ?okk3, ?stt3⟩ (fun j j1 j2 => ⟨?ev3, fun f hf => ?es3⟩) (fun j hj => ?ef3) (fun d hd => ?rb3) ?bd3
      case a03 => simp (disch := omega) only [st1n]
      case a63 => simp (disch := omega) only [st1n]
      case a163 => simp (disch := omega) only [st1n]
      case a23 => simp (disch := omega) only [st1n]
      case a33 => simp (disch := omega) only [st1n]
      case a43 => simp (disch := omega) only [st1n]
      case a53 => simp (disch := omega) only [st1n]
      case s13 => simp (disch := omega) only [st1, st1n, u_s, u_n]
      case s23 => simp (disch := omega) only [st1, st1n, u_s, u_n]
      case ev3 => exact ⟨by simp (disch := omega) only [st1, st1n, u_s, u_n], by simp (disch := omega) only [st1, st1n, u_s, u_n], by simp (disch := omega) only [st1, st1n, u_s, u_n], by simp (disch := omega) only [st1, st1n, u_s, u_n], by simp (disch := omega) only [st1, st1n, u_s, u_n], by simp (disch := omega) only [st1, st1n, u_s, u_n], by simp (disch := omega) only [st1, st1n, u_s, u_n], by simp (disch := omega) only [st1, st1n, u_s, u_n], by simp (disch := omega) only [st1, st1n, u_s, u_n]⟩
      case es3 => simp (disch := omega) only [st1, st1n, u_s, u_n]
      case ef3 => exact ⟨by simp (disch := omega) only [st1, st1n, u_s, u_n], by simp (disch := omega) only [st1, st1n, u_s, u_n]⟩
      case rm3 =>
        have := hm j hj
        unfold Rm at this ⊢
        simp (disch := omega) only [st1, st1n, u_s, u_n]
        exact this
      case eq3 =>
        unfold eqK
        exact ⟨(by simp (disch := omega) only [st1, st1n, u_s, u_n]; exact e0), (by simp (disch := omega) only [st1, st1n, u_s, u_n]; exact e1), (by simp (disch := omega) only [st1, st1n, u_s, u_n]; exact e2), (by simp (disch := omega) only [st1, st1n, u_s, u_n]; exact e3), (by simp (disch := omega) only [st1, st1n, u_s, u_n]), (by simp (disch := omega) only [st1, st1n, u_s, u_n]), (by simp (disch := omega) only [st1, st1n, u_s, u_n]; exact e6), (by simp (disch := omega) only [st1, st1n, u_s, u_n]; exact e7), (by simp (disch := omega) only [st1, st1n, u_s, u_n]; exact e8)⟩
      case okk3 =>
        unfold okK at hO ⊢
        simp (disch := omega) only [st1, st1n, u_s, u_n]
        exact hO
      case stt3 =>
        exact Or.inl ⟨o, cc, g1, by omega, (by simp (disch := omega) only [st1, st1n, u_s, u_n]; exact g7), (by simp (disch := omega) only [st1, st1n, u_s, u_n]), (by simp (disch := omega) only [st1, st1n, u_s, u_n]), (by simp (disch := omega) only [st1, st1n, u_s, u_n]; exact g11), (by simp (disch := omega) only [st1, st1n, u_s, u_n]; exact g12)⟩
      case rb3 =>
        have := hb d hd
        simp (disch := omega) only [st1, st1n, u_s, u_n]
        exact this
      case bd3 =>
        exact BD_k hB (fun d hd => by simp (disch := omega) only [st1, st1n, u_s, u_n]) (fun j hj => ⟨by simp (disch := omega) only [st1, st1n, u_s, u_n], by simp (disch := omega) only [st1, st1n, u_s, u_n]⟩) (fun j h1 h2 => by simp (disch := omega) only [st1, st1n, u_s, u_n]) (fun j h1 h2 => by simp (disch := omega) only [st1, st1n, u_s, u_n])
theorem q_isGrade_t {a b : Nat} {post : Int32 → Prop} (ha : a < 10) (hb : b < 8) : s_X7_isGrade (nI a) (nI b) post = post 1 := by
  unfold s_X7_isGrade
  rw [show s_X7_in (nI a) 0 9 _ = _ from q_in_n (a := 0) (b := 9) (by omega) (by omega) (by omega), b_f z10, show s_X7_in (nI b) 0 7 _ = _ from q_in_n (a := 0) (b := 7) (by omega) (by omega) (by omega), b_f z10]
theorem q_isGrade_f {x y : Int32} {post : Int32 → Prop} (h : noLook x y) : s_X7_isGrade x y post = post 0 := by
  unfold s_X7_isGrade
  by_cases h1 : x < 0 ∨ 9 < x
  · rw [q_in_f h1]
    exact b_t rfl
  · have h2 : ¬ x < 0 := fun z => h1 (Or.inl z)
    have h3 : ¬ 9 < x := fun z => h1 (Or.inr z)
    rw [q_in_t h2 h3, b_f z10]
    rcases h with h | h
    · exact absurd h h1
    · rw [q_in_f (show y < 0 ∨ 7 < y from h)]
      exact b_t rfl
theorem sim_grade {v w : V} (h : R v (w 1)) (x y z : Int32) : Sim (s_X1_regrade v x y z) (s_X7_grades1 w x y z) v w := by
  obtain ⟨nd, ns, nm, t, g, e, hRn⟩ := h
  have hBm := bnd_max hRn
  have hRn' := hRn
  obtain ⟨hg, hb, ⟨hP, hT⟩, hk, h0, hm, hB⟩ := hRn'
  have hg' := hg
  obtain ⟨n1, n2, n3, n4, n5, n6, v04, S0, v60, S1, v160, S2, v05, S3, L4, S5, v06, S6, v07, S7⟩ := hg'
  rcases ixn x (n := ns) (by omega) with ⟨k, hkn, rfl⟩ | hx
  rotate_left
  · refine Sim.err bad1 (fun post => ?_) (fun post => ?_)
    · unfold s_X1_regrade
      rw [k_has_f v60 hx]
      exact b_t rfl
    · unfold s_X7_grades1
      rw [q_isStone_f S1 (by omega) hx]
      exact b_t rfl
  have k20 : k < 20 := by omega
  have hst : ∀ post, s_X7_isStone w (nI k) post = post 1 w := fun post => q_isStone_t S1 (show ns < 1000000 by omega) hkn
  obtain ⟨⟨e0, e1, e2, e3, e4, e5, e6, e7, e8⟩, hO, hc⟩ := hk k hkn
  rcases lookOr y z with ⟨ya, zb, ha, hb8, rfl, rfl⟩ | hlook
  rotate_left
  · refine Sim.err bad1 (fun post => ?_) (fun post => ?_)
    · unfold s_X1_regrade
      rw [k_has_t v60 n2 hkn, b_f z10, k_look_f hlook]
      exact b_t' rfl
    · unfold s_X7_grades1
      rw [hst, b_f z10, q_isGrade_f hlook]
      exact b_t' rfl
  have hlk : ∀ post, s_X6_isLook (nI ya) (nI zb) post = post 1 := fun post => k_look_t ha hb8
  have hgr : ∀ post, s_X7_isGrade (nI ya) (nI zb) post = post 1 := fun post => q_isGrade_t ha hb8
  have hT' : okT (upd (upd (w 1) (14 + 10 * k + 1) (nI ya)) (14 + 10 * k + 2) (nI zb)) := okT_s hT (fun j hj => by simp (disch := omega) only [st1, st1n, u_s, u_n])
  have hP' : RP (st (st v 8 k (nI ya)) 9 k (nI zb)) (upd (upd (w 1) (14 + 10 * k + 1) (nI ya)) (14 + 10 * k + 2) (nI zb)) := RP_s (RP_c hP (fun i _ => by simp (disch := omega) only [st1, st1n, u_s, u_n]) (fun i _ => by simp (disch := omega) only [st1, st1n, u_s, u_n]) (fun i _ => by simp (disch := omega) only [st1, st1n, u_s, u_n]) (fun i _ => by simp (disch := omega) only [st1, st1n, u_s, u_n])) (fun j hj => by simp (disch := omega) only [st1, st1n, u_s, u_n])
  have hK' : okK (upd (upd (w 1) (14 + 10 * k + 1) (nI ya)) (14 + 10 * k + 2) (nI zb)) k := by
    obtain ⟨a1, -, -⟩ := hO
    refine ⟨?_, ⟨ya, ha, by simp (disch := omega) only [st1, st1n, u_s, u_n]⟩, ⟨zb, hb8, by simp (disch := omega) only [st1, st1n, u_s, u_n]⟩⟩
    simp (disch := omega) only [st1, st1n, u_s, u_n]
    exact a1
  have p1 : ∀ post, s_X1_priceOf (st (st v 8 k (nI ya)) 9 k (nI zb)) (nI k) post = post (pS (upd (upd (w 1) (14 + 10 * k + 1) (nI ya)) (14 + 10 * k + 2) (nI zb)) k) (st (st v 8 k (nI ya)) 9 k (nI zb)) := fun post => k_price hP' hT' hK' (by simp (disch := omega) only [st1, st1n, u_s, u_n]; exact e0) (by simp (disch := omega) only [st1, st1n, u_s, u_n]) (by simp (disch := omega) only [st1, st1n, u_s, u_n]) k20
  have ew : (st (st w 1 (14 + 10 * k + 1) (nI ya)) 1 (14 + 10 * k + 2) (nI zb)) 1 = upd (upd (w 1) (14 + 10 * k + 1) (nI ya)) (14 + 10 * k + 2) (nI zb) := by simp only [st1]
  have p2 : ∀ post, s_X7_price (st (st w 1 (14 + 10 * k + 1) (nI ya)) 1 (14 + 10 * k + 2) (nI zb)) (nI k) post = post (pS (upd (upd (w 1) (14 + 10 * k + 1) (nI ya)) (14 + 10 * k + 2) (nI zb)) k) (st (st w 1 (14 + 10 * k + 1) (nI ya)) 1 (14 + 10 * k + 2) (nI zb)) := fun post => by
    have := q_price (w := st (st w 1 (14 + 10 * k + 1) (nI ya)) 1 (14 + 10 * k + 2) (nI zb)) (post := post) (k := k) (by rw [ew]; exact hT') (by rw [ew]; exact hK') k20
    rw [ew] at this
    exact this
  have hpr := pS_m1 hT' hK'
  generalize hp : pS (upd (upd (w 1) (14 + 10 * k + 1) (nI ya)) (14 + 10 * k + 2) (nI zb)) k = pr at p1 p2 hpr
  obtain ⟨-, ⟨ca, hca, eca⟩, ⟨cb, hcb, ecb⟩⟩ := id hO
  have hwas : (10 : Int32) * nI ca + nI cb = nI (10 * ca + cb) := by
    show nI 10 * nI ca + nI cb = _
    rw [pk_mul, nI_add]
  rcases hc with ⟨o, cc, q1, q2, q3, q4, q5, q6, q7⟩ | ⟨q, cc, q1, q2, q3, q4, q5, q6, q7, q8⟩ | ⟨o, hh, m, a, cc, g1, g2, g3, g4, g5, g6, g7, g8, g9, g10, g11, g12, g13, g14⟩
  · apply Sim.mk
    · intro post
      simp (disch := omega) only [s_X1_regrade, k_has_t v60 n2 hkn, hlk, k_isSold_f k20 (e7.trans q6), vp_in_nI, tn_nI, e1, e2, eca, ecb, hwas, p1, e10, b_all, not_true_eq_false, not_false_eq_true, true_implies, false_implies, and_true, true_and]
      rw [k_isOut_f k20 (by simp (disch := omega) only [st1, st1n, u_s, u_n]; exact e5.trans q5), b_t rfl]
    · intro post
      simp (disch := omega) only [s_X7_grades1, hst, hgr, q_isSold_f k20 (show o < 1000000 by omega) q3, q_of1 k20, q_of2 k20, q_set1 k20, q_set2 k20, eca, ecb, hwas, p2, e10, b_all, not_true_eq_false, not_false_eq_true, true_implies, false_implies, and_true, true_and]
      rw [q_isOut_f k20 (by simp (disch := omega) only [st1, st1n, u_s, u_n]; exact q5), b_t rfl]
    · simp only [st_sa, sa_sa, sa_1]
    · exact n_neg (by omega)
    · refine ⟨nd, ns, nm, t, g, e, ?_⟩
      refine Rn_st hRn hkn ?a04 ?a64 ?a164 ?a24 ?a34 ?a44 ?a54 (fun j hj => ?s14) (fun j hj => ?s24) (fun j hj => ?rm4) ⟨?eq4, ?okk4, ?stt4⟩ (fun j j1 j2 => ⟨?ev4, fun f hf => ?es4⟩) (fun j hj => ?ef4) (fun d hd => ?rb4) ?bd4
      case a04 => simp (disch := omega) only [st1n]
      case a64 => simp (disch := omega) only [st1n]
      case a164 => simp (disch := omega) only [st1n]
      case a24 => simp (disch := omega) only [st1n]
      case a34 => simp (disch := omega) only [st1n]
      case a44 => simp (disch := omega) only [st1n]
      case a54 => simp (disch := omega) only [st1n]
      case s14 => simp (disch := omega) only [st1, st1n, u_s, u_n]
      case s24 => simp (disch := omega) only [st1, st1n, u_s, u_n]
      case ev4 => exact ⟨by simp (disch := omega) only [st1, st1n, u_s, u_n], by simp (disch := omega) only [st1, st1n, u_s, u_n], by simp (disch := omega) only [st1, st1n, u_s, u_n], by simp (disch := omega) only [st1, st1n, u_s, u_n], by simp (disch := omega) only [st1, st1n, u_s, u_n], by simp (disch := omega) only [st1, st1n, u_s, u_n], by simp (disch := omega) only [st1, st1n, u_s, u_n], by simp (disch := omega) only [st1, st1n, u_s, u_n], by simp (disch := omega) only [st1, st1n, u_s, u_n]⟩
      case es4 => simp (disch := omega) only [st1, st1n, u_s, u_n]
      case ef4 => exact ⟨by simp (disch := omega) only [st1, st1n, u_s, u_n], by simp (disch := omega) only [st1, st1n, u_s, u_n]⟩
      case rm4 =>
        have := hm j hj
        unfold Rm at this ⊢
        simp (disch := omega) only [st1, st1n, u_s, u_n]
        exact this
      case eq4 =>
        unfold eqK
        exact ⟨(by simp (disch := omega) only [st1, st1n, u_s, u_n]; exact e0), (by simp (disch := omega) only [st1, st1n, u_s, u_n]), (by simp (disch := omega) only [st1, st1n, u_s, u_n]), (by simp (disch := omega) only [st1, st1n, u_s, u_n]; exact e3), (by simp (disch := omega) only [st1, st1n, u_s, u_n]; exact e4), (by simp (disch := omega) only [st1, st1n, u_s, u_n]; exact e5), (by simp (disch := omega) only [st1, st1n, u_s, u_n]; exact e6), (by simp (disch := omega) only [st1, st1n, u_s, u_n]; exact e7), (by simp (disch := omega) only [st1, st1n, u_s, u_n]; exact e8)⟩
      case okk4 =>
        obtain ⟨a1, -, -⟩ := hO
        refine ⟨?_, ⟨ya, ha, by simp (disch := omega) only [st1, st1n, u_s, u_n]⟩, ⟨zb, hb8, by simp (disch := omega) only [st1, st1n, u_s, u_n]⟩⟩
        simp (disch := omega) only [st1, st1n, u_s, u_n]
        exact a1
      case stt4 =>
        exact Or.inl ⟨o, cc, q1, q2, (by simp (disch := omega) only [st1, st1n, u_s, u_n]; exact q3), (by simp (disch := omega) only [st1, st1n, u_s, u_n]; exact q4), (by simp (disch := omega) only [st1, st1n, u_s, u_n]; exact q5), (by simp (disch := omega) only [st1, st1n, u_s, u_n]; exact q6), (by simp (disch := omega) only [st1, st1n, u_s, u_n]; exact q7)⟩
      case rb4 =>
        have := hb d hd
        simp (disch := omega) only [st1, st1n, u_s, u_n]
        exact this
      case bd4 =>
        exact BD_k hB (fun d hd => by simp (disch := omega) only [st1, st1n, u_s, u_n]) (fun j hj => ⟨by simp (disch := omega) only [st1, st1n, u_s, u_n], by simp (disch := omega) only [st1, st1n, u_s, u_n]⟩) (fun j h1 h2 => by simp (disch := omega) only [st1, st1n, u_s, u_n]) (fun j h1 h2 => by simp (disch := omega) only [st1, st1n, u_s, u_n])
  · refine Sim.err bad2 (fun post => ?_) (fun post => ?_)
    · simp (disch := omega) only [s_X1_regrade, k_has_t v60 n2 hkn, hlk, k_isSold_t k20 (nz_of (e7.trans q7) (by omega) (by omega)), e10, b_all, not_true_eq_false, not_false_eq_true, true_implies, false_implies, and_true, true_and]
    · simp (disch := omega) only [s_X7_grades1, hst, hgr, q_isSold_t k20 q4, e10, b_all, not_true_eq_false, not_false_eq_true, true_implies, false_implies, and_true, true_and]
  · rcases hpr with ⟨hpr, -⟩ | ⟨px, hpx, hpr, -⟩
    · subst hpr
      apply Sim.mk
      · intro post
        simp (disch := omega) only [s_X1_regrade, k_has_t v60 n2 hkn, hlk, k_isSold_f k20 (e7.trans g11), vp_in_nI, tn_nI, e1, e2, eca, ecb, hwas, p1, e10, b_all, not_true_eq_false, not_false_eq_true, true_implies, false_implies, and_true, true_and]
        rw [k_isOut_t k20 (show m < 1000000 by omega) (by simp (disch := omega) only [st1, st1n, u_s, u_n]; exact e5.trans g9), b_f z10]
        try exact rfl
      · intro post
        simp (disch := omega) only [s_X7_grades1, hst, hgr, q_isSold_f k20 (show o < 1000000 by omega) g7, q_of1 k20, q_of2 k20, q_set1 k20, q_set2 k20, eca, ecb, hwas, p2, e10, b_all, not_true_eq_false, not_false_eq_true, true_implies, false_implies, and_true, true_and]
        rw [q_isOut_t k20 (show m < 1000000 by omega) (by simp (disch := omega) only [st1, st1n, u_s, u_n]; exact g9), b_f z10, b_t (by decide)]
      · simp only [st_sa, sa_sa, sa_1]
      · exact n_neg (by omega)
      · refine ⟨nd, ns, nm, t, g, e, ?_⟩
        refine Rn_st hRn hkn ?a05 ?a65 ?a165 ?a25 ?a35 ?a45 ?a55 (fun j hj => ?s15) (fun j hj => ?s25) (fun j hj => ?rm5) ⟨?eq5, ?okk5, ?stt5⟩ (fun j j1 j2 => ⟨?ev5, fun f hf => ?es5⟩) (fun j hj => ?ef5) (fun d hd => ?rb5) ?bd5
        case a05 => simp (disch := omega) only [st1n]
        case a65 => simp (disch := omega) only [st1n]
        case a165 => simp (disch := omega) only [st1n]
        case a25 => simp (disch := omega) only [st1n]
        case a35 => simp (disch := omega) only [st1n]
        case a45 => simp (disch := omega) only [st1n]
        case a55 => simp (disch := omega) only [st1n]
        case s15 => simp (disch := omega) only [st1, st1n, u_s, u_n]
        case s25 => simp (disch := omega) only [st1, st1n, u_s, u_n]
        case ev5 => exact ⟨by simp (disch := omega) only [st1, st1n, u_s, u_n], by simp (disch := omega) only [st1, st1n, u_s, u_n], by simp (disch := omega) only [st1, st1n, u_s, u_n], by simp (disch := omega) only [st1, st1n, u_s, u_n], by simp (disch := omega) only [st1, st1n, u_s, u_n], by simp (disch := omega) only [st1, st1n, u_s, u_n], by simp (disch := omega) only [st1, st1n, u_s, u_n], by simp (disch := omega) only [st1, st1n, u_s, u_n], by simp (disch := omega) only [st1, st1n, u_s, u_n]⟩
        case es5 => simp (disch := omega) only [st1, st1n, u_s, u_n]
        case ef5 => exact ⟨by simp (disch := omega) only [st1, st1n, u_s, u_n], by simp (disch := omega) only [st1, st1n, u_s, u_n]⟩
        case rm5 =>
          have := hm j hj
          unfold Rm at this ⊢
          simp (disch := omega) only [st1, st1n, u_s, u_n]
          exact this
        case eq5 =>
          unfold eqK
          exact ⟨(by simp (disch := omega) only [st1, st1n, u_s, u_n]; exact e0), (by simp (disch := omega) only [st1, st1n, u_s, u_n]), (by simp (disch := omega) only [st1, st1n, u_s, u_n]), (by simp (disch := omega) only [st1, st1n, u_s, u_n]; exact e3), (by simp (disch := omega) only [st1, st1n, u_s, u_n]; exact e4), (by simp (disch := omega) only [st1, st1n, u_s, u_n]; exact e5), (by simp (disch := omega) only [st1, st1n, u_s, u_n]; exact e6), (by simp (disch := omega) only [st1, st1n, u_s, u_n]; exact e7), (by simp (disch := omega) only [st1, st1n, u_s, u_n]; exact e8)⟩
        case okk5 =>
          obtain ⟨a1, -, -⟩ := hO
          refine ⟨?_, ⟨ya, ha, by simp (disch := omega) only [st1, st1n, u_s, u_n]⟩, ⟨zb, hb8, by simp (disch := omega) only [st1, st1n, u_s, u_n]⟩⟩
          simp (disch := omega) only [st1, st1n, u_s, u_n]
          exact a1
        case stt5 =>
          exact Or.inr (Or.inr ⟨o, hh, m, a, cc, g1, g2, g3, g4, g5, g6, (by simp (disch := omega) only [st1, st1n, u_s, u_n]; exact g7), (by simp (disch := omega) only [st1, st1n, u_s, u_n]; exact g8), (by simp (disch := omega) only [st1, st1n, u_s, u_n]; exact g9), (by simp (disch := omega) only [st1, st1n, u_s, u_n]; exact g10), (by simp (disch := omega) only [st1, st1n, u_s, u_n]; exact g11), (by simp (disch := omega) only [st1, st1n, u_s, u_n]; exact g12), (by simp (disch := omega) only [st1, st1n, u_s, u_n]; exact g13), (by simp (disch := omega) only [st1, st1n, u_s, u_n]; exact g14)⟩)
        case rb5 =>
          have := hb d hd
          simp (disch := omega) only [st1, st1n, u_s, u_n]
          exact this
        case bd5 =>
          exact BD_k hB (fun d hd => by simp (disch := omega) only [st1, st1n, u_s, u_n]) (fun j hj => ⟨by simp (disch := omega) only [st1, st1n, u_s, u_n], by simp (disch := omega) only [st1, st1n, u_s, u_n]⟩) (fun j h1 h2 => by simp (disch := omega) only [st1, st1n, u_s, u_n]) (fun j h1 h2 => by simp (disch := omega) only [st1, st1n, u_s, u_n])
    · subst hpr
      apply Sim.mk
      · intro post
        simp (disch := omega) only [s_X1_regrade, k_has_t v60 n2 hkn, hlk, k_isSold_f k20 (e7.trans g11), vp_in_nI, tn_nI, e1, e2, eca, ecb, hwas, p1, e10, b_all, not_true_eq_false, not_false_eq_true, true_implies, false_implies, and_true, true_and]
        rw [k_isOut_t k20 (show m < 1000000 by omega) (by simp (disch := omega) only [st1, st1n, u_s, u_n]; exact e5.trans g9), b_f z10, b_f (n_m1 (by omega))]
      · intro post
        simp (disch := omega) only [s_X7_grades1, hst, hgr, q_isSold_f k20 (show o < 1000000 by omega) g7, q_of1 k20, q_of2 k20, q_set1 k20, q_set2 k20, q_set6 k20, eca, ecb, hwas, p2, e10, b_all, not_true_eq_false, not_false_eq_true, true_implies, false_implies, and_true, true_and]
        rw [q_isOut_t k20 (show m < 1000000 by omega) (by simp (disch := omega) only [st1, st1n, u_s, u_n]; exact g9), b_f z10, b_f (n_neg (by omega))]
      · simp only [st_sa, sa_sa, sa_1]
      · exact n_neg (by omega)
      · refine ⟨nd, ns, nm, t, g, e, ?_⟩
        refine Rn_st hRn hkn ?a06 ?a66 ?a166 ?a26 ?a36 ?a46 ?a56 (fun j hj => ?s16) (fun j hj => ?s26) (fun j hj => ?rm6) ⟨?eq6, ?okk6, ?stt6⟩ (fun j j1 j2 => ⟨?ev6, fun f hf => ?es6⟩) (fun j hj => ?ef6) (fun d hd => ?rb6) ?bd6
        case a06 => simp (disch := omega) only [st1n]
        case a66 => simp (disch := omega) only [st1n]
        case a166 => simp (disch := omega) only [st1n]
        case a26 => simp (disch := omega) only [st1n]
        case a36 => simp (disch := omega) only [st1n]
        case a46 => simp (disch := omega) only [st1n]
        case a56 => simp (disch := omega) only [st1n]
        case s16 => simp (disch := omega) only [st1, st1n, u_s, u_n]
        case s26 => simp (disch := omega) only [st1, st1n, u_s, u_n]
        case ev6 => exact ⟨by simp (disch := omega) only [st1, st1n, u_s, u_n], by simp (disch := omega) only [st1, st1n, u_s, u_n], by simp (disch := omega) only [st1, st1n, u_s, u_n], by simp (disch := omega) only [st1, st1n, u_s, u_n], by simp (disch := omega) only [st1, st1n, u_s, u_n], by simp (disch := omega) only [st1, st1n, u_s, u_n], by simp (disch := omega) only [st1, st1n, u_s, u_n], by simp (disch := omega) only [st1, st1n, u_s, u_n], by simp (disch := omega) only [st1, st1n, u_s, u_n]⟩
        case es6 => simp (disch := omega) only [st1, st1n, u_s, u_n]
        case ef6 => exact ⟨by simp (disch := omega) only [st1, st1n, u_s, u_n], by simp (disch := omega) only [st1, st1n, u_s, u_n]⟩
        case rm6 =>
          have := hm j hj
          unfold Rm at this ⊢
          simp (disch := omega) only [st1, st1n, u_s, u_n]
          exact this
        case eq6 =>
          unfold eqK
          exact ⟨(by simp (disch := omega) only [st1, st1n, u_s, u_n]; exact e0), (by simp (disch := omega) only [st1, st1n, u_s, u_n]), (by simp (disch := omega) only [st1, st1n, u_s, u_n]), (by simp (disch := omega) only [st1, st1n, u_s, u_n]; exact e3), (by simp (disch := omega) only [st1, st1n, u_s, u_n]; exact e4), (by simp (disch := omega) only [st1, st1n, u_s, u_n]; exact e5), (by simp (disch := omega) only [st1, st1n, u_s, u_n]), (by simp (disch := omega) only [st1, st1n, u_s, u_n]; exact e7), (by simp (disch := omega) only [st1, st1n, u_s, u_n]; exact e8)⟩
        case okk6 =>
          obtain ⟨a1, -, -⟩ := hO
          refine ⟨?_, ⟨ya, ha, by simp (disch := omega) only [st1, st1n, u_s, u_n]⟩, ⟨zb, hb8, by simp (disch := omega) only [st1, st1n, u_s, u_n]⟩⟩
          simp (disch := omega) only [st1, st1n, u_s, u_n]
          exact a1
        case stt6 =>
          exact Or.inr (Or.inr ⟨o, hh, m, px, cc, g1, g2, g3, g4, hpx, g6, (by simp (disch := omega) only [st1, st1n, u_s, u_n]; exact g7), (by simp (disch := omega) only [st1, st1n, u_s, u_n]; exact g8), (by simp (disch := omega) only [st1, st1n, u_s, u_n]; exact g9), (by simp (disch := omega) only [st1, st1n, u_s, u_n]), (by simp (disch := omega) only [st1, st1n, u_s, u_n]; exact g11), (by simp (disch := omega) only [st1, st1n, u_s, u_n]; exact g12), (by simp (disch := omega) only [st1, st1n, u_s, u_n]; exact g13), (by simp (disch := omega) only [st1, st1n, u_s, u_n]; exact g14)⟩)
        case rb6 =>
          have := hb d hd
          simp (disch := omega) only [st1, st1n, u_s, u_n]
          exact this
        case bd6 =>
          exact BD_k hB (fun d hd => by simp (disch := omega) only [st1, st1n, u_s, u_n]) (fun j hj => ⟨by simp (disch := omega) only [st1, st1n, u_s, u_n], by simp (disch := omega) only [st1, st1n, u_s, u_n]⟩) (fun j h1 h2 => by simp (disch := omega) only [st1, st1n, u_s, u_n]) (fun j h1 h2 => by simp (disch := omega) only [st1, st1n, u_s, u_n])
