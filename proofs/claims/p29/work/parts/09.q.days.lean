/-! PURE 17: days -/
theorem Rn_late {v : V} {S : Nat → Int32} {nd ns nm t g e l : Nat} (h : Rn v S nd ns nm t g e l) (hJ : J2 S 1) : Rn v (upd S 4 (S 4 + 1)) nd ns nm t g e (l + 1) := by
  obtain ⟨hg, hb, ⟨hP, hT⟩, hk, h0, hm, hB⟩ := h
  obtain ⟨n1, n2, n3, n4, n5, n6, v04, S0, v60, S1, v160, S2, v05, S3, L4, S5, v06, S6, v07, S7⟩ := hg
  refine ⟨?_, fun d hd => ?_, ⟨RP_s hP (fun j hj => by simp (disch := omega) only [st1, st1n, u_s, u_n]), okT_s hT (fun j hj => by simp (disch := omega) only [st1, st1n, u_s, u_n])⟩, fun k hk' => Rk_s (hk k hk') (by omega) n3 (fun j h1 h2 => by simp (disch := omega) only [st1, st1n, u_s, u_n]), fun k k1 k2 => ?_, fun m hm' => ?_, ⟨BB_k hB.1 (fun d hd => by simp (disch := omega) only [st1, st1n, u_s, u_n]) (fun j hj => ⟨by simp (disch := omega) only [st1, st1n, u_s, u_n], by simp (disch := omega) only [st1, st1n, u_s, u_n]⟩), J1_s hB.2.1 (fun d hd => by simp (disch := omega) only [st1, st1n, u_s, u_n]) (fun j hj => by simp (disch := omega) only [st1, st1n, u_s, u_n]), ?_, J3_s hB.2.2.2 (by simp (disch := omega) only [st1, st1n, u_s, u_n]) (by simp (disch := omega) only [st1, st1n, u_s, u_n]) (fun m hm => ⟨by simp (disch := omega) only [st1, st1n, u_s, u_n], by simp (disch := omega) only [st1, st1n, u_s, u_n], by simp (disch := omega) only [st1, st1n, u_s, u_n]⟩)⟩⟩
  · unfold Rg
    simp (disch := omega) only [st1, st1n, u_s, u_n]
    exact ⟨n1, n2, n3, n4, n5, n6, v04, S0, v60, S1, v160, S2, v05, S3, by rw [L4, Int32.add_assoc, nI_1], S5, v06, S6, v07, S7⟩
  · have := hb d hd
    simp (disch := omega) only [st1, st1n, u_s, u_n]
    exact this
  · have := h0 k k1 k2
    unfold R0 at this ⊢
    simp (disch := omega) only [st1, st1n, u_s, u_n]
    exact this
  · have := hm m hm'
    unfold Rm at this ⊢
    simp (disch := omega) only [st1, st1n, u_s, u_n]
    exact this
  · obtain ⟨q, y1, y2⟩ := hJ
    refine ⟨q + 1, ?_, ?_⟩
    · simp (disch := omega) only [u_s]
      rw [y1, nI_1]
    · rw [sm_cong (f := kpS (upd S 4 (S 4 + 1))) (g := kpS S) 20 (fun i hi => by unfold kpS; simp (disch := omega) only [u_n])]
      omega
theorem Rn_time {v : V} {S : Nat → Int32} {nd ns nm t g e l : Nat} (h : Rn v S nd ns nm t g e l) (ht : t + 1 ≤ 2000) : Rn (st v 0 5 (nI (t + 1))) (upd S 3 (nI (t + 1))) nd ns nm (t + 1) g e l := by
  obtain ⟨hg, hb, ⟨hP, hT⟩, hk, h0, hm, hB⟩ := h
  obtain ⟨n1, n2, n3, n4, n5, n6, v04, S0, v60, S1, v160, S2, v05, S3, L4, S5, v06, S6, v07, S7⟩ := hg
  refine ⟨?_, fun d hd => ?_, ⟨RP_s (RP_c hP (fun i _ => by simp (disch := omega) only [st1, st1n, u_s, u_n]) (fun i _ => by simp (disch := omega) only [st1, st1n, u_s, u_n]) (fun i _ => by simp (disch := omega) only [st1, st1n, u_s, u_n]) (fun i _ => by simp (disch := omega) only [st1, st1n, u_s, u_n])) (fun j hj => by simp (disch := omega) only [st1, st1n, u_s, u_n]), okT_s hT (fun j hj => by simp (disch := omega) only [st1, st1n, u_s, u_n])⟩, fun k hk' => Rk_c (hk k hk') ⟨by simp (disch := omega) only [st1, st1n, u_s, u_n], by simp (disch := omega) only [st1, st1n, u_s, u_n], by simp (disch := omega) only [st1, st1n, u_s, u_n], by simp (disch := omega) only [st1, st1n, u_s, u_n], by simp (disch := omega) only [st1, st1n, u_s, u_n], by simp (disch := omega) only [st1, st1n, u_s, u_n], by simp (disch := omega) only [st1, st1n, u_s, u_n], by simp (disch := omega) only [st1, st1n, u_s, u_n], by simp (disch := omega) only [st1, st1n, u_s, u_n]⟩ (fun f hf => by simp (disch := omega) only [st1, st1n, u_s, u_n]) (fun m hm => ⟨by simp (disch := omega) only [st1, st1n, u_s, u_n], by simp (disch := omega) only [st1, st1n, u_s, u_n]⟩) (Nat.le_refl _) (Nat.le_refl _), fun k k1 k2 => ?_, fun m hm' => ?_, ⟨BB_k hB.1 (fun d hd => by simp (disch := omega) only [st1, st1n, u_s, u_n]) (fun j hj => ⟨by simp (disch := omega) only [st1, st1n, u_s, u_n], by simp (disch := omega) only [st1, st1n, u_s, u_n]⟩), J1_s hB.2.1 (fun d hd => by simp (disch := omega) only [st1, st1n, u_s, u_n]) (fun j hj => by simp (disch := omega) only [st1, st1n, u_s, u_n]), J2_s hB.2.2.1 (by simp (disch := omega) only [st1, st1n, u_s, u_n]) (fun j hj => by simp (disch := omega) only [st1, st1n, u_s, u_n]), ?_⟩⟩
  · unfold Rg
    simp (disch := omega) only [st1, st1n, u_s, u_n]
    exact ⟨n1, n2, n3, ht, n5, n6, v04, S0, v60, S1, v160, S2, trivial, trivial, L4, S5, v06, S6, v07, S7⟩
  · have := hb d hd
    simp (disch := omega) only [st1, st1n, u_s, u_n]
    exact this
  · have := h0 k k1 k2
    unfold R0 at this ⊢
    simp (disch := omega) only [st1, st1n, u_s, u_n]
    exact this
  · have := hm m hm'
    unfold Rm at this ⊢
    simp (disch := omega) only [st1, st1n, u_s, u_n]
    exact this
  · obtain ⟨nm2, t2, y1, y2, y3, y4, y5⟩ := hB.2.2.2
    have g2 : t2 = t := by
      have := y4.symm.trans S3
      rw [n_eq (by omega) (by omega)] at this
      exact this
    subst g2
    refine ⟨nm2, t2 + 1, y1, ht, ?_, ?_, fun m hm => ?_⟩
    · simp (disch := omega) only [u_n]
      exact y3
    · simp (disch := omega) only [u_s]
    · obtain ⟨z1, z, z2, z3⟩ := y5 m hm
      simp (disch := omega) only [u_n]
      exact ⟨z1, z, by omega, z3⟩
theorem Rn_end {v : V} {S : Nat → Int32} {nd ns nm t g e l : Nat} (h : Rn v S nd ns nm t g e l) : Rn (st v 0 8 (v 0 8 + nI l)) S nd ns nm t g e 0 := by
  obtain ⟨hg, hb, ⟨hP, hT⟩, hk, h0, hm, hB⟩ := h
  obtain ⟨n1, n2, n3, n4, n5, n6, v04, S0, v60, S1, v160, S2, v05, S3, L4, S5, v06, S6, v07, S7⟩ := hg
  refine ⟨?_, fun d hd => ?_, ⟨RP_c hP (fun i _ => by simp (disch := omega) only [st1, st1n, u_s, u_n]) (fun i _ => by simp (disch := omega) only [st1, st1n, u_s, u_n]) (fun i _ => by simp (disch := omega) only [st1, st1n, u_s, u_n]) (fun i _ => by simp (disch := omega) only [st1, st1n, u_s, u_n]), hT⟩, fun k hk' => Rk_c (hk k hk') ⟨by simp (disch := omega) only [st1, st1n, u_s, u_n], by simp (disch := omega) only [st1, st1n, u_s, u_n], by simp (disch := omega) only [st1, st1n, u_s, u_n], by simp (disch := omega) only [st1, st1n, u_s, u_n], by simp (disch := omega) only [st1, st1n, u_s, u_n], by simp (disch := omega) only [st1, st1n, u_s, u_n], by simp (disch := omega) only [st1, st1n, u_s, u_n], by simp (disch := omega) only [st1, st1n, u_s, u_n], by simp (disch := omega) only [st1, st1n, u_s, u_n]⟩ (fun f hf => rfl) (fun m hm => ⟨rfl, rfl⟩) (Nat.le_refl _) (Nat.le_refl _), h0, fun m hm' => ?_, hB⟩
  · unfold Rg
    simp (disch := omega) only [st1, st1n, u_s, u_n]
    exact ⟨n1, n2, n3, n4, n5, n6, v04, S0, v60, S1, v160, S2, v05, S3, by rw [L4]; exact (Int32.add_zero _).symm, S5, v06, S6, v07, S7⟩
  · have := hb d hd
    simp (disch := omega) only [st1, st1n, u_s, u_n]
    exact this
  · have := hm m hm'
    unfold Rm at this ⊢
    simp (disch := omega) only [st1, st1n, u_s, u_n]
    exact this
theorem late_st {v w : V} {nd ns nm t g e l m k x : Nat} (hRn : Rn v (w 1) nd ns nm t g e l) (hkn : k < ns) (hm10 : m < 10) : ∃ v' w' y, y ≤ 1 ∧ (∀ (post : Int32 → V → Prop) k0 rec, sb_X1_keepLateOnes_41 post (nI m) k0 rec (nI x) (nI k) v = rec (nI (x + y)) (nI (k + 1)) v') ∧ (∀ (post : V → Prop) k0 rec, sb_X7_day_53 post (nI m) 1 k0 rec (nI k) w = rec (nI (k + 1)) w') ∧ w' = sa w 1 (w' 1) ∧ Rn v' (w' 1) nd ns nm t g e (l + y) ∧ v' 0 8 = v 0 8 := by
  have hRn' := hRn
  obtain ⟨hg, hb, ⟨hP, hT⟩, hk, h0, hm, hB⟩ := hRn'
  obtain ⟨n1, n2, n3, n4, n5, n6, v04, S0, v60, S1, v160, S2, v05, S3, L4, S5, v06, S6, v07, S7⟩ := hg
  have k20 : k < 20 := by omega
  obtain ⟨⟨e0, e1, e2, e3, e4, e5, e6, e7, e8⟩, hO, hc⟩ := hk k hkn
  have hle : (nI ns ≤ nI k) = False := eq_false (nI_ge (by omega) (by omega))
  have hm1 : ((-1 : Int32) = nI m) = False := eq_false (n_m1' (by omega))
  have none_ : (w 1 (14 + 10 * k + 5) = nI m) = False → ∃ v' w' y, y ≤ 1 ∧ (∀ (post : Int32 → V → Prop) k0 rec, sb_X1_keepLateOnes_41 post (nI m) k0 rec (nI x) (nI k) v = rec (nI (x + y)) (nI (k + 1)) v') ∧ (∀ (post : V → Prop) k0 rec, sb_X7_day_53 post (nI m) 1 k0 rec (nI k) w = rec (nI (k + 1)) w') ∧ w' = sa w 1 (w' 1) ∧ Rn v' (w' 1) nd ns nm t g e (l + y) ∧ v' 0 8 = v 0 8 := fun hno => by
    refine ⟨v, w, 0, by omega, fun post k0 rec => ?_, fun post k0 rec => ?_, (sa_self w 1).symm, hRn, rfl⟩
    · simp (disch := omega) only [sb_X1_keepLateOnes_41, v60, hle, vp_in_nI, tn_nI, e5, hno, nI_1, Nat.add_zero, e10, b_all, not_true_eq_false, not_false_eq_true, true_implies, false_implies, and_true, true_and]
    · simp (disch := omega) only [sb_X7_day_53, t_1, S1, hle, q_of5 k20, hno, nI_1, e10, b_all, not_true_eq_false, not_false_eq_true, true_implies, false_implies, and_true, true_and]
  rcases hc with ⟨o, cc, q1, q2, q3, q4, q5, q6, q7⟩ | ⟨q, cc, q1, q2, q3, q4, q5, q6, q7, q8⟩ | ⟨o, hh, m', a, cc, g1, g2, g3, g4, g5, g6, g7, g8, g9, g10, g11, g12, g13, g14⟩
  · exact none_ (by rw [q5, hm1])
  · exact none_ (by rw [q6, hm1])
  · by_cases hmm : m' = m
    · subst hmm
      have hae : a * e ≤ 99890 * 100 := Nat.mul_le_mul g5 n6
      have hcost : nI a + nI a * nI e / 100 = nI (a + a * e / 100) := by
        rw [pk_mul, show (100 : Int32) = nI 100 from rfl, pk_div (by omega) (by omega) (by omega), nI_add]
      have hOut : stO (w 1) nd nm k := ⟨o, hh, m', a, cc, g1, g2, g3, g4, g5, g6, g7, g8, g9, g10, g11, g12, g13, g14⟩
      obtain ⟨v', S', p1, p2, p3, p4, p5⟩ := sim_pay (c := a + a * e / 100) hRn hkn (by omega) hOut
      refine ⟨v', sa w 1 (upd S' 4 (S' 4 + 1)), 1, Nat.le_refl _, fun post k0 rec => ?_, fun post k0 rec => ?_, by rw [sa_1], by rw [sa_1]; exact Rn_late p3 p5, p4⟩
      · simp (disch := omega) only [sb_X1_keepLateOnes_41, v60, hle, vp_in_nI, tn_nI, e5, e6, g9, g10, v07, hcost, p1, nI_1, e10, b_all, not_true_eq_false, not_false_eq_true, true_implies, false_implies, and_true, true_and]
      · simp (disch := omega) only [sb_X7_day_53, t_1, t_4, t_7, S1, S7, hle, q_of5 k20, q_of6 k20, g9, g10, hcost, p2, sa_1, sa_st, nI_1, e10, b_all, not_true_eq_false, not_false_eq_true, true_implies, false_implies, and_true, true_and]
    · exact none_ (eq_false (by rw [g9, n_eq (by omega) (by omega)]; exact hmm))
theorem late_sts {nd ns nm t g e m : Nat} (hm10 : m < 10) : ∀ d k l x (v w : V), k + d = ns → Rn v (w 1) nd ns nm t g e l → ∃ v' w' y, y ≤ d ∧ (∀ (post : Int32 → V → Prop) k0, (∃ n, sl_X1_keepLateOnes_41 post (nI m) k0 n (nI x) (nI k) v) = k0 (nI (x + y)) (nI ns) v') ∧ (∀ (post : V → Prop) k0, (∃ n, sl_X7_day_53 post (nI m) 1 k0 n (nI k) w) = k0 (nI ns) w') ∧ w' = sa w 1 (w' 1) ∧ Rn v' (w' 1) nd ns nm t g e (l + y) ∧ v' 0 8 = v 0 8 := by
  intro d
  induction d with
  | zero =>
    intro k l x v w hk hRn
    obtain rfl : k = ns := by omega
    have v60 : v 6 0 = nI k := hRn.1.2.2.2.2.2.2.2.2.1
    have S1 : w 1 1 = nI k := hRn.1.2.2.2.2.2.2.2.2.2.1
    exact ⟨v, w, 0, Nat.le_refl _, fun post k0 => xo_X1_keepLateOnes_41 (fun rec => b_t (show v 6 0 ≤ nI k by rw [v60]; exact Int32.le_refl _)), fun post k0 => xo_X7_day_53 (fun rec => b_t (show w 1 1 ≤ nI k by rw [S1]; exact Int32.le_refl _)), (sa_self w 1).symm, hRn, rfl⟩
  | succ d ih =>
    intro k l x v w hk hRn
    obtain ⟨v1, w1, y1, a1, a2, a3, a4, a5, a6⟩ := late_st (m := m) (x := x) hRn (show k < ns by omega) hm10
    obtain ⟨v', w', y, b1, b2, b3, b4, b5, b6⟩ := ih (k + 1) (l + y1) (x + y1) v1 w1 (by omega) a5
    refine ⟨v', w', y1 + y, by omega, fun post k0 => ?_, fun post k0 => (xs_X7_day_53 (fun rec => a3 post k0 rec)).trans (b3 post k0), ?_, ?_, b6.trans a6⟩
    · rw [← Nat.add_assoc]
      exact (xs_X1_keepLateOnes_41 (fun rec => a2 post k0 rec)).trans (b2 post k0)
    · rw [a4, sa_sa] at b4
      exact b4
    · rw [← Nat.add_assoc]
      exact b5
theorem late_ms {nd ns nm t g e : Nat} : ∀ d m l x (v w : V), m + d = nm → Rn v (w 1) nd ns nm t g e l → ∃ v' w' y, y ≤ 20 * d ∧ (∀ (post : Int32 → V → Prop) k0, (∃ n, sl_X1_keepLateOnes_4 post k0 n (nI x) (nI m) v) = k0 (nI (x + y)) (nI nm) v') ∧ (∀ (post : V → Prop) k0, (∃ n, sl_X7_day_12 post k0 n (nI m) w) = k0 (nI nm) w') ∧ w' = sa w 1 (w' 1) ∧ Rn v' (w' 1) nd ns nm t g e (l + y) ∧ v' 0 8 = v 0 8 := by
  intro d
  induction d with
  | zero =>
    intro m l x v w hm hRn
    obtain rfl : m = nm := by omega
    have v160 : v 16 0 = nI m := hRn.1.2.2.2.2.2.2.2.2.2.2.1
    have S2 : w 1 2 = nI m := hRn.1.2.2.2.2.2.2.2.2.2.2.2.1
    exact ⟨v, w, 0, Nat.le_refl _, fun post k0 => xo_X1_keepLateOnes_4 (fun rec => b_t (show v 16 0 ≤ nI m by rw [v160]; exact Int32.le_refl _)), fun post k0 => xo_X7_day_12 (fun rec => b_t (show w 1 2 ≤ nI m by rw [S2]; exact Int32.le_refl _)), (sa_self w 1).symm, hRn, rfl⟩
  | succ d ih =>
    intro m l x v w hm hRn
    have hRn' := hRn
    obtain ⟨hg, hb, -, -, -, hmm, -⟩ := hRn'
    obtain ⟨n1, n2, n3, n4, n5, n6, v04, S0, v60, S1, v160, S2, v05, S3, L4, S5, v06, S6, v07, S7⟩ := hg
    obtain ⟨-, -, r2, -⟩ := hmm m (by omega)
    have m10 : m < 10 := by omega
    have hle : (nI nm ≤ nI m) = False := eq_false (nI_ge (by omega) (by omega))
    by_cases hD : nI t - w 1 (214 + 5 * m + 2) ≤ nI g
    · have hD' : (nI g < nI t - w 1 (214 + 5 * m + 2)) = False := eq_false (Int32.not_lt.mpr hD)
      obtain ⟨v', w', y, b1, b2, b3, b4, b5, b6⟩ := ih (m + 1) l x v w (by omega) hRn
      refine ⟨v', w', y, by omega, fun post k0 => (xs_X1_keepLateOnes_4 (fun rec => ?_)).trans (b2 post k0), fun post k0 => (xs_X7_day_12 (fun rec => ?_)).trans (b3 post k0), b4, b5, b6⟩
      · simp (disch := omega) only [sb_X1_keepLateOnes_4, v160, hle, vp_in_nI, tn_nI, v06, v05, r2, hD', nI_1, e10, b_all, not_true_eq_false, not_false_eq_true, true_implies, false_implies, and_true, true_and]
      · simp (disch := omega) only [sb_X7_day_12, t_2, t_3, t_6, S2, S3, S6, hle, q_me2 m10, eq_true hD, nI_1, e10, b_all, not_true_eq_false, not_false_eq_true, true_implies, false_implies, and_true, true_and]
        refine xo_X7_day_53 (fun rec => ?_)
        unfold sb_X7_day_53
        by_cases q : w 1 (tn 1) ≤ 0
        · exact b_t q
        · rw [b_f q]
          exact b_t rfl
    · have hD' : (nI g < nI t - w 1 (214 + 5 * m + 2)) = True := eq_true (Int32.not_le.mp hD)
      obtain ⟨v1, w1, y1, a1, a2, a3, a4, a5, a6⟩ := late_sts (m := m) m10 ns 0 l x v w (by omega) hRn
      obtain ⟨v', w', y, b1, b2, b3, b4, b5, b6⟩ := ih (m + 1) (l + y1) (x + y1) v1 w1 (by omega) a5
      refine ⟨v', w', y1 + y, by omega, fun post k0 => ?_, fun post k0 => (xs_X7_day_12 (fun rec => ?_)).trans (b3 post k0), ?_, ?_, b6.trans a6⟩
      · rw [← Nat.add_assoc]
        refine (xs_X1_keepLateOnes_4 (fun rec => ?_)).trans (b2 post k0)
        simp (disch := omega) only [sb_X1_keepLateOnes_4, v160, hle, vp_in_nI, tn_nI, v06, v05, r2, hD', nI_1, e10, b_all, not_true_eq_false, not_false_eq_true, true_implies, false_implies, and_true, true_and]
        exact a2 post (fun x1 _ v => rec x1 (nI (m + 1)) v)
      · simp (disch := omega) only [sb_X7_day_12, t_2, t_3, t_6, S2, S3, S6, hle, q_me2 m10, eq_false hD, nI_1, e10, b_all, not_true_eq_false, not_false_eq_true, true_implies, false_implies, and_true, true_and]
        exact a3 post (fun _ v => rec (nI (m + 1)) v)
      · rw [a4, sa_sa] at b4
        exact b4
      · rw [← Nat.add_assoc]
        exact b5
theorem one_day {nd ns nm t g e l : Nat} {v w : V} (hRn : Rn v (w 1) nd ns nm t g e l) (ht : t + 1 ≤ 2000) : ∃ v' w' y, y ≤ 200 ∧ (∀ (post : Int32 → V → Prop), s_X1_keepLateOnes (st v 0 5 (v 0 5 + 1)) post = post (nI y) v') ∧ (∀ (post : V → Prop), s_X7_day w post = post w') ∧ w' = sa w 1 (w' 1) ∧ Rn v' (w' 1) nd ns nm (t + 1) g e (l + y) ∧ v' 0 8 = v 0 8 := by
  have v05 : v 0 5 = nI t := hRn.1.2.2.2.2.2.2.2.2.2.2.2.2.1
  have S3 : w 1 3 = nI t := hRn.1.2.2.2.2.2.2.2.2.2.2.2.2.2.1
  have n3 : nm ≤ 10 := hRn.1.2.2.1
  have hR1 : Rn (st v 0 5 (nI (t + 1))) ((st w 1 3 (nI (t + 1))) 1) nd ns nm (t + 1) g e l := by
    rw [st1]
    exact Rn_time hRn ht
  obtain ⟨v', w', y, b1, b2, b3, b4, b5, b6⟩ := late_ms nm 0 l 0 (st v 0 5 (nI (t + 1))) (st w 1 3 (nI (t + 1))) (by omega) hR1
  rw [Nat.zero_add] at b2
  refine ⟨v', w', y, by omega, fun post => ?_, fun post => ?_, ?_, b5, ?_⟩
  · rw [v05, nI_1]
    exact b2 post (fun x _ v => post x v)
  · unfold s_X7_day
    rw [b_all, t_3, S3, nI_1]
    exact b3 post (fun _ v => post v)
  · rw [st_sa, sa_sa] at b4
    exact b4
  · rw [b6]
    simp (disch := omega) only [st1, st1n, u_s, u_n]
theorem days {nd ns nm g e D : Nat} (had : Int32) (hD : D ≤ 99) : ∀ d k t l x (v w : V), k + d = D → t + d ≤ 2000 → Rn v (w 1) nd ns nm t g e l → ∃ v' w' y, y ≤ 200 * d ∧ (∀ (post : Int32 → V → Prop) k0, (∃ n, sl_X1_passDays_33 post (nI D) k0 n (nI x) (nI k) v) = k0 (nI (x + y)) (nI D) v') ∧ (∀ (post : Int32 → V → Prop) k0, (∃ n, sl_X7_goes_39 post (nI D) had k0 n (nI k) w) = k0 (nI D) w') ∧ w' = sa w 1 (w' 1) ∧ Rn v' (w' 1) nd ns nm (t + d) g e (l + y) ∧ v' 0 8 = v 0 8 := by
  intro d
  induction d with
  | zero =>
    intro k t l x v w hk ht hRn
    obtain rfl : k = D := by omega
    exact ⟨v, w, 0, Nat.le_refl _, fun post k0 => xo_X1_passDays_33 (fun rec => b_t (Int32.le_refl _)), fun post k0 => xo_X7_goes_39 (fun rec => b_t (Int32.le_refl _)), (sa_self w 1).symm, hRn, rfl⟩
  | succ d ih =>
    intro k t l x v w hk ht hRn
    have hle : (nI D ≤ nI k) = False := eq_false (nI_ge (by omega) (by omega))
    obtain ⟨v1, w1, y1, a1, a2, a3, a4, a5, a6⟩ := one_day hRn (show t + 1 ≤ 2000 by omega)
    obtain ⟨v', w', y, b1, b2, b3, b4, b5, b6⟩ := ih (k + 1) (t + 1) (l + y1) (x + y1) v1 w1 (by omega) (by omega) a5
    refine ⟨v', w', y1 + y, by omega, fun post k0 => ?_, fun post k0 => (xs_X7_goes_39 (fun rec => ?_)).trans (b3 post k0), ?_, ?_, b6.trans a6⟩
    · rw [← Nat.add_assoc]
      refine (xs_X1_passDays_33 (fun rec => ?_)).trans (b2 post k0)
      simp only [sb_X1_passDays_33, hle, sc_st, a2, nI_add, nI_1, e10, b_all, not_true_eq_false, not_false_eq_true, true_implies, false_implies, and_true, true_and]
    · simp only [sb_X7_goes_39, hle, a3, nI_1, e10, b_all, not_true_eq_false, not_false_eq_true, true_implies, false_implies, and_true, true_and]
    · rw [a4, sa_sa] at b4
      exact b4
    · rw [show t + (d + 1) = t + 1 + d by omega, show l + (y1 + y) = l + y1 + y by omega]
      exact b5
theorem sim_pause {v w : V} (h : R v (w 1)) (x : Int32) : Sim (s_X1_passDays v x) (s_X7_goes w x) v w := by
  obtain ⟨nd, ns, nm, t, g, e, hRn⟩ := h
  have hRn' := hRn
  obtain ⟨hg, -⟩ := hRn'
  obtain ⟨n1, n2, n3, n4, n5, n6, v04, S0, v60, S1, v160, S2, v05, S3, L4, S5, v06, S6, v07, S7⟩ := hg
  rcases rng x (a := 1) (b := 99) (by omega) (by omega) with ⟨D, d1, d2, rfl⟩ | hx
  rotate_left
  · refine Sim.err bad1 (fun post => ?_) (fun post => ?_)
    · unfold s_X1_passDays
      by_cases hx1 : x < 1
      · exact b_t hx1
      · rw [b_f hx1]
        exact b_f (nle (hx.resolve_left hx1))
    · unfold s_X7_goes
      rw [q_in_f (show x < 1 ∨ 99 < x from hx)]
      exact b_t' rfl
  have f1 : (nI D < 1) = False := eq_false (ltl (n := 1) d1 (by omega))
  have f2 : (nI D ≤ 99) = True := eq_true (lel (n := 99) d2 (by omega))
  have f3 : ∀ post, s_X7_in (nI D) 1 99 post = post 1 := fun post => q_in_n (a := 1) (b := 99) d1 d2 (by omega)
  by_cases ht : t + D ≤ 2000
  · have f4 : (nI (t + D) ≤ 2000) = True := eq_true (lel (n := 2000) ht (by omega))
    obtain ⟨v', w', y, b1, b2, b3, b4, b5, b6⟩ := days (w 1 4) d2 D 0 t 0 0 v w (by omega) ht hRn
    rw [Nat.zero_add] at b2 b5
    have hret : w' 1 4 - w 1 4 = nI y := by
      have q : w' 1 4 = v' 0 8 + nI y := b5.1.2.2.2.2.2.2.2.2.2.2.2.2.2.2.1
      rw [q, L4, b6, show nI 0 = 0 from rfl, Int32.add_zero, Int32.add_comm, Int32.add_sub_cancel]
    refine Sim.mk (v' := st v' 0 8 (v' 0 8 + nI y)) (w' := w') (r := nI y) (fun post => ?_) (fun post => ?_) b4 (n_neg (by omega)) ⟨nd, ns, nm, t + D, g, e, Rn_end b5⟩
    · simp only [s_X1_passDays, f1, f2, v05, nI_add, f4, e10, b_all, not_true_eq_false, not_false_eq_true, true_implies, false_implies, and_true, true_and]
      refine (b2 post (fun x2 _ v8 => post x2 (sc v8 0 8 ((v8 0 8) + x2)))).trans ?_
      rw [sc_st]
    · simp only [s_X7_goes, f3, t_3, t_4, S3, nI_add, f4, e10, b_all, not_true_eq_false, not_false_eq_true, true_implies, false_implies, and_true, true_and]
      refine (b3 post (fun _ v6 => post ((v6 1 4) - (w 1 4)) v6)).trans ?_
      rw [hret]
  · have f4 : (nI (t + D) ≤ 2000) = False := eq_false (gtl (n := 2000) (by omega) (by omega))
    refine Sim.err bad3 (fun post => ?_) (fun post => ?_)
    · simp only [s_X1_passDays, f1, f2, v05, nI_add, f4, e10, b_all, not_true_eq_false, not_false_eq_true, true_implies, false_implies, and_true, true_and]
    · simp only [s_X7_goes, f3, t_3, S3, nI_add, f4, e10, b_all, not_true_eq_false, not_false_eq_true, true_implies, false_implies, and_true, true_and]
