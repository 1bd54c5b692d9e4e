/-! PURE 32: fault, play -/
theorem Tr.tx {p w : V} {n : Nat} {c : Nat → Nat} (h : Tr p w n c) : TX p w := by
  obtain ⟨h1, h2, h3, h4, h5⟩ := h
  refine ⟨n, h1, h2, h3, fun i hi => ?_⟩
  obtain ⟨e1, e2, e3, e4⟩ := h4 i hi
  exact ⟨e1.trans e2.symm, c i, e3, e4, e2⟩
theorem runs {p x w : V} {n : Nat} {c : Nat → Nat} (hT : Tr p w n c) (hR : R x (w 1)) : ∃ p' x' w' k' g, (∀ post : Int32 → V → V → Prop, s_X4_runOn p x post = post (nI k') p' x') ∧ (∀ post : Int32 → V → Prop, s_X7_does w post = post g w') ∧ End p' w' k' g ∧ k' ≤ 60 ∧ R x' (w' 1) ∧ Tr p' w' n c ∧ sW w' w := by
  have hs : sW (st (st w 0 8 0) 0 9 0) w := (sW.s9 _ _).tr (sameW.s8 w 0).w
  have hp : sameP (st p 0 5 (-1)) (st p 0 5 (-1)) := sameP.rf _
  obtain ⟨p', x', w', k', g, h1, h2, h3, h4, h5, h6, h7⟩ := run n 0 0 (st p 0 5 (-1)) x (st (st w 0 8 0) 0 9 0) (by omega) (Nat.le_refl _) (Nat.zero_le _) (hT.w (st1n (by decide)) (by rw [st1, u_n (by decide)]) hs) (by rw [st1n (by decide), st1n (by decide)]; exact hR) (by rw [st1, u_n (by decide), st1, u_s]; rfl) (by rw [st1, u_s]; rfl) (by rw [st1, u_s])
  refine ⟨p', x', w', k', g, fun post => ?_, fun post => ?_, h3, h4, h5, h6, h7.tr hs⟩
  · unfold s_X4_runOn
    rw [b_all, sc_st]
    exact h1 post
  · unfold s_X7_does
    rw [b_all, b_all, sc_st, sc_st]
    exact h2 post
theorem bg_Tr {p w : V} {n : Nat} {c : Nat → Nat} (h : Tr p w n c) : Tr p (bg w) n c := by
  obtain ⟨h1, h2, h3, h4, h5⟩ := h
  refine ⟨h1, h2, ?_, fun i hi => ?_, h5⟩
  · rw [bg_n (by decide)]
    exact h3
  · rw [bg_n (by decide)]
    exact h4 i hi
/-- back where it began -/
theorem LI_back {G x s H a b c d p p' w w' : V} {n : Nat} {cc : Nat → Nat} (hL : LI G x s H a b c d p w) (hT : Tr p' w' n cc) (hs : sW w' (bg w)) : LI G x s H a b c d p' (fO w' 1 0 (w' 2) 664) := by
  obtain ⟨hR, hH, hS, -⟩ := hL
  have f0 : (fO w' 1 0 (w' 2) 664) 0 = w' 0 := fO_ne (by decide)
  refine ⟨?_, HR_c hH ?_ ?_, SN_c hS ?_ ?_, TX_c hT.tx ?_ ?_⟩
  · refine R_s hR (fun j hj => ?_)
    rw [fO_at, if_pos (by omega), Nat.sub_zero, hs.1 2 (by decide) (by decide), bg_2 w hj]
  · rw [f0, hs.2 5 (by decide) (by decide) (by decide) (by decide), bg_n (by decide)]
  · rw [fO_ne (by decide), hs.1 4 (by decide) (by decide), bg_n (by decide)]
  · rw [f0, hs.2 3 (by decide) (by decide) (by decide) (by decide), bg_n (by decide)]
  · rw [fO_ne (by decide), hs.1 3 (by decide) (by decide), bg_n (by decide)]
  · rw [f0]
  · rw [fO_ne (by decide)]
theorem law_fault {G x y s H a b c d p w : V} (hL : LI G x s H a b c d p w) (u : Int32) : ∃ r y' p' w', (∀ post, s_X6_fault G x y p u post = post r G x y' p') ∧ (∀ post, s_X7_fault w u post = post r w') ∧ LI G x s H a b c d p' w' := by
  rcases rng u (a := 0) (b := 2) (by omega) (by omega) with ⟨v, -, hv2, rfl⟩ | hu
  rotate_left
  · refine ⟨-10000001, y, p, w, fun post => ?_, fun post => ?_, hL⟩
    · unfold s_X6_fault
      by_cases hu1 : u < 0
      · exact b_t hu1
      · rw [b_f hu1]
        exact b_f (nle (hu.resolve_left hu1))
    · unfold s_X7_fault
      rw [q_in_f (show u < 0 ∨ 2 < u from hu)]
      exact b_t' rfl
  have f1 : ¬ nI v < 0 := n_neg (by omega)
  have f2 : nI v ≤ 2 := lel (n := 2) hv2 (by omega)
  have f3 : ∀ post, s_X7_in (nI v) 0 2 post = post 1 := fun post => q_in_n (a := 0) (b := 2) (by omega) hv2 (by omega)
  obtain ⟨n, cc, hT⟩ := Tr.of hL.2.2.2
  obtain ⟨p', x', w', k', g, h1, h2, h3, h4, h5, h6, h7⟩ := runs (x := cpM y x) (bg_Tr hT) (bg_R (R_v hL.1 (Ag_copy y x)))
  have f0 : ∀ j, (fO w' 1 0 (w' 2) 664) 0 j = w' 0 j := fun j => by rw [fO_ne (by decide)]
  have hc : ∀ post, s_X6_fault G x y p (nI v) post = s_X4_tellFault p' (nI v) (fun r6 v7 => post r6 G x x' v7) := fun post => by
    unfold s_X6_fault
    rw [b_f f1, b_t f2, k_copy, h1]
  have hr : ∀ post, s_X7_fault w (nI v) post = ((g < 0 → (post (-10000004) (fO w' 1 0 (w' 2) 664))) ∧ (¬ g < 0 → ((nI v < 2 → ((¬ nI v = 0 → ((¬ nI v = 1 → (post (w' 0 10) (fO w' 1 0 (w' 2) 664))) ∧ (nI v = 1 → (((w' 0 11) = 0 → post 1 (fO w' 1 0 (w' 2) 664)) ∧ (¬ (w' 0 11) = 0 → post 2 (fO w' 1 0 (w' 2) 664)))))) ∧ (nI v = 0 → post g (fO w' 1 0 (w' 2) 664)))) ∧ (¬ nI v < 2 → (((w' 0 11) = 0 → (post (-10000004) (fO w' 1 0 (w' 2) 664))) ∧ (¬ (w' 0 11) = 0 → ((¬ nI v = 0 → ((¬ nI v = 1 → (post (w' 0 10) (fO w' 1 0 (w' 2) 664))) ∧ (nI v = 1 → (((w' 0 11) = 0 → post 1 (fO w' 1 0 (w' 2) 664)) ∧ (¬ (w' 0 11) = 0 → post 2 (fO w' 1 0 (w' 2) 664)))))) ∧ (nI v = 0 → post g (fO w' 1 0 (w' 2) 664))))))))) := fun post => by
    unfold s_X7_fault
    rw [f3, b_f' z10, q_begins]
    refine (h2 _).trans ?_
    rw [q_returns, f0, f0]
  have hLI := LI_back hL h6 h7
  have hv : v = 0 ∨ v = 1 ∨ v = 2 := by omega
  rcases h3 with ⟨e1, rfl, e3⟩ | ⟨i, hi, e1, rfl, ⟨e2, e3, e4⟩ | ⟨e2, e3, e4⟩⟩
  · refine ⟨-10000004, x', p', _, fun post => ?_, fun post => ?_, hLI⟩
    · rw [hc]
      unfold s_X4_tellFault
      rw [e1, b_t' rfl]
    · rw [hr]
      exact b_t (by decide)
  · have hi0 : ¬ nI i < 0 := n_neg (by omega)
    have him : ¬ nI i = -1 := n_m1 (by omega)
    rcases hv with rfl | rfl | rfl
    · refine ⟨nI i, x', p', _, fun post => ?_, fun post => ?_, hLI⟩
      · rw [hc]
        unfold s_X4_tellFault
        rw [e1, b_f' him, b_t' (show nI 0 = 0 from rfl)]
      · rw [hr, b_f hi0, b_t (show nI 0 < 2 by decide), b_t' (show nI 0 = 0 from rfl)]
    · refine ⟨1, x', p', _, fun post => ?_, fun post => ?_, hLI⟩
      · rw [hc]
        unfold s_X4_tellFault
        rw [e1, b_f' him, b_f' (show ¬ nI 1 = 0 by decide), b_t' (show nI 1 = 1 from rfl), e2]
      · rw [hr, b_f hi0, b_t (show nI 1 < 2 by decide), b_f' (show ¬ nI 1 = 0 by decide), b_t' (show nI 1 = 1 from rfl), b_t e4]
    · refine ⟨-10000004, x', p', _, fun post => ?_, fun post => ?_, hLI⟩
      · rw [hc]
        unfold s_X4_tellFault
        rw [e1, b_f' him, b_f' (show ¬ nI 2 = 0 by decide), b_f' (show ¬ nI 2 = 1 by decide), e3]
      · rw [hr, b_f hi0, b_f (show ¬ nI 2 < 2 by decide), b_t e4]
  · have hi0 : ¬ nI i < 0 := n_neg (by omega)
    have him : ¬ nI i = -1 := n_m1 (by omega)
    have e4' : ¬ w' 0 11 = 0 := by
      rw [e4]
      exact z10
    rcases hv with rfl | rfl | rfl
    · refine ⟨nI i, x', p', _, fun post => ?_, fun post => ?_, hLI⟩
      · rw [hc]
        unfold s_X4_tellFault
        rw [e1, b_f' him, b_t' (show nI 0 = 0 from rfl)]
      · rw [hr, b_f hi0, b_t (show nI 0 < 2 by decide), b_t' (show nI 0 = 0 from rfl)]
    · refine ⟨2, x', p', _, fun post => ?_, fun post => ?_, hLI⟩
      · rw [hc]
        unfold s_X4_tellFault
        rw [e1, b_f' him, b_f' (show ¬ nI 1 = 0 by decide), b_t' (show nI 1 = 1 from rfl), e2]
      · rw [hr, b_f hi0, b_t (show nI 1 < 2 by decide), b_f' (show ¬ nI 1 = 0 by decide), b_t' (show nI 1 = 1 from rfl), b_f e4']
    · refine ⟨w' 0 10, x', p', _, fun post => ?_, fun post => ?_, hLI⟩
      · rw [hc]
        unfold s_X4_tellFault
        rw [e1, b_f' him, b_f' (show ¬ nI 2 = 0 by decide), b_f' (show ¬ nI 2 = 1 by decide), e3]
      · rw [hr, b_f hi0, b_f (show ¬ nI 2 < 2 by decide), b_f e4', b_f' (show ¬ nI 2 = 0 by decide), b_f' (show ¬ nI 2 = 1 by decide)]
theorem law_play {G x y s H a b c d p w : V} (hL : LI G x s H a b c d p w) : ∃ r x1 y' H' a' b' c' d' p' w', (∀ post, s_X6_play G x y H a b c d p post = post r G x1 y' H' a' b' c' d' p') ∧ (∀ post, s_X7_play w post = post r w') ∧ LI G x1 s H' a' b' c' d' p' w' := by
  obtain ⟨n, cc, hT⟩ := Tr.of hL.2.2.2
  obtain ⟨p', x', w', k', g, h1, h2, h3, h4, h5, h6, h7⟩ := runs (x := cpM y x) (bg_Tr hT) (bg_R (R_v hL.1 (Ag_copy y x)))
  have hq : ∀ post, s_X7_play w post = ((0 ≤ g → (s_X7_acted w' (-10000002) post)) ∧ (¬ 0 ≤ g → (s_X7_acted w' (w' 0 9) post))) := fun post => by
    unfold s_X7_play
    rw [q_begins]
    exact h2 _
  rcases h3 with ⟨e1, rfl, e3⟩ | ⟨i, hi, e1, rfl, -⟩
  · have hH' : HR H a b c d w' := HR_c hL.2.1 (by rw [h7.2 5 (by decide) (by decide) (by decide) (by decide), bg_n (by decide)]) (by rw [h7.1 4 (by decide) (by decide), bg_n (by decide)])
    have hx : R x (w' 2) := R_s hL.1 (fun j hj => by rw [h7.1 2 (by decide) (by decide), bg_2 w hj])
    have hk0 : ¬ nI k' < 0 := n_neg (by omega)
    obtain ⟨H', a', b', c', d', w2, r1, r2, r3, r4, r5⟩ := record hH' hx (low_of hk0)
    refine ⟨nI k', cpM x x', x', H', a', b', c', d', p', w2, fun post => ?_, fun post => ?_, ?_, r3, SN_c hL.2.2.1 ?_ ?_, TX_c h6.tx ?_ ?_⟩
    · unfold s_X6_play s_X4_hasFault
      rw [k_copy, h1, e1, b_t rfl]
      refine (b_t rfl).trans ?_
      rw [r1, k_copy]
    · rw [hq, b_f (by decide), e3, r2]
    · rw [r4 1 (by decide) (by decide)]
      exact R_v h5 (Ag_copy x x')
    · rw [r5 3 (by decide), h7.2 3 (by decide) (by decide) (by decide) (by decide), bg_n (by decide)]
    · rw [r4 3 (by decide) (by decide), h7.1 3 (by decide) (by decide), bg_n (by decide)]
    · rw [r5 7 (by decide)]
    · rw [r4 5 (by decide) (by decide)]
  · have him : ¬ nI i = -1 := n_m1 (by omega)
    refine ⟨-10000002, x, x', H, a, b, c, d, p', _, fun post => ?_, fun post => ?_, LI_back hL h6 h7⟩
    · unfold s_X6_play s_X4_hasFault
      rw [k_copy, h1, e1, b_f him]
      exact b_f z10
    · rw [hq, b_t (nI_pos' (by omega)), q_act_err (by decide)]
