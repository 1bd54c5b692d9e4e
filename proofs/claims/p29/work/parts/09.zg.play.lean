/-! PURE 32: fault, play -/
theorem Tr.tx {p w : V} {n : Nat} {c : Nat → Nat} (h : Tr p w n c) : TX p w := by
  obtain ⟨h1, h2, h3, h4, h5⟩ := h
  refine ⟨n, h1, h2, h3, fun i hi => ?_⟩
  obtain ⟨e1, e2, e3, e4⟩ := h4 i hi
  exact ⟨e1.trans e2.symm, c i, e3, e4, e2⟩
theorem runs {p x w : V} {n : Nat} {c : Nat → Nat} (hT : Tr p w n c) (hR : R x (w 1)) : ∃ p' x' w' k' g, (∀ post : Int32 → V → V → Prop, s_X4_runOn p x post = post (nI k') p' x') ∧ (∀ post : Int32 → V → Prop, s_X7_does w post = post g w') ∧ End p' w' n k' g ∧ k' ≤ 60 ∧ R x' (w' 1) ∧ Tr p' w' n c ∧ sW w' w := by
  have hs : sW (st (st w 0 8 0) 0 9 0) w := (sW.s9 _ _).tr (sameW.s8 w 0).w
  have hp : sameP (st p 0 5 (-1)) (st p 0 5 (-1)) := sameP.rf _
  obtain ⟨p', x', w', k', g, h1, h2, h3, h4, h5, h6, h7⟩ := run n 0 0 (st p 0 5 (-1)) x (st (st w 0 8 0) 0 9 0) (by omega) (Nat.le_refl _) (Nat.zero_le _) (hT.w (st1n (by decide)) (by rw [st1, u_n (by decide)]) hs) (by rw [st1n (by decide), st1n (by decide)]; exact hR) (by rw [st1, u_n (by decide), st1, u_s]; rfl) (by rw [st1, u_s]; rfl) (by rw [st1, u_s])
  refine ⟨p', x', w', k', g, fun post => ?_, fun post => ?_, h3, h4, h5, h6, h7.tr hs⟩
  · unfold s_X4_runOn
    rw [b_all, sc_st]
    exact h1 post
  · unfold s_X7_does
    rw [b_all, b_all, sc_st, sc_st]
    exact h2 post
