/-! PURE 31: the text: the run -/
def FKd (post : Int32 → V → Prop) (rec : V → Prop) (a : Int32) (r5 : Int32) (v : V) : Prop := ((v 0 11) = 0 → (((st v 0 10 0) 0 11 = 0 → post a (st v 0 10 0)) ∧ (¬ (st v 0 10 0) 0 11 = 0 → ((-10000001 < (st v 0 10 0) 0 10 → rec (st (st v 0 10 0) 0 9 ((st v 0 10 0) 0 9 + 1))) ∧ (¬ -10000001 < (st v 0 10 0) 0 10 → post a (st v 0 10 0)))))) ∧ (¬ (v 0 11) = 0 → s_X7_called v r5 (fun r u => ((st u 0 10 r) 0 11 = 0 → post a (st u 0 10 r)) ∧ (¬ (st u 0 10 r) 0 11 = 0 → ((-10000001 < (st u 0 10 r) 0 10 → rec (st (st u 0 10 r) 0 9 ((st u 0 10 r) 0 9 + 1))) ∧ (¬ -10000001 < (st u 0 10 r) 0 10 → post a (st u 0 10 r))))))
theorem does_eq (w : V) (post : Int32 → V → Prop) (k0 rec : V → Prop) : sb_X7_does_10 post k0 rec w = ((w 0 7 ≤ w 0 8 → k0 w) ∧ (¬ w 0 7 ≤ w 0 8 → rfW w post (w 0 8) (FKd post rec (w 0 8)))) := by
  unfold sb_X7_does_10 rfW FKd
  simp only [forall_eq, sc_st]
theorem FKd_bad {w : V} {post : Int32 → V → Prop} {rec : V → Prop} {a F : Int32} (h : w 0 11 = 0) : FKd post rec a F w = post a (st w 0 10 0) := by
  unfold FKd
  rw [b_t h, st1, u_n (by decide), b_t h]
theorem FKd_ok {w : V} {post : Int32 → V → Prop} {rec : V → Prop} {a F r : Int32} {S' : Nat → Int32} (h : w 0 11 = 1) (hc : ∀ post, s_X7_called w F post = post r (sa w 1 S')) : (-10000001 < r → FKd post rec a F w = rec (st (st (sa w 1 S') 0 10 r) 0 9 (w 0 9 + 1))) ∧ (¬ -10000001 < r → FKd post rec a F w = post a (st (sa w 1 S') 0 10 r)) := by
  have e11 : (st (sa w 1 S') 0 10 r) 0 11 = 1 := by
    rw [st1, u_n (by decide), sa_n (by decide)]
    exact h
  have e10' : (st (sa w 1 S') 0 10 r) 0 10 = r := by rw [st1, u_s]
  have e9 : (st (sa w 1 S') 0 10 r) 0 9 = w 0 9 := by rw [st1, u_n (by decide), sa_n (by decide)]
  constructor
  · intro hr
    unfold FKd
    rw [h, b_f z10, hc, e11, b_f z10, e10', b_t hr, e9]
  · intro hr
    unfold FKd
    rw [h, b_f z10, hc, e11, b_f z10, e10', b_f hr]
def sW (w' w : V) : Prop := (∀ q, 2 ≤ q → q ≤ 5 → w' q = w q) ∧ ∀ j, j ≠ 8 → j ≠ 9 → j ≠ 10 → j ≠ 11 → w' 0 j = w 0 j
theorem sW.tr {a b c : V} (h1 : sW a b) (h2 : sW b c) : sW a c := ⟨fun q x y => (h1.1 q x y).trans (h2.1 q x y), fun j a b c d => (h1.2 j a b c d).trans (h2.2 j a b c d)⟩
theorem sameW.w {a b : V} (h : sameW a b) : sW a b := ⟨fun q x y => h.1 q (by omega) y, fun j a _ _ d => h.2 j a d⟩
theorem sW.s10 (w : V) (x : Int32) : sW (st w 0 10 x) w := ⟨fun q _ _ => st1n (by omega), fun j _ _ h _ => by rw [st1, u_n h]⟩
theorem sW.s9 (w : V) (x : Int32) : sW (st w 0 9 x) w := ⟨fun q _ _ => st1n (by omega), fun j _ h _ _ => by rw [st1, u_n h]⟩
theorem sW.s1 (w : V) (S : Nat → Int32) : sW (sa w 1 S) w := ⟨fun q _ _ => sa_n (by omega), fun j _ _ _ _ => by rw [sa_n (by decide)]⟩
theorem Tr.w {p p' w w' : V} {n : Nat} {c : Nat → Nat} (h : Tr p w n c) (hp1 : p' 1 = p 1) (hp : p' 0 1 = p 0 1) (hw : sW w' w) : Tr p' w' n c := by
  obtain ⟨h1, h2, h3, h4, h5⟩ := h
  refine ⟨h1, hp.trans h2, (hw.2 7 (by decide) (by decide) (by decide) (by decide)).trans h3, fun i hi => ?_, h5⟩
  rw [hp1, hw.1 5 (by decide) (by decide)]
  exact h4 i hi
/-- where a run ends: no fault, or a fault and what is told of it -/
def End (p' w' : V) (n k : Nat) (g : Int32) : Prop := (p' 0 5 = -1 ∧ g = -1 ∧ w' 0 9 = nI k ∧ 7 * k ≤ n) ∨ (∃ i, i < n ∧ p' 0 5 = nI i ∧ g = nI i ∧ ((p' 0 6 = 1 ∧ p' 0 7 = -10000004 ∧ w' 0 11 = 0) ∨ (p' 0 6 = 2 ∧ p' 0 7 = w' 0 10 ∧ w' 0 11 = 1 ∧ bad (p' 0 7))))
theorem run {n : Nat} {c : Nat → Nat} : ∀ d i k (p x w : V), n - i ≤ d → 7 * k ≤ i → i ≤ n → Tr p w n c → R x (w 1) → w 0 8 = nI i → w 0 9 = nI k → p 0 5 = -1 → ∃ p' x' w' k' g, (∀ post : Int32 → V → V → Prop, (∃ m, sl_X4_runOn_9 post (fun _ x3 v v1 => post x3 v v1) m (nI i) (nI k) p x) = post (nI k') p' x') ∧ (∀ post : Int32 → V → Prop, (∃ m, sl_X7_does_10 post (fun v => post (-1) v) m w) = post g w') ∧ End p' w' n k' g ∧ k' ≤ 60 ∧ R x' (w' 1) ∧ Tr p' w' n c ∧ sW w' w := by
  intro d
  induction d with
  | zero =>
    intro i k p x w hd hki hin hT hR h8 h9 h5
    obtain rfl : i = n := by omega
    have hn60 : i ≤ 60 := hT.1
    refine ⟨p, x, w, k, -1, fun post => xo_X4_runOn_9 (fun rec => ?_), fun post => xo_X7_does_10 (fun rec => ?_), Or.inl ⟨h5, rfl, h9, by omega⟩, by omega, hR, hT, ⟨fun _ _ _ => rfl, fun _ _ _ _ _ => rfl⟩⟩
    · unfold sb_X4_runOn_9
      rw [hT.2.1]
      exact b_t (Int32.le_refl _)
    · rw [does_eq, hT.2.2.1, h8]
      exact b_t (Int32.le_refl _)
  | succ d ih =>
    intro i k p x w hd hki hin hT hR h8 h9 h5
    have hn60 : n ≤ 60 := hT.1
    by_cases hi : i < n
    rotate_left
    · exact ih i k p x w (by omega) hki hin hT hR h8 h9 h5
    have e1 : ¬ p 0 1 ≤ nI i := by
      rw [hT.2.1]
      exact nI_ge (by omega) (by omega)
    have e2 : ¬ (60 : Int32) ≤ nI k := nI_ge (b := 60) (by omega) (by omega)
    have e3 : ¬ w 0 7 ≤ w 0 8 := by
      rw [hT.2.2.1, h8]
      exact nI_ge (by omega) (by omega)
    rcases cmd hT hi h8 with ⟨q, p1, w1, e, hq, a1, a2, a3, a4, a5, a6, a7, a8, a9, a10, a11⟩ | ⟨p1, w1, F, a1, a2, a3, a4, a5⟩
    · have hT1 : Tr p1 w1 n c := hT.w a3.1 (a3.2 1 (by decide) (by decide)) a4.w
      have hR1 : R x (w1 1) := by
        rw [a4.1 1 (by decide) (by decide)]
        exact hR
      have h91 : w1 0 9 = nI k := (a4.2 9 (by decide) (by decide)).trans h9
      have h51 : p1 0 5 = -1 := (a3.2 5 (by decide) (by decide)).trans h5
      obtain ⟨r, x', S', b1, b2, b3⟩ := don hq hR1 a5 a11
      obtain ⟨g1, g2⟩ := FKd_ok (a := nI i) (F := nI (q + 1)) a8 b2 (post := fun _ _ => True) (rec := fun _ => True)
      rcases b3 with ⟨b3, b4⟩ | ⟨b3, b4, b5⟩
      · have hsW : sW (st (st (sa w1 1 S') 0 10 r) 0 9 (nI (k + 1))) w := (((sW.s9 _ _).tr (sW.s10 _ _)).tr (sW.s1 _ _)).tr a4.w
        obtain ⟨p', x2, w', k', g, c1, c2, c3, c4, c5, c6, c7⟩ := ih e (k + 1) p1 x' (st (st (sa w1 1 S') 0 10 r) 0 9 (nI (k + 1))) (by omega) (by omega) a10 (hT.w a3.1 (a3.2 1 (by decide) (by decide)) hsW) (by rw [st1n (by decide), st1n (by decide), sa_1]; exact b4) (by rw [st1, u_n (by decide), st1, u_n (by decide), sa_n (by decide)]; exact a7) (by rw [st1, u_s]) h51
        refine ⟨p', x2, w', k', g, fun post => (xs_X4_runOn_9 (fun rec => ?_)).trans (c1 post), fun post => (xs_X7_does_10 (fun rec => ?_)).trans (c2 post), c3, c4, c5, c6, c7.tr hsW⟩
        · unfold sb_X4_runOn_9
          rw [b_f e1, b_f e2, a1, b_f' z10, b1, b_t (show 0 ≤ r from Int32.not_lt.mp b3), a6, nI_1]
        · rw [does_eq, b_f e3, h8, a2, (FKd_ok a8 b2).1 (low_of b3), h91, nI_1]
      · subst b4
        subst b5
        have hsW : sW (st (sa w1 1 (w1 1)) 0 10 r) w := ((sW.s10 _ _).tr (sW.s1 _ _)).tr a4.w
        refine ⟨st (st (st p1 0 5 (nI i)) 0 6 2) 0 7 r, x', st (sa w1 1 (w1 1)) 0 10 r, k, nI i, fun post => xo_X4_runOn_9 (fun rec => ?_), fun post => xo_X7_does_10 (fun rec => ?_), Or.inr ⟨i, hi, ?_, rfl, Or.inr ⟨?_, ?_, ?_, ?_⟩⟩, by omega, ?_, hT.w ?_ ?_ hsW, hsW⟩
        · unfold sb_X4_runOn_9 s_X4_putFault
          rw [b_f e1, b_f e2, a1, b_f' z10, b1, b_f (show ¬ 0 ≤ r from Int32.not_le.mpr b3.1)]
          simp only [forall_eq, sc_st]
        · rw [does_eq, b_f e3, h8, a2, (FKd_ok a8 b2).2 b3.2.1]
        · simp (disch := omega) only [st1, u_s, u_n]
        · simp (disch := omega) only [st1, u_s, u_n]
        · simp (disch := omega) only [st1, u_s, u_n]
        · simp (disch := omega) only [st1, u_s, u_n, sa_n]
          exact a8
        · simp (disch := omega) only [st1, u_s, u_n]
          exact b3
        · rw [st1n (by decide), sa_1]
          exact hR1
        · simp (disch := omega) only [st1n]
          exact a3.1
        · simp (disch := omega) only [st1, u_s, u_n]
          exact a3.2 1 (by decide) (by decide)
    · have hsW : sW (st w1 0 10 0) w := (sW.s10 _ _).tr a4.w
      refine ⟨st (st (st p1 0 5 (nI i)) 0 6 1) 0 7 (-10000004), x, st w1 0 10 0, k, nI i, fun post => xo_X4_runOn_9 (fun rec => ?_), fun post => xo_X7_does_10 (fun rec => ?_), Or.inr ⟨i, hi, ?_, rfl, Or.inl ⟨?_, ?_, ?_⟩⟩, by omega, ?_, hT.w ?_ ?_ hsW, hsW⟩
      · unfold sb_X4_runOn_9 s_X4_putFault
        rw [b_f e1, b_f e2, a1, b_t' rfl]
        simp only [forall_eq, sc_st]
      · rw [does_eq, b_f e3, h8, a2, FKd_bad a5]
      · simp (disch := omega) only [st1, u_s, u_n]
      · simp (disch := omega) only [st1, u_s, u_n]
      · simp (disch := omega) only [st1, u_s, u_n]
      · simp (disch := omega) only [st1, u_s, u_n]
        exact a5
      · rw [st1n (by decide), a4.1 1 (by decide) (by decide)]
        exact hR
      · simp (disch := omega) only [st1n]
        exact a3.1
      · simp (disch := omega) only [st1, u_s, u_n]
        exact a3.2 1 (by decide) (by decide)
