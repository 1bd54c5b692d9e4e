/-! PURE 26: the text: the form of a command's numbers -/
def sameP (p' p : V) : Prop := p' 1 = p 1 ∧ ∀ q, q ≠ 4 → p' 0 q = p 0 q
def sameW (w' w : V) : Prop := (∀ q, 1 ≤ q → q ≤ 5 → w' q = w q) ∧ ∀ q, q ≠ 8 → q ≠ 11 → w' 0 q = w 0 q
theorem sameP.tr {a b c : V} (h1 : sameP a b) (h2 : sameP b c) : sameP a c := ⟨h1.1.trans h2.1, fun q hq => (h1.2 q hq).trans (h2.2 q hq)⟩
theorem sameW.tr {a b c : V} (h1 : sameW a b) (h2 : sameW b c) : sameW a c := ⟨fun q a b => (h1.1 q a b).trans (h2.1 q a b), fun q a b => (h1.2 q a b).trans (h2.2 q a b)⟩
theorem sameP.rf (p : V) : sameP p p := ⟨rfl, fun _ _ => rfl⟩
theorem sameW.rf (p : V) : sameW p p := ⟨fun _ _ _ => rfl, fun _ _ _ => rfl⟩
theorem sameP.s2 (p : V) (k : Nat) (x : Int32) : sameP (st p 2 k x) p := ⟨st1n (by decide), fun q _ => by rw [st1n (by decide)]⟩
theorem sameP.s4 (p : V) (x : Int32) : sameP (st p 0 4 x) p := ⟨st1n (by decide), fun q hq => by rw [st1, u_n hq]⟩
theorem sameW.s6 (w : V) (k : Nat) (x : Int32) : sameW (st w 6 k x) w := ⟨fun q _ _ => st1n (by omega), fun q _ _ => by rw [st1n (by decide)]⟩
theorem sameW.s8 (w : V) (x : Int32) : sameW (st w 0 8 x) w := ⟨fun q _ _ => st1n (by omega), fun q h _ => by rw [st1, u_n h]⟩
theorem sameW.s11 (w : V) (x : Int32) : sameW (st w 0 11 x) w := ⟨fun q _ _ => st1n (by omega), fun q _ h => by rw [st1, u_n h]⟩
theorem Tr.same {p p' w w' : V} {n : Nat} {c : Nat → Nat} (h : Tr p w n c) (hp : sameP p' p) (hw : sameW w' w) : Tr p' w' n c := by
  obtain ⟨h1, h2, h3, h4, h5⟩ := h
  refine ⟨h1, (hp.2 1 (by decide)).trans h2, (hw.2 7 (by decide) (by decide)).trans h3, fun i hi => ?_, h5⟩
  rw [hp.1, hw.1 5 (by decide) (by decide)]
  exact h4 i hi
theorem vlN_lt (c : Nat → Nat) : ∀ K i a, (∀ j, j < K → c (i + j) ≤ 57) → vlN c K i a < (a + 1) * 10 ^ K
  | 0, i, a, _ => by
    rw [vlN]
    omega
  | K + 1, i, a, h => by
    have h0 := h 0 (by omega)
    rw [Nat.add_zero] at h0
    have := vlN_lt c K (i + 1) (10 * a + (c i - 48)) (fun j hj => by
      rw [show i + 1 + j = i + (j + 1) by omega]
      exact h (j + 1) (by omega))
    rw [vlN]
    refine Nat.lt_of_lt_of_le this ?_
    rw [Nat.pow_succ, Nat.mul_comm (10 ^ K) 10, ← Nat.mul_assoc]
    exact Nat.mul_le_mul_right _ (by omega)
/-- the form is broken: the rest is passed over -/
theorem form_brk {p : V} {n M i : Nat} {c : Nat → Nat} {F a : Int32} (hM : M ≤ 4) (hW : ∀ post, s_X7_wants F post = post (nI M)) (hi : i < 100000) : ∀ r j (w : V), j + r = M → Tr p w n c → w 0 8 = nI i → w 0 11 = 0 → ∃ w', (∀ (post : Int32 → V → Prop) FK, (∃ m, sl_X7_does_49 post a F (fun _ v16 => s_X7_takesSign v16 59 FK) m (nI j) w) = FK w') ∧ sameW w' w ∧ w' 0 11 = 0 := by
  intro r
  induction r with
  | zero =>
    intro j w hj h h8 h11
    obtain rfl : j = M := by omega
    refine ⟨st w 0 11 0, fun post FK => xo_X7_does_49 (fun rec => ?_), sameW.s11 w 0, by rw [st1, u_s]⟩
    unfold sb_X7_does_49
    rw [hW, b_t (Int32.le_refl _)]
    exact q_sign_f (d := 59) h hi h8 (Or.inl h11) (by omega) (by omega)
  | succ r ih =>
    intro j w hj h h8 h11
    have hA := h.same (sameP.rf p) (sameW.s11 w 0)
    have hA8 : (st w 0 11 0) 0 8 = nI i := by
      rw [st1, u_n (by decide)]
      exact h8
    have hA11 : (st w 0 11 0) 0 11 = 0 := by rw [st1, u_s]
    have hs : sameW (st (st (st w 0 11 0) 0 11 0) 6 j 0) w := ((sameW.s6 _ _ _).tr (sameW.s11 _ _)).tr (sameW.s11 _ _)
    obtain ⟨w', h1, h2, h3⟩ := ih (j + 1) (st (st (st w 0 11 0) 0 11 0) 6 j 0) (by omega) (h.same (sameP.rf p) hs) (by rw [st1n (by decide), st1, u_n (by decide)]; exact hA8) (by rw [st1n (by decide), st1, u_s])
    refine ⟨w', fun post FK => (xs_X7_does_49 (fun rec => ?_)).trans (h1 post FK), h2.tr hs, h3⟩
    unfold sb_X7_does_49
    rw [hW, b_f (nI_ge (by omega) (by omega))]
    refine (q_sign_f (d := 32) h hi h8 (Or.inl h11) (by omega) (by omega)).trans ?_
    rw [q_num_f hA hi hA8 (Or.inl hA11), b_and (vp_in_nI (by omega) (by decide)), b_all, tn_nI (by omega), nI_1]
/-- the numbers of a command, a blank ahead of each, and the sign behind the last -/
theorem form_num {n M : Nat} {c : Nat → Nat} {F a : Int32} (hM : M ≤ 4) (hW : ∀ post, s_X7_wants F post = post (nI M)) : ∀ r j i (p w : V), j + r = M → Tr p w n c → i ≤ 100 → w 0 8 = nI i → w 0 11 = 1 →
  (∃ p' w' e, (∀ post : Int32 → V → Prop, (∃ m, sl_X4_readNumbers_5 post (nI M) (fun x3 _ v15 => s_X4_signAt (st v15 0 4 (x3 + 1)) x3 (fun r17 v18 => (¬ r17 = 59 → post 0 v18) ∧ (r17 = 59 → post 1 v18))) m (nI i) (nI j) p) = post 1 p') ∧ (∀ (post : Int32 → V → Prop) FK, (∃ m, sl_X7_does_49 post a F (fun _ v16 => s_X7_takesSign v16 59 FK) m (nI j) w) = FK w') ∧ sameP p' p ∧ sameW w' w ∧ p' 0 4 = nI e ∧ w' 0 8 = nI e ∧ w' 0 11 = 1 ∧ i + 2 * r + 1 ≤ e ∧ e ≤ n ∧ (∀ k, k < j → p' 2 k = p 2 k ∧ w' 6 k = w 6 k) ∧ ∀ k, j ≤ k → k < M → ∃ z, z < 100000 ∧ p' 2 k = nI z ∧ w' 6 k = nI z) ∨
  (∃ p' w', (∀ post : Int32 → V → Prop, (∃ m, sl_X4_readNumbers_5 post (nI M) (fun x3 _ v15 => s_X4_signAt (st v15 0 4 (x3 + 1)) x3 (fun r17 v18 => (¬ r17 = 59 → post 0 v18) ∧ (r17 = 59 → post 1 v18))) m (nI i) (nI j) p) = post 0 p') ∧ (∀ (post : Int32 → V → Prop) FK, (∃ m, sl_X7_does_49 post a F (fun _ v16 => s_X7_takesSign v16 59 FK) m (nI j) w) = FK w') ∧ sameP p' p ∧ sameW w' w ∧ w' 0 11 = 0) := by
  intro r
  induction r with
  | zero =>
    intro j i p w hj h hi h8 h11
    obtain rfl : j = M := by omega
    have hp := sameP.s4 p (nI (i + 1))
    have hT : Tr (st p 0 4 (nI (i + 1))) w n c := h.same hp (sameW.rf w)
    have hlt := h.lt i
    by_cases q : c i = 59
    · have hin : i < n := by
        by_cases z : i < n
        · exact z
        · have := h.2.2.2.2 i (by omega)
          omega
      refine Or.inl ⟨st p 0 4 (nI (i + 1)), st w 0 8 (nI (i + 1)), i + 1, fun post => xo_X4_readNumbers_5 (fun rec => ?_), fun post FK => xo_X7_does_49 (fun rec => ?_), hp, sameW.s8 w _, by rw [st1, u_s], by rw [st1, u_s], by rw [st1, u_n (by decide)]; exact h11, by omega, by omega, fun k hk => ⟨by rw [st1n (by decide)], by rw [st1n (by decide)]⟩, fun k h1 h2 => by omega⟩
      · unfold sb_X4_readNumbers_5
        refine (b_t (Int32.le_refl _)).trans ?_
        show s_X4_signAt (st p 0 4 (nI i + 1)) (nI i) (fun r17 v18 => (¬ r17 = 59 → post 0 v18) ∧ (r17 = 59 → post 1 v18)) = _
        rw [nI_1, k_sign hT (by omega), q]
        exact b_t' rfl
      · unfold sb_X7_does_49
        rw [hW, b_t (Int32.le_refl _)]
        exact q_sign_t (d := 59) h (by omega) h8 h11 q (by omega) (by omega)
    · refine Or.inr ⟨st p 0 4 (nI (i + 1)), st w 0 11 0, fun post => xo_X4_readNumbers_5 (fun rec => ?_), fun post FK => xo_X7_does_49 (fun rec => ?_), hp, sameW.s11 w _, by rw [st1, u_s]⟩
      · unfold sb_X4_readNumbers_5
        refine (b_t (Int32.le_refl _)).trans ?_
        show s_X4_signAt (st p 0 4 (nI i + 1)) (nI i) (fun r17 v18 => (¬ r17 = 59 → post 0 v18) ∧ (r17 = 59 → post 1 v18)) = _
        rw [nI_1, k_sign hT (by omega)]
        exact b_f' (show ¬ nI (c i) = nI 59 by rw [n_eq (by omega) (by omega)]; exact q)
      · unfold sb_X7_does_49
        rw [hW, b_t (Int32.le_refl _)]
        exact q_sign_f (d := 59) h (by omega) h8 (Or.inr ⟨h11, q⟩) (by omega) (by omega)
  | succ r ih =>
    intro j i p w hj h hi h8 h11
    have hlt := h.lt i
    have hn60 : n ≤ 60 := h.1
    have hle : (nI M ≤ nI j) = False := eq_false (nI_ge (by omega) (by omega))
    have hle4 : ((4 : Int32) ≤ nI j) = False := eq_false (nI_ge (b := 4) (by omega) (by omega))
    by_cases q : c i = 32
    · have hin : i < n := by
        by_cases z : i < n
        · exact z
        · have := h.2.2.2.2 i (by omega)
          omega
      have hs8 := sameW.s8 w (nI (i + 1))
      have hB : Tr p (st w 0 8 (nI (i + 1))) n c := h.same (sameP.rf p) hs8
      have hB8 : (st w 0 8 (nI (i + 1))) 0 8 = nI (i + 1) := by rw [st1, u_s]
      have hB11 : (st w 0 8 (nI (i + 1))) 0 11 = 1 := by
        rw [st1, u_n (by decide)]
        exact h11
      by_cases qd : 48 ≤ c (i + 1) ∧ c (i + 1) ≤ 57
      · have hdg : dgN c 4 (i + 1) = dgN c 3 (i + 2) + 1 := if_pos qd
        have hd4 := dgN_le c 4 (i + 1)
        have hdig := dgN_dig c 4 (i + 1)
        have hv := vlN_lt c (dgN c 4 (i + 1)) (i + 1) 0 (fun j hj => (hdig j hj).2)
        have hp10 : 10 ^ (dgN c 4 (i + 1)) ≤ 10 ^ 4 := Nat.pow_le_pow_right (by decide) hd4
        generalize hZ : vlN c (dgN c 4 (i + 1)) (i + 1) 0 = Z at hv
        have hpp := sameP.s2 p j (nI Z)
        have hww := ((sameW.s6 (st (st w 0 8 (nI (i + 1))) 0 8 (nI (i + 1 + dgN c 4 (i + 1)))) j (nI Z)).tr (sameW.s8 _ _)).tr hs8
        have hC := h.same hpp hww
        have hC8 : (st (st (st w 0 8 (nI (i + 1))) 0 8 (nI (i + 1 + dgN c 4 (i + 1)))) 6 j (nI Z)) 0 8 = nI (i + 1 + dgN c 4 (i + 1)) := by rw [st1n (by decide), st1, u_s]
        have hC11 : (st (st (st w 0 8 (nI (i + 1))) 0 8 (nI (i + 1 + dgN c 4 (i + 1)))) 6 j (nI Z)) 0 11 = 1 := by
          rw [st1n (by decide), st1, u_n (by decide)]
          exact hB11
        have hcs : ∀ (post : Int32 → V → Prop) k0 rec, sb_X4_readNumbers_5 post (nI M) k0 rec (nI i) (nI j) p = rec (nI (i + 1 + dgN c 4 (i + 1))) (nI (j + 1)) (st p 2 j (nI Z)) := fun post k0 rec => by
          have hd0 : ¬ nI (dgN c 4 (i + 1)) = 0 := nI_ne0 (by omega) (by omega)
          have hadd : nI i + (1 + nI (dgN c 4 (i + 1))) = nI (i + 1 + dgN c 4 (i + 1)) := by
            show nI i + (nI 1 + nI _) = _
            rw [nI_add, nI_add]
            congr 1
            omega
          unfold sb_X4_readNumbers_5
          rw [hle, hle4]
          simp only [false_implies, true_implies, not_false_eq_true, true_and]
          rw [nI_1, k_digits h (by omega), k_sign h (by omega), q, b_t' (show nI 32 = 32 from rfl), b_f' hd0, k_value h (by omega) hd4 (fun j hj => (hdig j hj).1), b_and (vp_in_nI (by omega) (by decide)), b_all, tn_nI (by omega), hZ, hadd, nI_1]
        have hrs : ∀ (post : Int32 → V → Prop) k0 rec, sb_X7_does_49 post a F k0 rec (nI j) w = rec (nI (j + 1)) (st (st (st w 0 8 (nI (i + 1))) 0 8 (nI (i + 1 + dgN c 4 (i + 1)))) 6 j (nI Z)) := fun post k0 rec => by
          unfold sb_X7_does_49
          rw [hW, hle]
          simp only [false_implies, true_implies, not_false_eq_true, true_and]
          refine (q_sign_t (d := 32) h (by omega) h8 h11 q (by omega) (by omega)).trans ?_
          rw [q_num_t hB (by omega) hB8 hB11 qd, b_and (vp_in_nI (by omega) (by decide)), b_all, tn_nI (by omega), hZ, nI_1]
        rcases ih (j + 1) (i + 1 + dgN c 4 (i + 1)) (st p 2 j (nI Z)) _ (by omega) hC (by omega) hC8 hC11 with ⟨p', w', e, a1, a2, a3, a4, a5, a6, a7, a8, a9, a10, a11⟩ | ⟨p', w', a1, a2, a3, a4, a5⟩
        · refine Or.inl ⟨p', w', e, fun post => (xs_X4_readNumbers_5 (fun rec => hcs post _ rec)).trans (a1 post), fun post FK => (xs_X7_does_49 (fun rec => hrs post _ rec)).trans (a2 post FK), a3.tr hpp, a4.tr hww, a5, a6, a7, by omega, a9, fun k hk => ?_, fun k h1 h2 => ?_⟩
          · obtain ⟨b1, b2⟩ := a10 k (by omega)
            rw [b1, b2]
            simp (disch := omega) only [st1, st1n, u_s, u_n]
            exact ⟨trivial, trivial⟩
          · by_cases hkj : k = j
            · subst hkj
              obtain ⟨b1, b2⟩ := a10 k (by omega)
              refine ⟨Z, by omega, ?_, ?_⟩
              · rw [b1, st1, u_s]
              · rw [b2, st1, u_s]
            · exact a11 k (by omega) h2
        · exact Or.inr ⟨p', w', fun post => (xs_X4_readNumbers_5 (fun rec => hcs post _ rec)).trans (a1 post), fun post FK => (xs_X7_does_49 (fun rec => hrs post _ rec)).trans (a2 post FK), a3.tr hpp, a4.tr hww, a5⟩
      · have hs : sameW (st (st (st w 0 8 (nI (i + 1))) 0 11 0) 6 j 0) w := ((sameW.s6 _ _ _).tr (sameW.s11 _ _)).tr hs8
        refine Or.inr ?_
        obtain ⟨w', a1, a2, a3⟩ := form_brk (p := p) (a := a) hM hW (i := i + 1) (by omega) r (j + 1) _ (by omega) (h.same (sameP.rf p) hs) (by rw [st1n (by decide), st1, u_n (by decide)]; exact hB8) (by rw [st1n (by decide), st1, u_s])
        refine ⟨p, w', fun post => xo_X4_readNumbers_5 (fun rec => ?_), fun post FK => (xs_X7_does_49 (fun rec => ?_)).trans (a1 post FK), sameP.rf p, a2.tr hs, a3⟩
        · have hd0 : dgN c 4 (i + 1) = 0 := if_neg qd
          unfold sb_X4_readNumbers_5
          rw [hle, hle4]
          simp only [false_implies, true_implies, not_false_eq_true, true_and]
          rw [nI_1, k_digits h (by omega), k_sign h (by omega), q, b_t' (show nI 32 = 32 from rfl), hd0, b_t' (show nI 0 = 0 from rfl)]
        · unfold sb_X7_does_49
          rw [hW, hle]
          simp only [false_implies, true_implies, not_false_eq_true, true_and]
          refine (q_sign_t (d := 32) h (by omega) h8 h11 q (by omega) (by omega)).trans ?_
          rw [q_num_f hB (by omega) hB8 (Or.inr ⟨hB11, qd⟩), b_and (vp_in_nI (by omega) (by decide)), b_all, tn_nI (by omega), nI_1]
    · have hs : sameW (st (st (st w 0 11 0) 0 11 0) 6 j 0) w := ((sameW.s6 _ _ _).tr (sameW.s11 _ _)).tr (sameW.s11 _ _)
      have hA := h.same (sameP.rf p) (sameW.s11 w 0)
      have hA8 : (st w 0 11 0) 0 8 = nI i := by
        rw [st1, u_n (by decide)]
        exact h8
      have hA11 : (st w 0 11 0) 0 11 = 0 := by rw [st1, u_s]
      obtain ⟨w', a1, a2, a3⟩ := form_brk (p := p) (a := a) hM hW (i := i) (by omega) r (j + 1) _ (by omega) (h.same (sameP.rf p) hs) (by rw [st1n (by decide), st1, u_n (by decide)]; exact hA8) (by rw [st1n (by decide), st1, u_s])
      refine Or.inr ⟨p, w', fun post => xo_X4_readNumbers_5 (fun rec => ?_), fun post FK => (xs_X7_does_49 (fun rec => ?_)).trans (a1 post FK), sameP.rf p, a2.tr hs, a3⟩
      · unfold sb_X4_readNumbers_5
        rw [hle, hle4]
        simp only [false_implies, true_implies, not_false_eq_true, true_and]
        rw [nI_1, k_digits h (by omega), k_sign h (by omega), b_f' (show ¬ nI (c i) = 32 from (show ¬ nI (c i) = nI 32 by rw [n_eq (by omega) (by omega)]; exact q))]
      · unfold sb_X7_does_49
        rw [hW, hle]
        simp only [false_implies, true_implies, not_false_eq_true, true_and]
        refine (q_sign_f (d := 32) h (by omega) h8 (Or.inr ⟨h11, q⟩) (by omega) (by omega)).trans ?_
        rw [q_num_f hA (by omega) hA8 (Or.inl hA11), b_and (vp_in_nI (by omega) (by decide)), b_all, tn_nI (by omega), nI_1]
