/-! PURE 13: rate, unrate, set -/
/-- not a grade -/
def noGrade (x y z : Int32) : Prop := (x < 0 ∨ nI 4 < x) ∨ noLook y z
theorem gradeOr (x y z : Int32) : (∃ a b c, a < 5 ∧ b < 10 ∧ c < 8 ∧ x = nI a ∧ y = nI b ∧ z = nI c) ∨ noGrade x y z := by
  rcases rng x (a := 0) (b := 4) (by omega) (by omega) with ⟨a, -, h1, rfl⟩ | h
  · rcases lookOr y z with ⟨b, c, h2, h3, rfl, rfl⟩ | h
    · exact Or.inl ⟨a, b, c, by omega, h2, h3, rfl, rfl, rfl⟩
    · exact Or.inr (Or.inr h)
  · exact Or.inr (Or.inl h)
theorem k_grade_t {a b c : Nat} {post : Int32 → Prop} (ha : a < 5) (hb : b < 10) (hc : c < 8) : s_X6_isGrade (nI a) (nI b) (nI c) post = post 1 := by
  unfold s_X6_isGrade
  rw [b_f (n_neg (by omega)), b_f (show ¬ (5 : Int32) ≤ nI a from nI_ge (b := 5) (by omega) (by omega)), k_look_t hb hc, b_f z10]
theorem k_grade_f {x y z : Int32} {post : Int32 → Prop} (h : noGrade x y z) : s_X6_isGrade x y z post = post 0 := by
  unfold s_X6_isGrade
  by_cases h1 : x < 0
  · rw [b_t h1]
  rw [b_f h1]
  by_cases h2 : (5 : Int32) ≤ x
  · rw [b_t h2]
  rw [b_f h2]
  rcases h with (h | h) | h
  · exact absurd h h1
  · exact absurd (up_le h rfl (by omega)) h2
  · rw [k_look_f h]
    exact b_t rfl
/-- the reference's three tests of a grade -/
theorem q_grade_t {a b c : Nat} {P Q : Prop} (ha : a < 5) (hb : b < 10) (hc : c < 8) : s_X7_in (nI a) 0 4 (fun r => (r = 0 → P) ∧ (¬ r = 0 → s_X7_isGrade (nI b) (nI c) (fun r => (¬ r = 0 → Q) ∧ (r = 0 → P)))) = Q := by
  rw [show s_X7_in (nI a) 0 4 _ = _ from q_in_n (a := 0) (b := 4) (by omega) (by omega) (by omega), b_f z10, q_isGrade_t hb hc, b_f' (by decide)]
theorem RP.uniq {v : V} {S : Nat → Int32} (h : RP v S) {a b c i j : Nat} (hi : i < 24) (hj : j < 24) (h1 : isE v a b c i) (h2 : isE v a b c j) : i = j :=
  h.2.1 i j hi hj h1.1 h2.1 (h1.2.1.trans h2.2.1.symm) (h1.2.2.1.trans h2.2.2.1.symm) (h1.2.2.2.trans h2.2.2.2.symm)
theorem k_change {v : V} {S : Nat → Int32} {a b c i : Nat} {x : Int32} {post : V → Prop} (h : RP v S) (hi : i < 24) (he : isE v a b c i) : s_X3_change v (nI a) (nI b) (nI c) x post = post (st v 5 i x) := by
  have key2 : ∀ d k, k + d = 24 → i < k → (∃ n, sl_X3_change_3 post (nI a) (nI b) (nI c) x (fun _ v => post v) n (nI k) (st v 5 i x)) = post (st v 5 i x) := by
    intro d
    induction d with
    | zero =>
      intro k hk _
      obtain rfl : k = 24 := by omega
      exact xo_X3_change_3 (fun rec => b_t (show (24 : Int32) ≤ nI 24 by decide))
    | succ d ih =>
      intro k hk hik
      refine (xs_X3_change_3 (fun rec => ?_)).trans (ih (k + 1) (by omega) (by omega))
      have hn : ¬ isE (st v 5 i x) a b c k := by
        rintro ⟨q1, q2, q3, q4⟩
        simp (disch := omega) only [st1, st1n, u_s, u_n] at q1 q2 q3 q4
        have := h.uniq hi (show k < 24 by omega) he ⟨q1, q2, q3, q4⟩
        omega
      unfold sb_X3_change_3
      rw [b_f (show ¬ (24 : Int32) ≤ nI k from nI_ge (b := 24) (by omega) (by omega)), k_isEntry_f (by omega) hn, b_t z00, nI_1]
  have key : ∀ d k, k + d = i → (∃ n, sl_X3_change_3 post (nI a) (nI b) (nI c) x (fun _ v => post v) n (nI k) v) = post (st v 5 i x) := by
    intro d
    induction d with
    | zero =>
      intro k hk
      obtain rfl : k = i := by omega
      refine (xs_X3_change_3 (fun rec => ?_)).trans (key2 (24 - (k + 1)) (k + 1) (by omega) (by omega))
      unfold sb_X3_change_3
      rw [b_f (show ¬ (24 : Int32) ≤ nI k from nI_ge (b := 24) (by omega) (by omega)), k_isEntry_t hi he, b_f z10, b_and (vp_in_nI hi (by decide)), b_all, tn_nI (by omega), nI_1]
    | succ d ih =>
      intro k hk
      have hn : ¬ isE v a b c k := fun q => by
        have := h.uniq hi (show k < 24 by omega) he q
        omega
      refine (xs_X3_change_3 (fun rec => ?_)).trans (ih (k + 1) (by omega))
      unfold sb_X3_change_3
      rw [b_f (show ¬ (24 : Int32) ≤ nI k from nI_ge (b := 24) (by omega) (by omega)), k_isEntry_f (by omega) hn, b_t z00, nI_1]
  exact key i 0 (by omega)
theorem k_add_t {v : V} {x y z u : Int32} {i : Nat} {post : Int32 → V → Prop} (hi : i < 24) (h0 : v 5 i = 0) (hf : ∀ j, j < i → ¬ v 5 j = 0) : s_X3_add v x y z u post = post 1 (st (st (st (st v 2 i x) 3 i y) 4 i z) 5 i u) := by
  have key : ∀ d k, k + d = i → (∃ n, sl_X3_add_3 post x y z u (fun _ v => post 0 v) n (nI k) v) = post 1 (st (st (st (st v 2 i x) 3 i y) 4 i z) 5 i u) := by
    intro d
    induction d with
    | zero =>
      intro k hk
      obtain rfl : k = i := by omega
      refine xo_X3_add_3 (fun rec => ?_)
      have f : ((24 : Int32) ≤ nI k) = False := eq_false (nI_ge (b := 24) (by omega) (by omega))
      simp (disch := omega) only [sb_X3_add_3, f, vp_in_nI, tn_nI, h0, b_all, not_true_eq_false, not_false_eq_true, true_implies, false_implies, and_true, true_and]
    | succ d ih =>
      intro k hk
      refine (xs_X3_add_3 (fun rec => ?_)).trans (ih (k + 1) (by omega))
      unfold sb_X3_add_3
      rw [b_f (show ¬ (24 : Int32) ≤ nI k from nI_ge (b := 24) (by omega) (by omega)), b_and (vp_in_nI (by omega) (by decide)), tn_nI (by omega), b_f' (hf k (by omega)), nI_1]
  exact key i 0 (by omega)
theorem k_add_f {v : V} {x y z u : Int32} {post : Int32 → V → Prop} (hf : ∀ j, j < 24 → ¬ v 5 j = 0) : s_X3_add v x y z u post = post 0 v := by
  have key : ∀ d k, k + d = 24 → (∃ n, sl_X3_add_3 post x y z u (fun _ v => post 0 v) n (nI k) v) = post 0 v := by
    intro d
    induction d with
    | zero =>
      intro k hk
      obtain rfl : k = 24 := by omega
      exact xo_X3_add_3 (fun rec => b_t (show (24 : Int32) ≤ nI 24 by decide))
    | succ d ih =>
      intro k hk
      refine (xs_X3_add_3 (fun rec => ?_)).trans (ih (k + 1) (by omega))
      unfold sb_X3_add_3
      rw [b_f (show ¬ (24 : Int32) ≤ nI k from nI_ge (b := 24) (by omega) (by omega)), b_and (vp_in_nI (by omega) (by decide)), tn_nI (by omega), b_f' (hf k (by omega)), nI_1]
  exact key 24 0 (by omega)
theorem RP.has {v : V} {S : Nat → Int32} (h : RP v S) {a b c : Nat} (ha : a < 5) (hb : b < 10) (hc : c < 8) (hS : ¬ S (264 + (80 * a + 8 * b + c)) = 0) : ∃ i, i < 24 ∧ isE v a b c i := by
  obtain ⟨i, hi, h1, h2, h3, h4⟩ := h.2.2 a b c ha hb hc hS
  exact ⟨i, hi, h1, h2, h3, h4⟩
theorem gr_ne {a b c a' b' c' : Nat} (hb : b < 10) (hc : c < 8) (hb' : b' < 10) (hc' : c' < 8) (h : ¬ (a' = a ∧ b' = b ∧ c' = c)) : 264 + (80 * a' + 8 * b' + c') ≠ 264 + (80 * a + 8 * b + c) := by omega
theorem RP_new {v : V} {S : Nat → Int32} (h : RP v S) {a b c i r : Nat} (ha : a < 5) (hb : b < 10) (hc : c < 8) (hi : i < 24) (he : isE v a b c i) (h1 : 1 ≤ r) (h2 : r ≤ 9999) : RP (st v 5 i (nI r)) (upd S (264 + (80 * a + 8 * b + c)) (nI r)) := by
  refine ⟨fun j hj => ?_, fun j k hj hk => ?_, fun a' b' c' ha' hb' hc' hr => ?_⟩
  · by_cases q : j = i
    · subst q
      refine Or.inr ⟨a, b, c, r, ha, hb, hc, h1, h2, ?_, ?_, ?_, ?_, ?_⟩ <;> simp (disch := omega) only [st1, st1n, u_s, u_n]
      · exact he.2.1
      · exact he.2.2.1
      · exact he.2.2.2
    · simp (disch := omega) only [st1, st1n, u_s, u_n]
      rcases h.1 j hj with z | ⟨a', b', c', r', g1, g2, g3, g4, g5, g6, g7, g8, g9, g10⟩
      · exact Or.inl z
      · refine Or.inr ⟨a', b', c', r', g1, g2, g3, g4, g5, g6, g7, g8, g9, ?_⟩
        rw [u_n (gr_ne hb hc g2 g3 ?_)]
        · exact g10
        · rintro ⟨rfl, rfl, rfl⟩
          exact q (h.uniq hj hi ⟨by rw [g9]; exact nI_ne0 (by omega) (by omega), g6, g7, g8⟩ he)
  · have e : ∀ j, ¬ (st v 5 i (nI r)) 5 j = 0 → ¬ v 5 j = 0 := fun j z => by
      by_cases q : j = i
      · subst q
        exact he.1
      · simp (disch := omega) only [st1, u_n] at z
        exact z
    intro z1 z2
    have := h.2.1 j k hj hk (e j z1) (e k z2)
    simp (disch := omega) only [st1n]
    exact this
  · by_cases q : a' = a ∧ b' = b ∧ c' = c
    · obtain ⟨rfl, rfl, rfl⟩ := q
      refine ⟨i, hi, ?_, ?_, ?_, ?_⟩ <;> simp (disch := omega) only [st1, st1n, u_s, u_n]
      · exact nI_ne0 (by omega) (by omega)
      · exact he.2.1
      · exact he.2.2.1
      · exact he.2.2.2
    · rw [u_n (gr_ne hb hc hb' hc' q)] at hr
      obtain ⟨j, hj, g1, g2, g3, g4⟩ := h.2.2 a' b' c' ha' hb' hc' hr
      have hji : j ≠ i := by
        rintro rfl
        have e1 := g2.symm.trans he.2.1
        have e2 := g3.symm.trans he.2.2.1
        have e3 := g4.symm.trans he.2.2.2
        rw [n_eq (by omega) (by omega)] at e1 e2 e3
        exact q ⟨e1, e2, e3⟩
      refine ⟨j, hj, ?_, ?_, ?_, ?_⟩ <;> simp (disch := omega) only [st1, st1n, u_s, u_n] <;> assumption
theorem RP_out {v : V} {S : Nat → Int32} (h : RP v S) {a b c i : Nat} (ha : a < 5) (hb : b < 10) (hc : c < 8) (hi : i < 24) (he : isE v a b c i) : RP (st v 5 i 0) (upd S (264 + (80 * a + 8 * b + c)) 0) := by
  refine ⟨fun j hj => ?_, fun j k hj hk => ?_, fun a' b' c' ha' hb' hc' hr => ?_⟩
  · by_cases q : j = i
    · subst q
      refine Or.inl ?_
      simp (disch := omega) only [st1, st1n, u_s, u_n]
    · simp (disch := omega) only [st1, st1n, u_s, u_n]
      rcases h.1 j hj with z | ⟨a', b', c', r', g1, g2, g3, g4, g5, g6, g7, g8, g9, g10⟩
      · exact Or.inl z
      · refine Or.inr ⟨a', b', c', r', g1, g2, g3, g4, g5, g6, g7, g8, g9, ?_⟩
        rw [u_n (gr_ne hb hc g2 g3 ?_)]
        · exact g10
        · rintro ⟨rfl, rfl, rfl⟩
          exact q (h.uniq hj hi ⟨by rw [g9]; exact nI_ne0 (by omega) (by omega), g6, g7, g8⟩ he)
  · have e : ∀ j, ¬ (st v 5 i 0) 5 j = 0 → ¬ v 5 j = 0 := fun j z => by
      by_cases q : j = i
      · subst q
        exact he.1
      · simp (disch := omega) only [st1, u_n] at z
        exact z
    intro z1 z2
    have := h.2.1 j k hj hk (e j z1) (e k z2)
    simp (disch := omega) only [st1n]
    exact this
  · by_cases q : a' = a ∧ b' = b ∧ c' = c
    · obtain ⟨rfl, rfl, rfl⟩ := q
      rw [u_s] at hr
      exact absurd rfl hr
    · rw [u_n (gr_ne hb hc hb' hc' q)] at hr
      obtain ⟨j, hj, g1, g2, g3, g4⟩ := h.2.2 a' b' c' ha' hb' hc' hr
      have hji : j ≠ i := by
        rintro rfl
        have e1 := g2.symm.trans he.2.1
        have e2 := g3.symm.trans he.2.2.1
        have e3 := g4.symm.trans he.2.2.2
        rw [n_eq (by omega) (by omega)] at e1 e2 e3
        exact q ⟨e1, e2, e3⟩
      refine ⟨j, hj, ?_, ?_, ?_, ?_⟩ <;> simp (disch := omega) only [st1, st1n, u_s, u_n] <;> assumption
theorem RP_add {v : V} {S : Nat → Int32} (h : RP v S) {a b c i r : Nat} (ha : a < 5) (hb : b < 10) (hc : c < 8) (hi : i < 24) (h0 : v 5 i = 0) (hS : S (264 + (80 * a + 8 * b + c)) = 0) (h1 : 1 ≤ r) (h2 : r ≤ 9999) : RP (st (st (st (st v 2 i (nI a)) 3 i (nI b)) 4 i (nI c)) 5 i (nI r)) (upd S (264 + (80 * a + 8 * b + c)) (nI r)) := by
  have hno : ∀ j, j < 24 → ¬ isE v a b c j := fun j hj z => z.1 ((h.own ha hb hc hj z).trans hS)
  refine ⟨fun j hj => ?_, fun j k hj hk => ?_, fun a' b' c' ha' hb' hc' hr => ?_⟩
  · by_cases q : j = i
    · subst q
      refine Or.inr ⟨a, b, c, r, ha, hb, hc, h1, h2, ?_, ?_, ?_, ?_, ?_⟩ <;> simp (disch := omega) only [st1, st1n, u_s, u_n]
    · simp (disch := omega) only [st1, st1n, u_s, u_n]
      rcases h.1 j hj with z | ⟨a', b', c', r', g1, g2, g3, g4, g5, g6, g7, g8, g9, g10⟩
      · exact Or.inl z
      · refine Or.inr ⟨a', b', c', r', g1, g2, g3, g4, g5, g6, g7, g8, g9, ?_⟩
        rw [u_n (gr_ne hb hc g2 g3 ?_)]
        · exact g10
        · rintro ⟨rfl, rfl, rfl⟩
          exact hno j hj ⟨by rw [g9]; exact nI_ne0 (by omega) (by omega), g6, g7, g8⟩
  · by_cases q : j = i
    · by_cases q2 : k = i
      · intros
        omega
      · subst q
        simp (disch := omega) only [st1, st1n, u_s, u_n]
        intro _ z2 z3 z4 z5
        exact absurd ⟨z2, z3.symm, z4.symm, z5.symm⟩ (hno k hk)
    · by_cases q2 : k = i
      · subst q2
        simp (disch := omega) only [st1, st1n, u_s, u_n]
        intro z1 _ z3 z4 z5
        exact absurd ⟨z1, z3, z4, z5⟩ (hno j hj)
      · simp (disch := omega) only [st1, st1n, u_s, u_n]
        exact h.2.1 j k hj hk
  · by_cases q : a' = a ∧ b' = b ∧ c' = c
    · obtain ⟨rfl, rfl, rfl⟩ := q
      refine ⟨i, hi, ?_, ?_, ?_, ?_⟩ <;> simp (disch := omega) only [st1, st1n, u_s, u_n]
      exact nI_ne0 (by omega) (by omega)
    · rw [u_n (gr_ne hb hc hb' hc' q)] at hr
      obtain ⟨j, hj, g1, g2, g3, g4⟩ := h.2.2 a' b' c' ha' hb' hc' hr
      have hji : j ≠ i := by
        rintro rfl
        exact g1 h0
      refine ⟨j, hj, ?_, ?_, ?_, ?_⟩ <;> simp (disch := omega) only [st1, st1n, u_s, u_n] <;> assumption
theorem okT_u {S : Nat → Int32} (h : okT S) {j r : Nat} (hr : r ≤ 9999) : okT (upd S (264 + j) (nI r)) := fun i hi => by
  by_cases q : i = j
  · subst q
    exact ⟨r, hr, u_s⟩
  · rw [u_n (by omega)]
    exact h i hi
/-- only the prices move -/
theorem Rn_rt {v v' : V} {S S' : Nat → Int32} {nd ns nm t g e l : Nat} (h : Rn v S nd ns nm t g e l) (hv0 : v' 0 = v 0) (hv : ∀ p, 6 ≤ p → v' p = v p) (hS : ∀ j, j < 264 → j ≠ 5 → S' j = S j) (hP : RP v' S') (hT : okT S') (h5 : S' 5 = nI (cz (v' 5) 24)) : Rn v' S' nd ns nm t g e l := by
  obtain ⟨hg, hb, -, hk, h0, hm, hB⟩ := h
  have n2 : ns ≤ 20 := hg.2.1
  have n3 : nm ≤ 10 := hg.2.2.1
  refine ⟨?_, fun d hd => ?_, ⟨hP, hT⟩, fun j hj => ?_, fun j j1 j2 => ?_, fun m hm' => ?_, BD_s hB (fun j h1 h2 h3 => hS j (by omega) (by omega))⟩
  · unfold Rg at hg ⊢
    rw [hv0, hv 6 (by omega), hv 16 (by omega), h5, hS 0 (by omega) (by omega), hS 1 (by omega) (by omega), hS 2 (by omega) (by omega), hS 3 (by omega) (by omega), hS 4 (by omega) (by omega), hS 6 (by omega) (by omega), hS 7 (by omega) (by omega)]
    obtain ⟨a1, a2, a3, a4, a5, a6, a7, a8, a9, a10, a11, a12, a13, a14, a15, a16, a17⟩ := hg
    exact ⟨a1, a2, a3, a4, a5, a6, a7, a8, a9, a10, a11, a12, a13, a14, a15, rfl, a17⟩
  · rw [hv 22 (by omega), hS _ (by omega) (by omega)]
    exact hb d hd
  · refine Rk_c (hk j hj) ?_ (fun f hf => hS _ (by omega) (by omega)) (fun m hm => ⟨hS _ (by omega) (by omega), hS _ (by omega) (by omega)⟩) (Nat.le_refl _) (Nat.le_refl _)
    unfold eqV
    rw [hv 7 (by omega), hv 8 (by omega), hv 9 (by omega), hv 10 (by omega), hv 11 (by omega), hv 12 (by omega), hv 13 (by omega), hv 14 (by omega), hv 15 (by omega)]
    exact ⟨rfl, rfl, rfl, rfl, rfl, rfl, rfl, rfl, rfl⟩
  · unfold R0
    rw [hS _ (by omega) (by omega), hS _ (by omega) (by omega), hS _ (by omega) (by omega)]
    exact h0 j j1 j2
  · unfold Rm
    rw [hv 17 (by omega), hv 18 (by omega), hv 19 (by omega), hv 20 (by omega), hv 21 (by omega), hS _ (by omega) (by omega), hS _ (by omega) (by omega), hS _ (by omega) (by omega), hS _ (by omega) (by omega), hS _ (by omega) (by omega)]
    exact hm m hm'
