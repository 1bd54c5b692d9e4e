/-! PURE 7: what the relation looks at; copies -/
def Ag (v' v : V) : Prop := v' 0 4 = v 0 4 ∧ v' 0 5 = v 0 5 ∧ v' 0 6 = v 0 6 ∧ v' 0 7 = v 0 7 ∧ v' 0 8 = v 0 8 ∧ v' 6 0 = v 6 0 ∧ v' 16 0 = v 16 0 ∧
  (∀ i, i < 24 → v' 2 i = v 2 i) ∧ (∀ i, i < 24 → v' 3 i = v 3 i) ∧ (∀ i, i < 24 → v' 4 i = v 4 i) ∧ (∀ i, i < 24 → v' 5 i = v 5 i) ∧
  (∀ i, i < 20 → v' 7 i = v 7 i) ∧ (∀ i, i < 20 → v' 8 i = v 8 i) ∧ (∀ i, i < 20 → v' 9 i = v 9 i) ∧ (∀ i, i < 20 → v' 10 i = v 10 i) ∧ (∀ i, i < 20 → v' 11 i = v 11 i) ∧ (∀ i, i < 20 → v' 12 i = v 12 i) ∧ (∀ i, i < 20 → v' 13 i = v 13 i) ∧ (∀ i, i < 20 → v' 14 i = v 14 i) ∧ (∀ i, i < 20 → v' 15 i = v 15 i) ∧
  (∀ i, i < 10 → v' 17 i = v 17 i) ∧ (∀ i, i < 10 → v' 18 i = v 18 i) ∧ (∀ i, i < 10 → v' 19 i = v 19 i) ∧ (∀ i, i < 10 → v' 20 i = v 20 i) ∧ (∀ i, i < 10 → v' 21 i = v 21 i) ∧
  (∀ i, i < 6 → v' 22 i = v 22 i)
theorem RP_c {v v' : V} {S : Nat → Int32} (h : RP v S) (h2 : ∀ i, i < 24 → v' 2 i = v 2 i) (h3 : ∀ i, i < 24 → v' 3 i = v 3 i) (h4 : ∀ i, i < 24 → v' 4 i = v 4 i) (h5 : ∀ i, i < 24 → v' 5 i = v 5 i) : RP v' S := by
  refine ⟨fun i hi => ?_, fun i j hi hj => ?_, fun a b c ha hb hc hr => ?_⟩
  · rw [h2 i hi, h3 i hi, h4 i hi, h5 i hi]
    exact h.1 i hi
  · rw [h2 i hi, h3 i hi, h4 i hi, h5 i hi, h2 j hj, h3 j hj, h4 j hj, h5 j hj]
    exact h.2.1 i j hi hj
  · obtain ⟨i, hi, q1, q2, q3, q4⟩ := h.2.2 a b c ha hb hc hr
    refine ⟨i, hi, ?_, ?_, ?_, ?_⟩
    · rw [h5 i hi]
      exact q1
    · rw [h2 i hi]
      exact q2
    · rw [h3 i hi]
      exact q3
    · rw [h4 i hi]
      exact q4
theorem RP_s {v : V} {S S' : Nat → Int32} (h : RP v S) (hs : ∀ j, j < 400 → S' (264 + j) = S (264 + j)) : RP v S' := by
  refine ⟨fun i hi => ?_, h.2.1, fun a b c ha hb hc hr => ?_⟩
  · rcases h.1 i hi with q | ⟨a, b, c, r, h1, h2, h3, h4, h5, h6, h7, h8, h9, h10⟩
    · exact Or.inl q
    · refine Or.inr ⟨a, b, c, r, h1, h2, h3, h4, h5, h6, h7, h8, h9, ?_⟩
      rw [hs _ (by omega)]
      exact h10
  · rw [hs _ (by omega)] at hr
    exact h.2.2 a b c ha hb hc hr
theorem okT_s {S S' : Nat → Int32} (h : okT S) (hs : ∀ j, j < 400 → S' (264 + j) = S (264 + j)) : okT S' := fun j hj => by
  rw [hs j hj]
  exact h j hj
theorem Rk_s {v : V} {S S' : Nat → Int32} {nd nm k : Nat} (h : Rk v S nd nm k) (hk : k < 20) (hm : nm ≤ 10) (hs : ∀ j, 14 ≤ j → j < 264 → S' j = S j) : Rk v S' nd nm k := by
  obtain ⟨⟨e0, e1, e2, e3, e4, e5, e6, e7, e8⟩, h2, h3⟩ := h
  have q : ∀ f, f < 10 → S' (14 + 10 * k + f) = S (14 + 10 * k + f) := fun f hf => hs _ (by omega) (by omega)
  refine ⟨?_, ?_, ?_⟩
  · unfold eqK
    rw [q 0 (by omega), q 1 (by omega), q 2 (by omega), q 3 (by omega), q 4 (by omega), q 5 (by omega), q 6 (by omega), q 7 (by omega), q 8 (by omega)]
    exact ⟨e0, e1, e2, e3, e4, e5, e6, e7, e8⟩
  · unfold okK
    rw [q 0 (by omega), q 1 (by omega), q 2 (by omega)]
    exact h2
  · unfold stH stS stO
    rw [q 3 (by omega), q 4 (by omega), q 5 (by omega), q 6 (by omega), q 7 (by omega), q 8 (by omega)]
    rcases h3 with h3 | h3 | ⟨o, hh, m, a, c, g1, g2, g3, g4, g5, g6, g7, g8, g9, g10, g11, g12, g13, g14⟩
    · exact Or.inl h3
    · exact Or.inr (Or.inl h3)
    · refine Or.inr (Or.inr ⟨o, hh, m, a, c, g1, g2, g3, g4, g5, g6, g7, g8, g9, g10, g11, g12, ?_, ?_⟩)
      · rw [hs _ (by omega) (by omega)]
        exact g13
      · rw [hs _ (by omega) (by omega)]
        exact g14
theorem BD_s {S S' : Nat → Int32} (h : BD S) (hs : ∀ j, 2 ≤ j → j < 264 → (j ≤ 4 ∨ 8 ≤ j) → S' j = S j) : BD S' := by
  have e : sm (bnd S') 20 = sm (bnd S) 20 := sm_cong 20 (fun i hi => by
    unfold bnd
    rw [hs _ (by omega) (by omega) (by omega), hs _ (by omega) (by omega) (by omega)])
  refine ⟨fun d hd => ?_, J1_s h.2.1 (fun d hd => hs _ (by omega) (by omega) (by omega)) (fun k hk => hs _ (by omega) (by omega) (by omega)), J2_s h.2.2.1 (hs _ (by omega) (by omega) (by omega)) (fun k hk => hs _ (by omega) (by omega) (by omega)), J3_s h.2.2.2 (hs _ (by omega) (by omega) (by omega)) (hs _ (by omega) (by omega) (by omega)) (fun m hm => ⟨hs _ (by omega) (by omega) (by omega), hs _ (by omega) (by omega) (by omega), hs _ (by omega) (by omega) (by omega)⟩)⟩
  rw [e, hs _ (by omega) (by omega) (by omega)]
  exact h.1 d hd
theorem R_s {v : V} {S S' : Nat → Int32} (h : R v S) (hs : ∀ j, j < 664 → S' j = S j) : R v S' := by
  obtain ⟨nd, ns, nm, t, g, e, hg, hb, ⟨hp, hT⟩, hk, h0, hm, hB⟩ := h
  have q1 : nd ≤ 6 := hg.1
  have q2 : ns ≤ 20 := hg.2.1
  have q3 : nm ≤ 10 := hg.2.2.1
  refine ⟨nd, ns, nm, t, g, e, ?_, fun d hd => ?_, ⟨RP_s hp (fun j hj => hs _ (by omega)), okT_s hT (fun j hj => hs _ (by omega))⟩, fun k hk' => Rk_s (hk k hk') (by omega) q3 (fun j _ hj => hs j (by omega)), fun k k1 k2 => ?_, fun m hm' => ?_, BD_s hB (fun j _ hj _ => hs j (by omega))⟩
  · unfold Rg at hg ⊢
    rw [hs 0 (by omega), hs 1 (by omega), hs 2 (by omega), hs 3 (by omega), hs 4 (by omega), hs 5 (by omega), hs 6 (by omega), hs 7 (by omega)]
    exact hg
  · rw [hs _ (by omega)]
    exact hb d hd
  · unfold R0
    rw [hs _ (by omega), hs _ (by omega), hs _ (by omega)]
    exact h0 k k1 k2
  · unfold Rm
    rw [hs _ (by omega), hs _ (by omega), hs _ (by omega), hs _ (by omega), hs _ (by omega)]
    exact hm m hm'
theorem R_v {v v' : V} {S : Nat → Int32} (h : R v S) (ha : Ag v' v) : R v' S := by
  obtain ⟨nd, ns, nm, t, g, e, hg, hb, ⟨hp, hT⟩, hk, h0, hm, hB⟩ := h
  have q2 : ns ≤ 20 := hg.2.1
  have q3 : nm ≤ 10 := hg.2.2.1
  obtain ⟨a1, a2, a3, a4, a5, a6, a7, b2, b3, b4, b5, c7, c8, c9, c10, c11, c12, c13, c14, c15, d17, d18, d19, d20, d21, d22⟩ := ha
  refine ⟨nd, ns, nm, t, g, e, ?_, fun d hd => ?_, ⟨RP_c hp b2 b3 b4 b5, hT⟩, fun k hk' => ?_, h0, fun m hm' => ?_, hB⟩
  · unfold Rg at hg ⊢
    rw [a1, a2, a3, a4, a5, a6, a7, cz_cong 24 b5]
    exact hg
  · rw [d22 d hd]
    exact hb d hd
  · obtain ⟨e1, e2⟩ := hk k hk'
    refine ⟨?_, e2⟩
    unfold eqK
    rw [c7 k (by omega), c8 k (by omega), c9 k (by omega), c10 k (by omega), c11 k (by omega), c12 k (by omega), c13 k (by omega), c14 k (by omega), c15 k (by omega)]
    exact e1
  · unfold Rm
    rw [d17 m (by omega), d18 m (by omega), d19 m (by omega), d20 m (by omega), d21 m (by omega)]
    exact hm m hm'
theorem cpy0 {f g : Nat → Int32} {n j : Nat} (h : j < n) : va_cpy f g 0 0 n j = f j := by
  rw [pk_cpy_in (Nat.zero_le _) (by omega), Nat.sub_zero, Nat.zero_add]
def cpA (v1 : V) (p n : Nat) (v : V) : V := sa v p (va_cpy (v1 p) (v p) 0 0 n)
theorem cpA_s {v1 : V} {p n j : Nat} {v : V} (h : j < n) : cpA v1 p n v p j = v1 p j := by
  unfold cpA
  rw [sa_1, cpy0 h]
theorem cpA_n {v1 : V} {p q n : Nat} {v : V} (h : q ≠ p) : cpA v1 p n v q = v q := sa_n h
def cpM (v0 v1 : V) : V := sc (sc (sc (sc (sc (cpA v1 22 6 (cpA v1 21 10 (cpA v1 20 10 (cpA v1 19 10 (cpA v1 18 10 (cpA v1 17 10 (sc (cpA v1 15 20 (cpA v1 14 20 (cpA v1 13 20 (cpA v1 12 20 (cpA v1 11 20 (cpA v1 10 20 (cpA v1 9 20 (cpA v1 8 20 (cpA v1 7 20 (sc (cpA v1 5 24 (cpA v1 4 24 (cpA v1 3 24 (cpA v1 2 24 (v0))))) 6 0 (v1 6 0))))))))))) 16 0 (v1 16 0)))))))) 0 4 (v1 0 4)) 0 5 (v1 0 5)) 0 6 (v1 0 6)) 0 7 (v1 0 7)) 0 8 (v1 0 8)
theorem k_copy (v0 v1 : V) (post : V → V → Prop) : s_X1_copyFrom v0 v1 post = post (cpM v0 v1) v1 := by
  unfold s_X1_copyFrom s_X3_copyFrom s_X5_copyFrom s_X2_copyFrom
  simp only [b_all]
  rfl
theorem Ag_copy (v0 v1 : V) : Ag (cpM v0 v1) v1 := by
  unfold Ag cpM
  refine ⟨?_, ?_, ?_, ?_, ?_, ?_, ?_, ?_, ?_, ?_, ?_, ?_, ?_, ?_, ?_, ?_, ?_, ?_, ?_, ?_, ?_, ?_, ?_, ?_, ?_, ?_⟩ <;> intros <;> simp (disch := omega) only [sc_st, st1, st1n, u_s, u_n, cpA_s, cpA_n]
