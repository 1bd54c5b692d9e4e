/-! PURE 9: one command on both sides -/
def bad (r : Int32) : Prop := r < 0 ∧ ¬ (-10000001) < r ∧ -10000004 < r
theorem bad1 : bad (-10000001) := by unfold bad; decide
theorem bad2 : bad (-10000002) := by unfold bad; decide
theorem bad3 : bad (-10000003) := by unfold bad; decide
def Sim (C D : (Int32 → V → Prop) → Prop) (v w : V) : Prop := ∃ r v' S', (∀ post, C post = post r v') ∧ (∀ post, D post = post r (sa w 1 S')) ∧ ((¬ r < 0 ∧ R v' S') ∨ (bad r ∧ v' = v ∧ S' = w 1))
theorem Sim.err {C D : (Int32 → V → Prop) → Prop} {v w : V} {r : Int32} (hr : bad r) (h1 : ∀ post, C post = post r v) (h2 : ∀ post, D post = post r w) : Sim C D v w :=
  ⟨r, v, w 1, h1, fun post => by rw [sa_self]; exact h2 post, Or.inr ⟨hr, rfl, rfl⟩⟩
theorem Sim.ok {C D : (Int32 → V → Prop) → Prop} {v w v' w' : V} {r : Int32} (S' : Nat → Int32) (hr : ¬ r < 0) (hR : R v' S') (h1 : ∀ post, C post = post r v') (h2 : ∀ post, D post = post r w') (hw : w' = sa w 1 S') : Sim C D v w :=
  ⟨r, v', S', h1, fun post => by rw [← hw]; exact h2 post, Or.inl ⟨hr, hR⟩⟩
theorem st_sa (w : V) (p i : Nat) (x : Int32) : st w p i x = sa w p (upd (w p) i x) := by
  funext q
  by_cases h : q = p
  · subst h
    rw [st1, sa_1]
  · rw [st1n h, sa_n h]
/-- the other stones -/
def eqV (v' v : V) (j : Nat) : Prop := v' 7 j = v 7 j ∧ v' 8 j = v 8 j ∧ v' 9 j = v 9 j ∧ v' 10 j = v 10 j ∧ v' 11 j = v 11 j ∧ v' 12 j = v 12 j ∧ v' 13 j = v 13 j ∧ v' 14 j = v 14 j ∧ v' 15 j = v 15 j
def eqS (S' S : Nat → Int32) (j : Nat) : Prop := ∀ f, f < 9 → S' (14 + 10 * j + f) = S (14 + 10 * j + f)
def eqF (S' S : Nat → Int32) (nm : Nat) : Prop := ∀ m, m < nm → S' (214 + 5 * m + 0) = S (214 + 5 * m + 0) ∧ S' (214 + 5 * m + 1) = S (214 + 5 * m + 1)
theorem Rk_c {v v' : V} {S S' : Nat → Int32} {nd nm nd' nm' j : Nat} (h : Rk v S nd nm j) (h1 : eqV v' v j) (h2 : eqS S' S j) (h3 : eqF S' S nm) (hd : nd ≤ nd') (hm : nm ≤ nm') : Rk v' S' nd' nm' j := by
  obtain ⟨⟨e0, e1, e2, e3, e4, e5, e6, e7, e8⟩, g2, g3⟩ := h
  obtain ⟨a0, a1, a2, a3, a4, a5, a6, a7, a8⟩ := h1
  refine ⟨?_, ?_, ?_⟩
  · unfold eqK
    rw [a0, a1, a2, a3, a4, a5, a6, a7, a8, h2 0 (by omega), h2 1 (by omega), h2 2 (by omega), h2 3 (by omega), h2 4 (by omega), h2 5 (by omega), h2 6 (by omega), h2 7 (by omega), h2 8 (by omega)]
    exact ⟨e0, e1, e2, e3, e4, e5, e6, e7, e8⟩
  · unfold okK
    rw [h2 0 (by omega), h2 1 (by omega), h2 2 (by omega)]
    exact g2
  · unfold stH stS stO
    rw [h2 3 (by omega), h2 4 (by omega), h2 5 (by omega), h2 6 (by omega), h2 7 (by omega), h2 8 (by omega)]
    rcases g3 with ⟨o, c, q1, q2, q3⟩ | ⟨q, c, q1, q2, q3, q4⟩ | ⟨o, hh, m, a, c, f1, f2, f3, f4, f5, f6, f7, f8, f9, f10, f11, f12, f13, f14⟩
    · exact Or.inl ⟨o, c, by omega, by omega, q3⟩
    · exact Or.inr (Or.inl ⟨q, c, q1, q2, by omega, q4⟩)
    · refine Or.inr (Or.inr ⟨o, hh, m, a, c, by omega, by omega, f3, by omega, f5, by omega, f7, f8, f9, f10, f11, f12, ?_, ?_⟩)
      · rw [(h3 m f4).1]
        exact f13
      · rw [(h3 m f4).2]
        exact f14
theorem Rk.c {v : V} {S : Nat → Int32} {nd nm k : Nat} (h : Rk v S nd nm k) (hm : nm ≤ 10) : tn (S (14 + 10 * k + 8)) ≤ nm ∧ tn (S (14 + 10 * k + 7)) ≤ 9999 := by
  obtain ⟨-, -, ⟨o, c, q1, q2, q3, q4, q5, q6, q7⟩ | ⟨q, c, q1, q2, q3, q4, q5, q6, q7, q8⟩ | ⟨o, hh, m, a, c, f1, f2, f3, f4, f5, f6, f7, f8, f9, f10, f11, f12, f13, f14⟩⟩ := h
  · rw [q6, q7, tn_nI (by omega)]
    exact ⟨q2, by decide⟩
  · rw [q7, q8, tn_nI (by omega), tn_nI (by omega)]
    exact ⟨q3, q2⟩
  · rw [f11, f12, tn_nI (by omega)]
    exact ⟨by omega, by decide⟩
theorem bnd_max {v : V} {S : Nat → Int32} {nd ns nm t g e l : Nat} (h : Rn v S nd ns nm t g e l) : sm (bnd S) 20 ≤ 40199980 := by
  have := sm_le (f := bnd S) (c := 2009999) 20 (fun i hi => by
    by_cases q : i < ns
    · have h1 := (h.2.2.2.1 i q).c h.1.2.2.1
      have h2 : nm ≤ 10 := h.1.2.2.1
      unfold bnd
      omega
    · obtain ⟨-, h1, h2⟩ := h.2.2.2.2.1 i (by omega) hi
      unfold bnd
      rw [h1, h2]
      decide)
  omega
theorem ltl {c n : Nat} (h : n ≤ c) (hc : c < 2147483648) : ¬ nI c < nI n := by
  rw [n_lt hc (by omega)]
  omega
theorem lel {c n : Nat} (h : c ≤ n) (hn : n < 2147483648) : nI c ≤ nI n := by
  rw [n_le (by omega) hn]
  exact h
theorem gtl {c n : Nat} (h : n < c) (hc : c < 2147483648) : ¬ nI c ≤ nI n := by
  rw [n_le hc (by omega)]
  omega
theorem lt_n {c n : Nat} (h : c < n) (hn : n < 2147483648) : nI c < nI n := by
  rw [n_lt (by omega) hn]
  exact h
theorem nle {x y : Int32} (h : y < x) : ¬ x ≤ y := Int32.not_le.mpr h
theorem e10 : ((1 : Int32) = 0) = False := eq_false z10
theorem em1 : (¬ (0 : Int32) = -1) = True := eq_true (by decide)
/-- balances move -/
theorem mv {x : Int32} {B c : Nat} (hc : c ≤ 200000) (hB : B ≤ 41000000) (h : -(B : Int) ≤ x.toInt ∧ x.toInt ≤ B) : (-((B + c : Nat) : Int) ≤ (x + nI c).toInt ∧ (x + nI c).toInt ≤ ((B + c : Nat) : Int)) ∧ (-((B + c : Nat) : Int) ≤ (x - nI c).toInt ∧ (x - nI c).toInt ≤ ((B + c : Nat) : Int)) := by
  have e : (nI c).toInt = (c : Int) := nI_toInt (by omega)
  have e1 : (x + nI c).toInt = x.toInt + c := by
    rw [Int32.toInt_add, e, Int.bmod_eq_of_le (by omega) (by omega)]
  have e2 : (x - nI c).toInt = x.toInt - c := by
    rw [Int32.toInt_sub, e, Int.bmod_eq_of_le (by omega) (by omega)]
  rw [e1, e2]
  omega
theorem Sim.mk {C D : (Int32 → V → Prop) → Prop} {v w v' w' : V} {r : Int32} (h1 : ∀ post, C post = post r v') (h2 : ∀ post, D post = post r w') (hw : w' = sa w 1 (w' 1)) (hr : ¬ r < 0) (hR : R v' (w' 1)) : Sim C D v w := Sim.ok (w' 1) hr hR h1 h2 hw
theorem Rn_st {v v' : V} {S S' : Nat → Int32} {nd ns nm t g e l k : Nat} (h : Rn v S nd ns nm t g e l) (hk : k < ns) (a0 : v' 0 = v 0) (a6 : v' 6 = v 6) (a16 : v' 16 = v 16) (a2 : v' 2 = v 2) (a3 : v' 3 = v 3) (a4 : v' 4 = v 4) (a5 : v' 5 = v 5) (s1 : ∀ j, j < 8 → S' j = S j) (s2 : ∀ j, 264 ≤ j → S' j = S j) (hm : ∀ m, m < nm → Rm v' S' m) (hk' : Rk v' S' nd nm k) (ho : ∀ j, j ≠ k → j < 20 → eqV v' v j ∧ eqS S' S j) (hf : eqF S' S nm) (hb : Rb v' S' nd) (hB : BD S') : Rn v' S' nd ns nm t g e l := by
  obtain ⟨hg, -, ⟨hp, hT⟩, hk0, h0, -, -⟩ := h
  have n2 : ns ≤ 20 := hg.2.1
  refine ⟨?_, hb, ⟨RP_s (RP_c hp (fun i _ => by rw [a2]) (fun i _ => by rw [a3]) (fun i _ => by rw [a4]) (fun i _ => by rw [a5])) (fun j _ => s2 _ (by omega)), okT_s hT (fun j _ => s2 _ (by omega))⟩, fun j hj => ?_, fun j j1 j2 => ?_, hm, hB⟩
  · unfold Rg at hg ⊢
    rw [a0, a6, a16, a5, s1 0 (by omega), s1 1 (by omega), s1 2 (by omega), s1 3 (by omega), s1 4 (by omega), s1 5 (by omega), s1 6 (by omega), s1 7 (by omega)]
    exact hg
  · by_cases q : j = k
    · rw [q]
      exact hk'
    · exact Rk_c (hk0 j hj) (ho j q (by omega)).1 (ho j q (by omega)).2 hf (Nat.le_refl _) (Nat.le_refl _)
  · have := (ho j (by omega) j2).2
    unfold R0
    rw [this 6 (by omega), this 7 (by omega), this 8 (by omega)]
    exact h0 j j1 j2
theorem BB_k {S S' : Nat → Int32} (h : BB S) (h1 : ∀ d, d < 6 → S' (8 + d) = S (8 + d)) (h2 : ∀ j, j < 20 → S' (14 + 10 * j + 7) = S (14 + 10 * j + 7) ∧ S' (14 + 10 * j + 8) = S (14 + 10 * j + 8)) : BB S' := by
  have e : sm (bnd S') 20 = sm (bnd S) 20 := sm_cong 20 (fun i hi => by
    unfold bnd
    rw [(h2 i hi).1, (h2 i hi).2])
  intro d hd
  rw [e, h1 d hd]
  exact h d hd
theorem BD_k {S S' : Nat → Int32} (h : BD S) (h1 : ∀ d, d < 6 → S' (8 + d) = S (8 + d)) (h2 : ∀ j, j < 20 → S' (14 + 10 * j + 7) = S (14 + 10 * j + 7) ∧ S' (14 + 10 * j + 8) = S (14 + 10 * j + 8)) (h3 : ∀ j, 2 ≤ j → j ≤ 4 → S' j = S j) (h4 : ∀ j, 214 ≤ j → j < 264 → S' j = S j) : BD S' :=
  ⟨BB_k h.1 h1 h2, J1_s h.2.1 h1 (fun k hk => (h2 k hk).1), J2_s h.2.2.1 (h3 _ (by omega) (by omega)) (fun k hk => (h2 k hk).2), J3_s h.2.2.2 (h3 _ (by omega) (by omega)) (h3 _ (by omega) (by omega)) (fun m hm => ⟨h4 _ (by omega) (by omega), h4 _ (by omega) (by omega), h4 _ (by omega) (by omega)⟩)⟩
theorem BD_mv {S S' : Nat → Int32} {k a : Nat} (h : BD S) (hM : sm (bnd S) 20 ≤ 41000000 - 200000) (hk : k < 20) (ha : a ≤ 200000) (hbk : bnd S' k = bnd S k + a) (ho : ∀ j, j < 20 → j ≠ k → bnd S j = bnd S' j) (hd : ∀ d, d < 6 → S' (8 + d) = S (8 + d) ∨ ∃ c, c ≤ a ∧ (S' (8 + d) = S (8 + d) + nI c ∨ S' (8 + d) = S (8 + d) - nI c)) (hj1 : J1 S') (hj2 : J2 S' 0) (hj3 : J3 S') : BD S' := by
  have e : sm (bnd S') 20 = sm (bnd S) 20 + a := by
    have := sm_one (f := bnd S) (g := bnd S') (k := k) 20 hk ho
    omega
  refine ⟨fun d hd6 => ?_, hj1, hj2, hj3⟩
  rw [e]
  have h0 := h.1 d hd6
  rcases hd d hd6 with q | ⟨c, hc, q | q⟩
  · rw [q]
    omega
  · rw [q]
    have := (mv (c := c) (by omega) (by omega) h0).1
    omega
  · rw [q]
    have := (mv (c := c) (by omega) (by omega) h0).2
    omega
theorem base_pos {z : Int32} (h : -(41000000 : Int) ≤ z.toInt ∧ z.toInt ≤ 41000000) : ¬ z + 100000000 < 0 := by
  have e : (100000000 : Int32).toInt = 100000000 := by decide
  have e0 : (0 : Int32).toInt = 0 := by decide
  rw [Int32.lt_iff_toInt_lt, Int32.toInt_add, e, e0, Int.bmod_eq_of_le (by omega) (by omega)]
  omega
theorem nz_of {z : Int32} {q : Nat} (h : z = nI q) (h1 : 1 ≤ q) (h2 : q < 2147483648) : ¬ z = 0 := by
  rw [h]
  exact nI_ne0 h1 h2
theorem Pay.mk {C D : (V → Prop) → Prop} {v' w w' : V} {P : V → (Nat → Int32) → Prop} (h1 : ∀ post, C post = post v') (h2 : ∀ post, D post = post w') (hw : w' = sa w 1 (w' 1)) (hR : P v' (w' 1)) : ∃ v' S', (∀ post, C post = post v') ∧ (∀ post, D post = post (sa w 1 S')) ∧ P v' S' :=
  ⟨v', w' 1, h1, fun post => by rw [← hw]; exact h2 post, hR⟩
