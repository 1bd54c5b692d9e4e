/-! P29 1: the law's state, acts and what they leave behind -/
theorem det {C : (Int32 → V → Prop) → Prop} {r r2 : Int32} {x x2 : V} (h : ∀ post, C post = post r x) (h2 : ∀ post, C post = post r2 x2) : r = r2 ∧ x = x2 := by
  have e : (r = r2 ∧ x = x2) = (r2 = r2 ∧ x2 = x2) := (h (fun a b => a = r2 ∧ b = x2)).symm.trans (h2 (fun a b => a = r2 ∧ b = x2))
  rw [e]
  exact ⟨rfl, rfl⟩
theorem Ag_rf (v : V) : Ag v v := by
  unfold Ag
  refine ⟨rfl, rfl, rfl, rfl, rfl, rfl, rfl, ?_, ?_, ?_, ?_, ?_, ?_, ?_, ?_, ?_, ?_, ?_, ?_, ?_, ?_, ?_, ?_, ?_, ?_, ?_⟩ <;> exact fun i _ => rfl
theorem Ag_tr {a b c : V} (h : Ag a b) (k : Ag b c) : Ag a c := by
  obtain ⟨a1, a2, a3, a4, a5, a6, a7, b2, b3, b4, b5, c7, c8, c9, c10, c11, c12, c13, c14, c15, d17, d18, d19, d20, d21, d22⟩ := h
  obtain ⟨A1, A2, A3, A4, A5, A6, A7, B2, B3, B4, B5, C7, C8, C9, C10, C11, C12, C13, C14, C15, D17, D18, D19, D20, D21, D22⟩ := k
  exact ⟨a1.trans A1, a2.trans A2, a3.trans A3, a4.trans A4, a5.trans A5, a6.trans A6, a7.trans A7, fun i hi => (b2 i hi).trans (B2 i hi), fun i hi => (b3 i hi).trans (B3 i hi), fun i hi => (b4 i hi).trans (B4 i hi), fun i hi => (b5 i hi).trans (B5 i hi), fun i hi => (c7 i hi).trans (C7 i hi), fun i hi => (c8 i hi).trans (C8 i hi), fun i hi => (c9 i hi).trans (C9 i hi), fun i hi => (c10 i hi).trans (C10 i hi), fun i hi => (c11 i hi).trans (C11 i hi), fun i hi => (c12 i hi).trans (C12 i hi), fun i hi => (c13 i hi).trans (C13 i hi), fun i hi => (c14 i hi).trans (C14 i hi), fun i hi => (c15 i hi).trans (C15 i hi), fun i hi => (d17 i hi).trans (D17 i hi), fun i hi => (d18 i hi).trans (D18 i hi), fun i hi => (d19 i hi).trans (D19 i hi), fun i hi => (d20 i hi).trans (D20 i hi), fun i hi => (d21 i hi).trans (D21 i hi), fun i hi => (d22 i hi).trans (D22 i hi)⟩
/-- a market that is in order -/
def PR (x : V) : Prop := ∃ S, R x S
theorem PR.v {x y : V} (h : PR x) (ha : Ag y x) : PR y := by
  obtain ⟨S, h⟩ := h
  exact ⟨S, R_v h ha⟩
theorem PR.cp {x : V} (y : V) (h : PR x) : PR (cpM y x) := h.v (Ag_copy y x)
/-- a history of n states, the oldest one at o -/
def HI (H a b c d : V) (o n : Nat) : Prop := o < 4 ∧ n ≤ 4 ∧ H 0 1 = nI o ∧ H 0 2 = nI n ∧ ∀ i, i < n → PR (sl4 ((o + i) % 4) a b c d)
def GI (G s : V) : Prop := ¬ G 0 6 = 0 → PR s
def TI (p : V) : Prop := ∃ n, n ≤ 60 ∧ p 0 1 = nI n ∧ ∀ i, i < n → ∃ k, 32 ≤ k ∧ k ≤ 126 ∧ p 1 i = nI k
def PI (G x s H a b c d p : V) (o n : Nat) : Prop := PR x ∧ HI H a b c d o n ∧ GI G s ∧ TI p
theorem push_HI_in {H a b c d z : V} {o n : Nat} (h : HI H a b c d o n) (hn : n < 4) (hz : PR z) : ∃ H' a' b' c' d', (∀ post, s_X0_push H a b c d z post = post H' a' b' c' d' z) ∧ HI H' a' b' c' d' o (n + 1) ∧ Ag (sl4 ((o + n) % 4) a' b' c' d') z := by
  obtain ⟨ho, -, h1, h2, hh⟩ := h
  have hq : (o + n) % 4 < 4 := by omega
  refine ⟨_, _, _, _, _, fun post => push_in h1 h2 ho hn, ⟨ho, by omega, ?_, ?_, fun i hi => ?_⟩, ?_⟩
  · rw [st1, u_n (by decide)]
    exact h1
  · rw [st1, u_s]
  · by_cases q : i = n
    · subst q
      rw [sl4_eq hq, sl4_cp]
      exact hz.cp _
    · rw [sl4_ne (show (o + i) % 4 < 4 by omega) hq (by omega)]
      exact hh i (by omega)
  · rw [sl4_eq hq, sl4_cp]
    exact Ag_copy _ _
theorem push_HI {H a b c d z : V} {o n : Nat} (h : HI H a b c d o n) (hz : PR z) : ∃ H' a' b' c' d' o' n', (∀ post, s_X0_push H a b c d z post = post H' a' b' c' d' z) ∧ HI H' a' b' c' d' o' n' ∧ ((n = 4 ∧ n' = 4) ∨ (n < 4 ∧ n' = n + 1 ∧ Ag (sl4 ((o' + n) % 4) a' b' c' d') z)) := by
  by_cases hn : n < 4
  · obtain ⟨H', a', b', c', d', e1, e2, e3⟩ := push_HI_in h hn hz
    exact ⟨H', a', b', c', d', o, n + 1, e1, e2, Or.inr ⟨hn, rfl, e3⟩⟩
  · obtain ⟨ho, hn4, h1, h2, hh⟩ := h
    obtain rfl : n = 4 := by omega
    have hI : HI (st (st H 0 1 (nI ((o + 1) % 4))) 0 2 (nI 3)) a b c d ((o + 1) % 4) 3 := by
      refine ⟨by omega, by omega, ?_, ?_, fun i hi => ?_⟩
      · rw [st1, u_n (by decide), st1, u_s]
      · rw [st1, u_s]
      · have := hh (i + 1) (by omega)
        rw [show ((o + 1) % 4 + i) % 4 = (o + (i + 1)) % 4 by omega]
        exact this
    obtain ⟨H', a', b', c', d', e1, e2, -⟩ := push_HI_in hI (by decide) hz
    exact ⟨H', a', b', c', d', _, 4, fun post => (push_full h1 h2 ho).trans (e1 post), e2, Or.inl ⟨rfl, rfl⟩⟩
/-- what an act leaves: no more than it was, or one state more, that of before -/
def Aft (n o' n' : Nat) (x x' a' b' c' d' : V) : Prop := (n' = n ∧ (n = 4 ∨ x' = x)) ∨ (n < 4 ∧ n' = n + 1 ∧ Ag (sl4 ((o' + n) % 4) a' b' c' d') x)
/-- a recorded command -/
def Op (F : (Int32 → V → V → V → V → V → V → V → V → Prop) → Prop) (C : (Int32 → V → Prop) → Prop) (G x s p : V) (n : Nat) : Prop := ∃ r x' y' H' a' b' c' d' o' n', (∀ post, F post = post r G x' y' H' a' b' c' d') ∧ (∀ post, C post = post r x') ∧ PI G x' s H' a' b' c' d' p o' n' ∧ Aft n o' n' x x' a' b' c' d' ∧ ((¬ r < 0) ∨ (bad r ∧ x' = x))
theorem Op.of {G x y s H a b c d p w : V} {o n : Nat} {C D : (Int32 → V → Prop) → Prop} {F : (Int32 → V → V → V → V → V → V → V → V → Prop) → Prop} (h : PI G x s H a b c d p o n) (hF : ∀ post, F post = C (fun r v4 => s_X6_recorded G (cpM y x) H a b c d r (fun r5 g bb h a b c d => post r5 g v4 bb h a b c d))) (hp : Pub C D x w) : Op F C G x s p n := by
  obtain ⟨hR, hH, hS, hT⟩ := h
  rcases hp with ⟨r, x', S', h1, -, h3, h4⟩ | ⟨r, hr, h1, -⟩
  · obtain ⟨H', a', b', c', d', o', n', e1, e2, e3⟩ := push_HI hH (hR.cp y)
    refine ⟨r, x', cpM y x, H', a', b', c', d', o', n', fun post => ?_, h1, ⟨⟨S', h4⟩, e2, hS, hT⟩, ?_, Or.inl h3⟩
    · rw [hF, h1]
      unfold s_X6_recorded
      rw [b_f h3, e1]
    · rcases e3 with ⟨z1, z2⟩ | ⟨z1, z2, z3⟩
      · exact Or.inl ⟨z2.trans z1.symm, Or.inl z1⟩
      · exact Or.inr ⟨z1, z2, Ag_tr z3 (Ag_copy y x)⟩
  · refine ⟨r, x, cpM y x, H, a, b, c, d, o, n, fun post => ?_, h1, ⟨hR, hH, hS, hT⟩, Or.inl ⟨rfl, Or.inr rfl⟩, Or.inr ⟨hr, rfl⟩⟩
    rw [hF, h1]
    unfold s_X6_recorded
    rw [b_t hr.1]
/-- a world that holds a row -/
def gw (S : Nat → Int32) : V := sa z0 1 S
theorem gw1 (S : Nat → Int32) : gw S 1 = S := sa_1 _ _ _
theorem gwR {x : V} {S : Nat → Int32} (h : R x S) : R x ((gw S) 1) := by
  rw [gw1]
  exact h
theorem op_dealer {G x y s H a b c d p : V} {o n : Nat} (h : PI G x s H a b c d p o n) : Op (s_X6_dealer G x y H a b c d) (s_X1_addDealer x) G x s p n := by
  obtain ⟨S, hS⟩ := h.1
  exact Op.of h (fun post => k_copy y x _) (pub_dealer (gwR hS))
theorem op_stone {G x y s H a b c d p : V} {o n : Nat} (h : PI G x s H a b c d p o n) (p1 p2 p3 p4 : Int32) : Op (s_X6_stone G x y H a b c d p1 p2 p3 p4) (s_X1_addStone x p1 p2 p3 p4) G x s p n := by
  obtain ⟨S, hS⟩ := h.1
  exact Op.of h (fun post => k_copy y x _) (pub_stone (gwR hS) p1 p2 p3 p4)
theorem op_rate {G x y s H a b c d p : V} {o n : Nat} (h : PI G x s H a b c d p o n) (p1 p2 p3 p4 : Int32) : Op (s_X6_rate G x y H a b c d p1 p2 p3 p4) (s_X1_putRate x p1 p2 p3 p4) G x s p n := by
  obtain ⟨S, hS⟩ := h.1
  exact Op.of h (fun post => k_copy y x _) (Sim.pub (sim_rate (gwR hS) p1 p2 p3 p4))
theorem op_unrate {G x y s H a b c d p : V} {o n : Nat} (h : PI G x s H a b c d p o n) (p1 p2 p3 : Int32) : Op (s_X6_unrate G x y H a b c d p1 p2 p3) (s_X1_takeRate x p1 p2 p3) G x s p n := by
  obtain ⟨S, hS⟩ := h.1
  exact Op.of h (fun post => k_copy y x _) (pub_unrate (gwR hS) p1 p2 p3)
theorem op_lend {G x y s H a b c d p : V} {o n : Nat} (h : PI G x s H a b c d p o n) (p1 p2 p3 p4 : Int32) : Op (s_X6_lend G x y H a b c d p1 p2 p3 p4) (s_X1_lendStones x p1 p2 p3 p4) G x s p n := by
  obtain ⟨S, hS⟩ := h.1
  exact Op.of h (fun post => k_copy y x _) (Sim.pub (sim_lend (gwR hS) p1 p2 p3 p4))
theorem op_back {G x y s H a b c d p : V} {o n : Nat} (h : PI G x s H a b c d p o n) (p1 : Int32) : Op (s_X6_back G x y H a b c d p1) (s_X1_giveBack x p1) G x s p n := by
  obtain ⟨S, hS⟩ := h.1
  exact Op.of h (fun post => k_copy y x _) (Sim.pub (sim_back (gwR hS) p1))
theorem op_keep {G x y s H a b c d p : V} {o n : Nat} (h : PI G x s H a b c d p o n) (p1 : Int32) : Op (s_X6_keep G x y H a b c d p1) (s_X1_keepStone x p1) G x s p n := by
  obtain ⟨S, hS⟩ := h.1
  exact Op.of h (fun post => k_copy y x _) (Sim.pub (sim_keep (gwR hS) p1))
theorem op_sell {G x y s H a b c d p : V} {o n : Nat} (h : PI G x s H a b c d p o n) (p1 p2 : Int32) : Op (s_X6_sell G x y H a b c d p1 p2) (s_X1_sellStone x p1 p2) G x s p n := by
  obtain ⟨S, hS⟩ := h.1
  exact Op.of h (fun post => k_copy y x _) (Sim.pub (sim_sell (gwR hS) p1 p2))
theorem op_grade {G x y s H a b c d p : V} {o n : Nat} (h : PI G x s H a b c d p o n) (p1 p2 p3 : Int32) : Op (s_X6_grade G x y H a b c d p1 p2 p3) (s_X1_regrade x p1 p2 p3) G x s p n := by
  obtain ⟨S, hS⟩ := h.1
  exact Op.of h (fun post => k_copy y x _) (Sim.pub (sim_grade (gwR hS) p1 p2 p3))
theorem op_pause {G x y s H a b c d p : V} {o n : Nat} (h : PI G x s H a b c d p o n) (p1 : Int32) : Op (s_X6_pause G x y H a b c d p1) (s_X1_passDays x p1) G x s p n := by
  obtain ⟨S, hS⟩ := h.1
  exact Op.of h (fun post => k_copy y x _) (Sim.pub (sim_pause (gwR hS) p1))
theorem op_set {G x y s H a b c d p : V} {o n : Nat} (h : PI G x s H a b c d p o n) (p1 p2 : Int32) : Op (s_X6_set G x y H a b c d p1 p2) (s_X1_putSetting x p1 p2) G x s p n := by
  obtain ⟨S, hS⟩ := h.1
  exact Op.of h (fun post => k_copy y x _) (pub_set (gwR hS) p1 p2)
