/-! P29 2: mark, restore, undo, texts -/
theorem op_mark {G x s H a b c d p : V} {o n : Nat} (h : PI G x s H a b c d p o n) : ∃ G' s', (∀ post, s_X6_mark G x s post = post (x 0 5) G' x s') ∧ PI G' x s' H a b c d p o n := by
  refine ⟨st G 0 6 1, cpM s x, fun post => ?_, h.1, h.2.1, fun _ => h.1.cp s, h.2.2.2⟩
  unfold s_X6_mark
  rw [k_copy, b_all, sc_st]
theorem op_restore {G x s H a b c d p : V} {o n : Nat} (h : PI G x s H a b c d p o n) : (G 0 6 = 0 ∧ ∀ post, s_X6_restore G x s H a b c d post = post (-10000002) G x s H a b c d) ∨ (¬ G 0 6 = 0 ∧ ∃ x' H' a' b' c' d' o' n', (∀ post, s_X6_restore G x s H a b c d post = post (x' 0 5) G x' s H' a' b' c' d') ∧ PI G x' s H' a' b' c' d' p o' n' ∧ Aft n o' n' x x' a' b' c' d') := by
  obtain ⟨hR, hH, hS, hT⟩ := h
  by_cases hz : G 0 6 = 0
  · refine Or.inl ⟨hz, fun post => ?_⟩
    unfold s_X6_restore
    exact b_t' hz
  · obtain ⟨H', a', b', c', d', o', n', e1, e2, e3⟩ := push_HI hH hR
    refine Or.inr ⟨hz, cpM x s, H', a', b', c', d', o', n', fun post => ?_, ⟨(hS hz).cp x, e2, hS, hT⟩, ?_⟩
    · unfold s_X6_restore
      rw [b_f' hz, e1, k_copy]
    · rcases e3 with ⟨z1, z2⟩ | ⟨z1, z2, z3⟩
      · exact Or.inl ⟨z2.trans z1.symm, Or.inl z1⟩
      · exact Or.inr ⟨z1, z2, z3⟩
theorem op_undo {G x s H a b c d p : V} {o n : Nat} (h : PI G x s H a b c d p o n) : (n = 0 ∧ ∀ post, s_X6_undo G x H a b c d post = post (-10000002) G x H a b c d) ∨ (∃ k H', n = k + 1 ∧ (∀ post, s_X6_undo G x H a b c d post = post (nI k) G (cpM x (sl4 ((o + k) % 4) a b c d)) H' a b c d) ∧ PI G (cpM x (sl4 ((o + k) % 4) a b c d)) s H' a b c d p o k) := by
  obtain ⟨hR, ⟨ho, hn, h1, h2, hh⟩, hS, hT⟩ := h
  cases n with
  | zero =>
    refine Or.inl ⟨rfl, fun post => ?_⟩
    unfold s_X6_undo
    rw [h2]
    exact b_t' rfl
  | succ k =>
    have hn0 : ¬ nI (k + 1) = 0 := nI_ne0 (by omega) (by omega)
    refine Or.inr ⟨k, st H 0 2 (nI k), rfl, fun post => ?_, ⟨(hh k (by omega)).cp x, ⟨ho, by omega, ?_, ?_, fun i hi => hh i (by omega)⟩, hS, hT⟩⟩
    · unfold s_X6_undo
      rw [h2, b_f' hn0, pop_in h1 h2 ho (by omega), st1, u_s]
    · rw [st1, u_n (by decide)]
      exact h1
    · rw [st1, u_s]
/-- the text's signs -/
def TC (p : V) (m : Nat) (c : Nat → Nat) : Prop := m ≤ 60 ∧ p 0 1 = nI m ∧ (∀ i, i < m → p 1 i = nI (c i) ∧ 32 ≤ c i ∧ c i ≤ 126) ∧ ∀ i, m ≤ i → c i = 0
theorem TC.ti {p : V} {m : Nat} {c : Nat → Nat} (h : TC p m c) : TI p := ⟨m, h.1, h.2.1, fun i hi => ⟨c i, (h.2.2.1 i hi).2.1, (h.2.2.1 i hi).2.2, (h.2.2.1 i hi).1⟩⟩
theorem TI.tc {p : V} (h : TI p) : ∃ m c, TC p m c := by
  obtain ⟨m, h1, h2, h3⟩ := h
  refine ⟨m, fun i => if i < m then tn (p 1 i) else 0, h1, h2, fun i hi => ?_, fun i hi => if_neg (by omega)⟩
  obtain ⟨k, k1, k2, k3⟩ := h3 i hi
  have e : (if i < m then tn (p 1 i) else 0) = k := by rw [if_pos hi, k3, tn_nI (by omega)]
  show p 1 i = nI (if i < m then tn (p 1 i) else 0) ∧ 32 ≤ (if i < m then tn (p 1 i) else 0) ∧ (if i < m then tn (p 1 i) else 0) ≤ 126
  rw [e]
  exact ⟨k3, k1, k2⟩
theorem op_clear {G p : V} {m : Nat} {c : Nat → Nat} (h : TC p m c) : ∃ p', (∀ post, s_X6_clearText G p post = post (nI m) G p') ∧ TC p' 0 (fun _ => 0) := by
  refine ⟨st p 0 1 0, fun post => ?_, by decide, ?_, fun i hi => by omega, fun i _ => rfl⟩
  · unfold s_X6_clearText
    rw [b_all, sc_st, h.2.1]
  · rw [st1, u_s]
    rfl
theorem op_type {G p : V} {m k : Nat} {c : Nat → Nat} (h : TC p m c) (hm : m < 60) (k1 : 32 ≤ k) (k2 : k ≤ 126) : ∃ p' c', (∀ post, s_X6_type G p (nI k) post = post (nI (m + 1)) G p') ∧ TC p' (m + 1) c' := by
  obtain ⟨h0, h1, h2, h3⟩ := h
  have f1 : ¬ nI k < 32 := ltl (n := 32) k1 (by omega)
  have f2 : nI k ≤ 126 := lel (n := 126) k2 (by omega)
  obtain ⟨c1, c2⟩ := char_id k (by omega)
  have f0 : ¬ nI m < 0 := n_neg (by omega)
  have f4 : nI m < 60 := lt_n (n := 60) (by omega) (by omega)
  refine ⟨st (st p 1 m (nI k)) 0 1 (nI (m + 1)), fun i => if i = m then k else c i, fun post => ?_, by omega, ?_, fun i hi => ?_, fun i hi => ?_⟩
  · unfold s_X6_type s_X4_append
    rw [b_f f1, b_t f2, h1, b_f f0, b_t f4, b_and (vp_in_nI (by omega) (by decide)), b_all, b_all, c1, c2, tn_nI (by omega), sc_st]
    simp (disch := omega) only [st1, st1n, u_s, u_n, h1, nI_1]
  · rw [st1, u_s]
  · show (st (st p 1 m (nI k)) 0 1 (nI (m + 1))) 1 i = nI (if i = m then k else c i) ∧ 32 ≤ (if i = m then k else c i) ∧ (if i = m then k else c i) ≤ 126
    by_cases q : i = m
    · subst q
      rw [if_pos rfl, st1n (by decide), st1, u_s]
      exact ⟨rfl, k1, k2⟩
    · rw [if_neg q, st1n (by decide), st1, u_n q]
      exact h2 i (by omega)
  · show (if i = m then k else c i) = 0
    rw [if_neg (by omega)]
    exact h3 i (by omega)
/-- a world of the reference's that holds a row and a text -/
def tw (S : Nat → Int32) (m : Nat) (c : Nat → Nat) : V := sa (sa (st z0 0 7 (nI m)) 5 (fun i => nI (c i))) 1 S
theorem tw1 (S : Nat → Int32) (m : Nat) (c : Nat → Nat) : tw S m c 1 = S := sa_1 _ _ _
theorem TC.tr {p : V} {m : Nat} {c : Nat → Nat} (h : TC p m c) (S : Nat → Int32) : Tr p (tw S m c) m c := by
  obtain ⟨h0, h1, h2, h3⟩ := h
  refine ⟨h0, h1, ?_, fun i hi => ⟨(h2 i hi).1, ?_, (h2 i hi).2.1, (h2 i hi).2.2⟩, h3⟩
  · unfold tw
    rw [sa_n (by decide), sa_n (by decide), st1, u_s]
  · unfold tw
    rw [sa_n (by decide), sa_1]
theorem Tr.tc {p w : V} {m : Nat} {c : Nat → Nat} (h : Tr p w m c) : TC p m c := ⟨h.1, h.2.1, fun i hi => ⟨(h.2.2.2.1 i hi).1, (h.2.2.2.1 i hi).2.2.1, (h.2.2.2.1 i hi).2.2.2⟩, h.2.2.2.2⟩
/-- what a run of a text comes to -/
def Res (m : Nat) (g ra rb : Int32) (k : Nat) (p' : V) : Prop := (g = -1 ∧ p' 0 5 = -1 ∧ 7 * k ≤ m) ∨ (∃ i, i < m ∧ g = nI i ∧ p' 0 5 = nI i ∧ p' 0 6 = ra ∧ p' 0 7 = rb ∧ ((ra = 1 ∧ rb = -10000004) ∨ (ra = 2 ∧ bad rb)))
theorem run_det (S : Nat → Int32) (m : Nat) (c : Nat → Nat) : ∃ g ra rb, ∀ p x, TC p m c → R x S → ∃ p' x' k, (∀ post, s_X4_runOn p x post = post (nI k) p' x') ∧ PR x' ∧ TC p' m c ∧ k ≤ 60 ∧ Res m g ra rb k p' := by
  by_cases hex : ∃ p x, TC p m c ∧ R x S
  rotate_left
  · exact ⟨0, 0, 0, fun p x h1 h2 => absurd ⟨p, x, h1, h2⟩ hex⟩
  · obtain ⟨p0, x0, t0, r0⟩ := hex
    obtain ⟨-, -, w0, -, g0, -, d0, -⟩ := runs (t0.tr S) (show R x0 (tw S m c 1) by rw [tw1]; exact r0)
    refine ⟨g0, if w0 0 11 = 0 then 1 else 2, if w0 0 11 = 0 then -10000004 else w0 0 10, fun p x h1 h2 => ?_⟩
    obtain ⟨p', x', w', k, g, e1, e2, e3, e4, e5, e6, e7⟩ := runs (h1.tr S) (show R x (tw S m c 1) by rw [tw1]; exact h2)
    obtain ⟨q1, q2⟩ := det e2 d0
    rw [← q1, ← q2]
    refine ⟨p', x', k, e1, ⟨_, e5⟩, e6.tc, e4, ?_⟩
    rcases e3 with ⟨z1, z2, -, z3⟩ | ⟨i, z1, z2, z3, ⟨z4, z5, z6⟩ | ⟨z4, z5, z6, z7⟩⟩
    · exact Or.inl ⟨z2, z1, z3⟩
    · rw [if_pos z6, if_pos z6]
      exact Or.inr ⟨i, z1, z3, z2, z4, z5, Or.inl ⟨rfl, rfl⟩⟩
    · rw [if_neg (show ¬ w' 0 11 = 0 by rw [z6]; decide), if_neg (show ¬ w' 0 11 = 0 by rw [z6]; decide)]
      exact Or.inr ⟨i, z1, z3, z2, z4, z5, Or.inr ⟨rfl, z5 ▸ z7⟩⟩
/-- what fault tells -/
def ftV (g ra rb : Int32) (u : Nat) : Int32 := if g = -1 then -10000004 else if u = 0 then g else if u = 1 then ra else rb
theorem ft_tell {p : V} {m k u : Nat} {g ra rb : Int32} (h : Res m g ra rb k p) (hm : m ≤ 60) (hu : u < 3) (post : Int32 → V → Prop) : s_X4_tellFault p (nI u) post = post (ftV g ra rb u) p := by
  unfold s_X4_tellFault ftV
  rcases h with ⟨z1, z2, -⟩ | ⟨i, z1, z2, z3, z4, z5, -⟩
  · rw [z2, b_t' (show (-1 : Int32) = -1 from rfl), if_pos z1]
  · have hi : ¬ nI i = -1 := n_m1 (by omega)
    rw [z3, b_f' hi, z2, if_neg hi, z4, z5]
    rcases (show u = 0 ∨ u = 1 ∨ u = 2 by omega) with rfl | rfl | rfl
    · rw [b_t' (show nI 0 = 0 from rfl), if_pos rfl]
    · rw [b_f' (show ¬ nI 1 = 0 by decide), b_t' (show nI 1 = 1 from rfl), if_neg (by decide), if_pos rfl]
    · rw [b_f' (show ¬ nI 2 = 0 by decide), b_f' (show ¬ nI 2 = 1 by decide), if_neg (by decide), if_neg (by decide)]
theorem op_text {G x s H a b c d p : V} {o n m : Nat} {cc : Nat → Nat} (h : PI G x s H a b c d p o n) (hT : TC p m cc) : ∃ g ra rb, ((g = -1) ∨ (∃ i, i < m ∧ g = nI i ∧ ((ra = 1 ∧ rb = -10000004) ∨ (ra = 2 ∧ bad rb)))) ∧ (∀ p y u, TC p m cc → u < 3 → ∃ y' p', (∀ post, s_X6_fault G x y p (nI u) post = post (ftV g ra rb u) G x y' p') ∧ TC p' m cc) ∧ (∀ p y, TC p m cc → ∃ r x' y' H' a' b' c' d' p' o' n', (∀ post, s_X6_play G x y H a b c d p post = post r G x' y' H' a' b' c' d' p') ∧ TC p' m cc ∧ PI G x' s H' a' b' c' d' p' o' n' ∧ Aft n o' n' x x' a' b' c' d' ∧ ((g = -1 ∧ ∃ k, 7 * k ≤ m ∧ r = nI k) ∨ (¬ g = -1 ∧ r = -10000002))) := by
  obtain ⟨hR, hH, hS, -⟩ := h
  obtain ⟨S, hxS⟩ := hR
  obtain ⟨g, ra, rb, hd⟩ := run_det S m cc
  have hm60 : m ≤ 60 := hT.1
  have hc : ∀ y, R (cpM y x) S := fun y => R_v hxS (Ag_copy y x)
  refine ⟨g, ra, rb, ?_, fun p y u tp hu => ?_, fun p y tp => ?_⟩
  · obtain ⟨p', x', k, -, -, -, -, e⟩ := hd p x hT hxS
    rcases e with ⟨z1, -⟩ | ⟨i, z1, z2, -, -, -, z6⟩
    · exact Or.inl z1
    · exact Or.inr ⟨i, z1, z2, z6⟩
  · obtain ⟨p', x', k, e1, e2, e3, e4, e5⟩ := hd p (cpM y x) tp (hc y)
    refine ⟨x', p', fun post => ?_, e3⟩
    unfold s_X6_fault
    rw [b_f (n_neg (by omega)), b_t (show nI u ≤ 2 from lel (n := 2) (by omega) (by omega)), k_copy, e1, ft_tell e5 hm60 hu]
  · obtain ⟨p', x', k, e1, e2, e3, e4, e5⟩ := hd p (cpM y x) tp (hc y)
    rcases e5 with ⟨z1, z2, z3⟩ | ⟨i, z1, z2, z3, -⟩
    · obtain ⟨H', a', b', c', d', o', n', f1, f2, f3⟩ := push_HI hH ⟨S, hxS⟩
      refine ⟨nI k, cpM x x', x', H', a', b', c', d', p', o', n', fun post => ?_, e3, ⟨e2.cp x, f2, hS, e3.ti⟩, ?_, Or.inl ⟨z1, k, z3, rfl⟩⟩
      · unfold s_X6_play s_X4_hasFault
        rw [k_copy, e1, z2, b_t (show (-1 : Int32) = -1 from rfl)]
        show (_ ∧ _) = _
        rw [b_t z00, f1, k_copy]
      · rcases f3 with ⟨y1, y2⟩ | ⟨y1, y2, y3⟩
        · exact Or.inl ⟨y2.trans y1.symm, Or.inl y1⟩
        · exact Or.inr ⟨y1, y2, y3⟩
    · have hi : ¬ nI i = -1 := n_m1 (by omega)
      refine ⟨-10000002, x, x', H, a, b, c, d, p', o, n, fun post => ?_, e3, ⟨⟨S, hxS⟩, hH, hS, e3.ti⟩, Or.inl ⟨rfl, Or.inr rfl⟩, Or.inr ⟨by rw [z2]; exact hi, rfl⟩⟩
      unfold s_X6_play s_X4_hasFault
      rw [k_copy, e1, z3, b_f hi]
      show (_ ∧ _) = _
      rw [b_f z10]
