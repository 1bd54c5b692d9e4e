/-! PURE 23: the law's state; a recorded command -/
def SN (G s w : V) : Prop := G 0 6 = w 0 3 ∧ (¬ w 0 3 = 0 → R s (w 3))
def TX (c w : V) : Prop := ∃ n, n ≤ 60 ∧ c 0 1 = nI n ∧ w 0 7 = nI n ∧ ∀ i, i < n → c 1 i = w 5 i ∧ ∃ k, 32 ≤ k ∧ k ≤ 126 ∧ w 5 i = nI k
def LI (G x s H a b c d p w : V) : Prop := R x (w 1) ∧ HR H a b c d w ∧ SN G s w ∧ TX p w
theorem HR_c {H a b c d w w' : V} (h : HR H a b c d w) (h5 : w' 0 5 = w 0 5) (h4 : w' 4 = w 4) : HR H a b c d w' := by
  obtain ⟨o, n, ho, hn, h1, h2, h3, hR⟩ := h
  exact ⟨o, n, ho, hn, h1, h2, h5.trans h3, fun i hi => by rw [h4]; exact hR i hi⟩
theorem SN_c {G s w w' : V} (h : SN G s w) (h0 : w' 0 3 = w 0 3) (h3 : w' 3 = w 3) : SN G s w' := by
  unfold SN at h ⊢
  rw [h0, h3]
  exact h
theorem TX_c {p w w' : V} (h : TX p w) (h0 : w' 0 7 = w 0 7) (h5 : w' 5 = w 5) : TX p w' := by
  obtain ⟨n, h1, h2, h3, h4⟩ := h
  exact ⟨n, h1, h2, h0.trans h3, fun i hi => by rw [h5]; exact h4 i hi⟩
theorem low_of {r : Int32} (h : ¬ r < 0) : -10000001 < r := by
  rw [Int32.lt_iff_toInt_lt] at h ⊢
  have h0 : (0 : Int32).toInt = 0 := by decide
  have h1 : (-10000001 : Int32).toInt = -10000001 := by decide
  omega
/-- the state at the beginning of a command is kept in row 2 -/
def bg (w : V) : V := fO w 2 0 (w 1) 664
theorem bg_n {w : V} {q : Nat} (h : q ≠ 2) : bg w q = w q := fO_ne h
theorem bg_2 (w : V) {j : Nat} (h : j < 664) : bg w 2 j = w 1 j := by
  unfold bg
  rw [fO_at, if_pos (by omega), Nat.sub_zero]
theorem law_pub {G x y s H a b c d p w : V} {C D : (Int32 → V → Prop) → Prop} {F : (Int32 → V → V → V → V → V → V → V → V → Prop) → Prop} {E : (Int32 → V → Prop) → Prop} (hL : LI G x s H a b c d p w) (hF : ∀ post, F post = C (fun r v4 => s_X6_recorded G (cpM y x) H a b c d r (fun r5 g bb h a b c d => post r5 g v4 bb h a b c d))) (hE : ∀ post, E post = D post) (hp : Pub C D x (bg w)) : ∃ r x' H' a' b' c' d' w', (∀ post, F post = post r G x' (cpM y x) H' a' b' c' d') ∧ (∀ post, E post = post r w') ∧ LI G x' s H' a' b' c' d' p w' := by
  obtain ⟨hR, hH, hS, hT⟩ := hL
  rcases hp with ⟨r, x', S', h1, h2, h3, h4⟩ | ⟨r, hr, h1, h2⟩
  · have hx : R (cpM y x) ((sa (bg w) 1 S') 2) := by
      rw [sa_n (by decide)]
      exact R_s (R_v hR (Ag_copy _ _)) (fun j hj => bg_2 w hj)
    have hH' : HR H a b c d (sa (bg w) 1 S') := HR_c hH (by rw [sa_n (by decide), bg_n (by decide)]) (by rw [sa_n (by decide), bg_n (by decide)])
    obtain ⟨H', a', b', c', d', w', r1, r2, r3, r4, r5⟩ := record hH' hx (low_of h3)
    refine ⟨r, x', H', a', b', c', d', w', fun post => ?_, fun post => by rw [hE, h2, r2], ?_, r3, ?_, ?_⟩
    · rw [hF, h1]
      unfold s_X6_recorded
      rw [b_f h3, r1]
    · rw [r4 1 (by decide) (by decide), sa_1]
      exact h4
    · exact SN_c hS (by rw [r5 3 (by decide), sa_n (by decide), bg_n (by decide)]) (by rw [r4 3 (by decide) (by decide), sa_n (by decide), bg_n (by decide)])
    · exact TX_c hT (by rw [r5 7 (by decide), sa_n (by decide), bg_n (by decide)]) (by rw [r4 5 (by decide) (by decide), sa_n (by decide), bg_n (by decide)])
  · have hf : ∀ post, F post = post r G x (cpM y x) H a b c d := fun post => by
      rw [hF, h1]
      unfold s_X6_recorded
      rw [b_t hr.1]
    rcases h2 with h2 | h2
    · refine ⟨r, x, H, a, b, c, d, bg w, hf, fun post => by rw [hE, h2], ?_, HR_c hH (by rw [bg_n (by decide)]) (by rw [bg_n (by decide)]), SN_c hS (by rw [bg_n (by decide)]) (by rw [bg_n (by decide)]), TX_c hT (by rw [bg_n (by decide)]) (by rw [bg_n (by decide)])⟩
      rw [bg_n (by decide)]
      exact hR
    · refine ⟨r, x, H, a, b, c, d, fO (bg w) 1 0 (bg w 2) 664, hf, fun post => by rw [hE, h2, q_act_err hr.2], ?_, HR_c hH (by rw [fO_ne (by decide), bg_n (by decide)]) (by rw [fO_ne (by decide), bg_n (by decide)]), SN_c hS (by rw [fO_ne (by decide), bg_n (by decide)]) (by rw [fO_ne (by decide), bg_n (by decide)]), TX_c hT (by rw [fO_ne (by decide), bg_n (by decide)]) (by rw [fO_ne (by decide), bg_n (by decide)])⟩
      exact R_s hR (fun j hj => by rw [fO_at, if_pos (by omega), Nat.sub_zero, bg_2 w hj])
theorem bg_R {x w : V} (h : R x (w 1)) : R x ((fO w 2 0 (w 1) 664) 1) := by
  rw [fO_ne (by decide)]
  exact h
/-- what a recorded command comes to -/
def Rec (F : (Int32 → V → V → V → V → V → V → V → V → Prop) → Prop) (E : (Int32 → V → Prop) → Prop) (G s p : V) : Prop := ∃ r x' y' H' a' b' c' d' w', (∀ post, F post = post r G x' y' H' a' b' c' d') ∧ (∀ post, E post = post r w') ∧ LI G x' s H' a' b' c' d' p w'
theorem Rec.of {G x y s H a b c d p w : V} {C D : (Int32 → V → Prop) → Prop} {F : (Int32 → V → V → V → V → V → V → V → V → Prop) → Prop} {E : (Int32 → V → Prop) → Prop} (hL : LI G x s H a b c d p w) (hF : ∀ post, F post = C (fun r v4 => s_X6_recorded G (cpM y x) H a b c d r (fun r5 g bb h a b c d => post r5 g v4 bb h a b c d))) (hE : ∀ post, E post = D post) (hp : Pub C D x (bg w)) : Rec F E G s p := by
  obtain ⟨r, x', H', a', b', c', d', w', h1, h2, h3⟩ := law_pub hL hF hE hp
  exact ⟨r, x', _, H', a', b', c', d', w', h1, h2, h3⟩
theorem rec_dealer {G x y s H a b c d p w : V} (hL : LI G x s H a b c d p w) : Rec (s_X6_dealer G x y H a b c d) (s_X7_dealer w) G s p :=
  Rec.of hL (fun post => k_copy y x _) (fun post => q_dealer w post) (pub_dealer (bg_R hL.1))
theorem rec_stone {G x y s H a b c d p w : V} (hL : LI G x s H a b c d p w) (p1 p2 p3 p4 : Int32) : Rec (s_X6_stone G x y H a b c d p1 p2 p3 p4) (s_X7_stone w p1 p2 p3 p4) G s p :=
  Rec.of hL (fun post => k_copy y x _) (fun post => q_stone w p1 p2 p3 p4 post) (pub_stone (bg_R hL.1) p1 p2 p3 p4)
theorem rec_rate {G x y s H a b c d p w : V} (hL : LI G x s H a b c d p w) (p1 p2 p3 p4 : Int32) : Rec (s_X6_rate G x y H a b c d p1 p2 p3 p4) (s_X7_rate w p1 p2 p3 p4) G s p :=
  Rec.of hL (fun post => k_copy y x _) (fun post => q_begins) (Sim.pub (sim_rate (bg_R hL.1) p1 p2 p3 p4))
theorem rec_unrate {G x y s H a b c d p w : V} (hL : LI G x s H a b c d p w) (p1 p2 p3 : Int32) : Rec (s_X6_unrate G x y H a b c d p1 p2 p3) (s_X7_unrate w p1 p2 p3) G s p :=
  Rec.of hL (fun post => k_copy y x _) (fun post => q_unrate w p1 p2 p3 post) (pub_unrate (bg_R hL.1) p1 p2 p3)
theorem rec_lend {G x y s H a b c d p w : V} (hL : LI G x s H a b c d p w) (p1 p2 p3 p4 : Int32) : Rec (s_X6_lend G x y H a b c d p1 p2 p3 p4) (s_X7_lend w p1 p2 p3 p4) G s p :=
  Rec.of hL (fun post => k_copy y x _) (fun post => q_begins) (Sim.pub (sim_lend (bg_R hL.1) p1 p2 p3 p4))
theorem rec_back {G x y s H a b c d p w : V} (hL : LI G x s H a b c d p w) (p1 : Int32) : Rec (s_X6_back G x y H a b c d p1) (s_X7_back w p1) G s p :=
  Rec.of hL (fun post => k_copy y x _) (fun post => q_begins) (Sim.pub (sim_back (bg_R hL.1) p1))
theorem rec_keep {G x y s H a b c d p w : V} (hL : LI G x s H a b c d p w) (p1 : Int32) : Rec (s_X6_keep G x y H a b c d p1) (s_X7_keep w p1) G s p :=
  Rec.of hL (fun post => k_copy y x _) (fun post => q_begins) (Sim.pub (sim_keep (bg_R hL.1) p1))
theorem rec_sell {G x y s H a b c d p w : V} (hL : LI G x s H a b c d p w) (p1 p2 : Int32) : Rec (s_X6_sell G x y H a b c d p1 p2) (s_X7_sell w p1 p2) G s p :=
  Rec.of hL (fun post => k_copy y x _) (fun post => q_begins) (Sim.pub (sim_sell (bg_R hL.1) p1 p2))
theorem rec_grade {G x y s H a b c d p w : V} (hL : LI G x s H a b c d p w) (p1 p2 p3 : Int32) : Rec (s_X6_grade G x y H a b c d p1 p2 p3) (s_X7_grade w p1 p2 p3) G s p :=
  Rec.of hL (fun post => k_copy y x _) (fun post => q_begins) (Sim.pub (sim_grade (bg_R hL.1) p1 p2 p3))
theorem rec_pause {G x y s H a b c d p w : V} (hL : LI G x s H a b c d p w) (p1 : Int32) : Rec (s_X6_pause G x y H a b c d p1) (s_X7_pause w p1) G s p :=
  Rec.of hL (fun post => k_copy y x _) (fun post => q_begins) (Sim.pub (sim_pause (bg_R hL.1) p1))
theorem rec_set {G x y s H a b c d p w : V} (hL : LI G x s H a b c d p w) (p1 p2 : Int32) : Rec (s_X6_set G x y H a b c d p1 p2) (s_X7_set w p1 p2) G s p :=
  Rec.of hL (fun post => k_copy y x _) (fun post => q_set w p1 p2 post) (pub_set (bg_R hL.1) p1 p2)
