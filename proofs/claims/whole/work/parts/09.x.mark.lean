/-! PURE 24: mark, restore, undo, type, clearText -/
theorem q_mark {w : V} {post : Int32 → V → Prop} : s_X7_mark w post = post (w 1 3) (st (fO w 3 0 (w 1) 664) 0 3 1) := by
  have key : ∀ d k, k + d = 664 → (∃ n, sl_X7_mark_2 post (fun _ v5 => post ((st v5 0 3 1) 1 3) (st v5 0 3 1)) n (nI k) (fO w 3 0 (w 1) k)) = post (w 1 3) (st (fO w 3 0 (w 1) 664) 0 3 1) := by
    intro d
    induction d with
    | zero =>
      intro k h
      obtain rfl : k = 664 := by omega
      refine xo_X7_mark_2 (fun rec => (b_t (show (664 : Int32) ≤ nI 664 by decide)).trans ?_)
      show post ((st (fO w 3 0 (w 1) 664) 0 3 1) 1 3) (st (fO w 3 0 (w 1) 664) 0 3 1) = _
      rw [st1n (by decide), fO_ne (by decide)]
    | succ d ih =>
      intro k h
      refine (xs_X7_mark_2 (fun rec => ?_)).trans (ih (k + 1) (by omega))
      unfold sb_X7_mark_2
      rw [b_f (show ¬ (664 : Int32) ≤ nI k from nI_ge (b := 664) (by omega) (by omega)), b_and (vp_in_nI (by omega) (by decide)), b_and (vp_in_nI (by omega) (by decide)), b_all, tn_nI (by omega), nI_1, fO_ne (by decide)]
      rw [show st (fO w 3 0 (w 1) k) 3 k (w 1 k) = fO w 3 0 (w 1) (k + 1) by rw [← fO_s, Nat.zero_add]]
  have h := key 664 0 rfl
  rw [fO_0] at h
  unfold s_X7_mark
  simp only [forall_eq, sc_st, t_3]
  exact h
theorem copy_row1 {w : V} {q off : Nat} (k0 : Int32 → V → Prop) (sb : (Int32 → V → Prop) → Int32 → V → Prop) (sl : Nat → Int32 → V → Prop) (h0 : ∀ i v, ¬ sl 0 i v) (hs : ∀ n, sl (n + 1) = sb (sl n)) (hend : ∀ rec v, sb rec (nI 664) v = k0 (nI 664) v) (hstep : ∀ rec k, k < 664 → sb rec (nI k) (fO w 1 0 (fun j => w q (off + j)) k) = rec (nI (k + 1)) (fO w 1 0 (fun j => w q (off + j)) (k + 1))) : (∃ n, sl n 0 w) = k0 (nI 664) (fO w 1 0 (fun j => w q (off + j)) 664) := by
  have key : ∀ d k, k + d = 664 → (∃ n, sl n (nI k) (fO w 1 0 (fun j => w q (off + j)) k)) = k0 (nI 664) (fO w 1 0 (fun j => w q (off + j)) 664) := by
    intro d
    induction d with
    | zero =>
      intro k h
      obtain rfl : k = 664 := by omega
      exact ex_out (F := fun n (a : Int32 × V) => sl n a.1 a.2) (a := (nI 664, fO w 1 0 (fun j => w q (off + j)) 664)) (fun a => h0 a.1 a.2) (fun n => by rw [hs]; exact hend _ _)
    | succ d ih =>
      intro k h
      exact (ex_step (F := fun n (a : Int32 × V) => sl n a.1 a.2) (a := (nI k, fO w 1 0 (fun j => w q (off + j)) k)) (a' := (nI (k + 1), fO w 1 0 (fun j => w q (off + j)) (k + 1))) (fun a => h0 a.1 a.2) (fun n => by rw [hs]; exact hstep _ k (by omega))).trans (ih (k + 1) (by omega))
  have h := key 664 0 rfl
  rw [fO_0] at h
  exact h
theorem q_rest_lp {w : V} {post : Int32 → V → Prop} {k0 : Int32 → V → Prop} : (∃ n, sl_X7_restore_16 post k0 n 0 w) = k0 (nI 664) (fO w 1 0 (fun j => w 3 (0 + j)) 664) := by
  refine copy_row1 (q := 3) (off := 0) k0 (fun rec => sb_X7_restore_16 post k0 rec) (sl_X7_restore_16 post k0) (fun _ _ h => h) (fun n => rfl) (fun rec v => b_t (show (664 : Int32) ≤ nI 664 by decide)) (fun rec k h => ?_)
  show sb_X7_restore_16 post k0 rec (nI k) _ = _
  unfold sb_X7_restore_16
  rw [b_f (show ¬ (664 : Int32) ≤ nI k from nI_ge (b := 664) (by omega) (by omega)), b_and (vp_in_nI (by omega) (by decide)), b_and (vp_in_nI (by omega) (by decide)), b_all, tn_nI (by omega), nI_1, fO_ne (by decide)]
  have hs := fO_s w 1 0 (fun j => w 3 (0 + j)) k
  simp only [Nat.zero_add] at hs ⊢
  rw [hs]
theorem q_undo_lp {w : V} {m : Nat} {post : Int32 → V → Prop} {k0 : Int32 → V → Prop} (hm : m < 4) (h5 : w 0 5 = nI m) : (∃ n, sl_X7_undo_22 post k0 n 0 w) = k0 (nI 664) (fO w 1 0 (fun j => w 4 (664 * m + j)) 664) := by
  refine copy_row1 (q := 4) (off := 664 * m) k0 (fun rec => sb_X7_undo_22 post k0 rec) (sl_X7_undo_22 post k0) (fun _ _ h => h) (fun n => rfl) (fun rec v => b_t (show (664 : Int32) ≤ nI 664 by decide)) (fun rec k h => ?_)
  show sb_X7_undo_22 post k0 rec (nI k) _ = _
  unfold sb_X7_undo_22
  rw [b_f (show ¬ (664 : Int32) ≤ nI k from nI_ge (b := 664) (by omega) (by omega)), fO_ne (by decide), h5, l664, b_and (vp_in_nI (by omega) (by decide)), b_and (vp_in_nI (by omega) (by decide)), b_all, tn_nI (by omega), tn_nI (by omega), nI_1, fO_ne (by decide)]
  have hs := fO_s w 1 0 (fun j => w 4 (664 * m + j)) k
  rw [Nat.zero_add] at hs
  rw [hs]
theorem row1_R {x w : V} {f : Nat → Int32} (h : R x f) : R x ((fO w 1 0 f 664) 1) := R_s h (fun j hj => by rw [fO_at, if_pos (by omega), Nat.sub_zero])
theorem R_time {x : V} {S : Nat → Int32} (h : R x S) : x 0 5 = S 3 ∧ ¬ S 3 < 0 := by
  obtain ⟨nd, ns, nm, t, g, e, hg, -⟩ := h
  obtain ⟨n1, n2, n3, n4, n5, n6, v04, S0, v60, S1, v160, S2, v05, S3, -⟩ := hg
  rw [v05, S3]
  exact ⟨rfl, n_neg (by omega)⟩
theorem law_mark {G x s H a b c d p w : V} (hL : LI G x s H a b c d p w) : ∃ r G' s' w', (∀ post, s_X6_mark G x s post = post r G' x s') ∧ (∀ post, s_X7_mark w post = post r w') ∧ LI G' x s' H a b c d p w' := by
  obtain ⟨hR, hH, ⟨hS1, hS2⟩, hT⟩ := hL
  refine ⟨w 1 3, st G 0 6 1, cpM s x, st (fO w 3 0 (w 1) 664) 0 3 1, fun post => ?_, fun post => q_mark, ?_, HR_c hH ?_ ?_, ⟨?_, fun _ => ?_⟩, TX_c hT ?_ ?_⟩
  · unfold s_X6_mark
    rw [k_copy, b_all, sc_st, (R_time hR).1]
  · rw [st1n (by decide), fO_ne (by decide)]
    exact hR
  · rw [st1, u_n (by decide), fO_ne (by decide)]
  · rw [st1n (by decide), fO_ne (by decide)]
  · rw [st1, st1, u_s, u_s]
  · rw [st1n (by decide)]
    exact R_s (R_v hR (Ag_copy _ _)) (fun j hj => by rw [fO_at, if_pos (by omega), Nat.sub_zero])
  · rw [st1, u_n (by decide), fO_ne (by decide)]
  · rw [st1n (by decide), fO_ne (by decide)]
theorem law_restore {G x s H a b c d p w : V} (hL : LI G x s H a b c d p w) : ∃ r x' s' H' a' b' c' d' w', (∀ post, s_X6_restore G x s H a b c d post = post r G x' s' H' a' b' c' d') ∧ (∀ post, s_X7_restore w post = post r w') ∧ LI G x' s' H' a' b' c' d' p w' := by
  obtain ⟨hR, hH, ⟨hS1, hS2⟩, hT⟩ := hL
  have hq : ∀ post, s_X7_restore w post = ((¬ (bg w) 0 3 = 0 → (∃ n_4 : Nat, sl_X7_restore_16 post (fun _ v_6 => s_X7_acted v_6 (v_6 1 (tn 3)) (fun r v => post r v)) n_4 0 (bg w))) ∧ ((bg w) 0 3 = 0 → (post (-10000002) (bg w)))) := fun post => q_begins
  have hb3 : (bg w) 0 3 = w 0 3 := by rw [bg_n (by decide)]
  by_cases hz : w 0 3 = 0
  · refine ⟨-10000002, x, s, H, a, b, c, d, bg w, fun post => ?_, fun post => ?_, ?_, HR_c hH ?_ ?_, SN_c ⟨hS1, hS2⟩ hb3 ?_, TX_c hT ?_ ?_⟩
    · unfold s_X6_restore
      rw [hS1, hz]
      exact b_t' rfl
    · rw [hq, hb3, hz]
      exact b_t' rfl
    · rw [bg_n (by decide)]
      exact hR
    all_goals rw [bg_n (by decide)]
  · have hs := hS2 hz
    have hw3 : (bg w) 3 = w 3 := bg_n (by decide)
    have hR1 : R s ((fO (bg w) 1 0 (fun j => bg w 3 (0 + j)) 664) 1) := row1_R (R_s hs (fun j hj => by rw [hw3, Nat.zero_add]))
    have hx : R x ((fO (bg w) 1 0 (fun j => bg w 3 (0 + j)) 664) 2) := by
      rw [fO_ne (by decide)]
      exact R_s hR (fun j hj => bg_2 w hj)
    have hH' : HR H a b c d (fO (bg w) 1 0 (fun j => bg w 3 (0 + j)) 664) := HR_c hH (by rw [fO_ne (by decide), bg_n (by decide)]) (by rw [fO_ne (by decide), bg_n (by decide)])
    obtain ⟨ht1, ht2⟩ := R_time hR1
    obtain ⟨H', a', b', c', d', w', r1, r2, r3, r4, r5⟩ := record hH' hx (low_of ht2)
    refine ⟨(fO (bg w) 1 0 (fun j => bg w 3 (0 + j)) 664) 1 3, cpM x s, s, H', a', b', c', d', w', fun post => ?_, fun post => ?_, ?_, r3, SN_c ⟨hS1, hS2⟩ ?_ ?_, TX_c hT ?_ ?_⟩
    · unfold s_X6_restore
      rw [hS1, b_f' hz, r1, k_copy, (R_time (R_v hR1 (Ag_copy x s))).1]
    · rw [hq, hb3, b_f' hz, q_rest_lp]
      exact r2 _
    · rw [r4 1 (by decide) (by decide)]
      exact R_v hR1 (Ag_copy x s)
    · rw [r5 3 (by decide), fO_ne (by decide), bg_n (by decide)]
    · rw [r4 3 (by decide) (by decide), fO_ne (by decide), bg_n (by decide)]
    · rw [r5 7 (by decide), fO_ne (by decide), bg_n (by decide)]
    · rw [r4 5 (by decide) (by decide), fO_ne (by decide), bg_n (by decide)]
theorem pop_in {H a b c d x : V} {o n : Nat} {post : V → V → V → V → V → V → Prop} (h1 : H 0 1 = nI o) (h2 : H 0 2 = nI (n + 1)) (ho : o < 4) (hn : n < 4) : s_X0_popInto H a b c d x post = post (st H 0 2 (nI n)) a b c d (cpM x (sl4 ((o + n) % 4) a b c d)) := by
  have hn0 : (nI (n + 1) = 0) = False := eq_false (nI_ne0 (by omega) (by omega))
  have hq : (o + n) % 4 < 4 := by omega
  have hv : vp_in (nI ((o + n) % 4)) 4 := vp_in_nI hq (by decide)
  have e1 : nI (o + (n + 1)) - 1 = nI (o + n) := pk_sub (a := o + (n + 1)) (b := 1) (by omega)
  have e2 : nI (n + 1) - 1 = nI n := pk_sub (a := n + 1) (b := 1) (by omega)
  unfold s_X0_popInto
  simp only [h1, h2, hn0, nI_add, e1, e2, k_fmod (show o + n < 8 by omega), hv, k_copy, sc_st, forall_eq, not_false_eq_true, not_true_eq_false, true_implies, false_implies, and_true, true_and]
  generalize (o + n) % 4 = q at hq
  have h4 : q = 0 ∨ q = 1 ∨ q = 2 ∨ q = 3 := by omega
  rcases h4 with rfl | rfl | rfl | rfl
  · simp only [L0_0, L0_1, L0_2, L0_3, true_implies, false_implies, and_true, true_and]
    rfl
  · simp only [L1_0, L1_1, L1_2, L1_3, true_implies, false_implies, and_true, true_and]
    rfl
  · simp only [L2_0, L2_1, L2_2, L2_3, true_implies, false_implies, and_true, true_and]
    rfl
  · simp only [L3_0, L3_1, L3_2, L3_3, true_implies, false_implies, and_true, true_and]
    rfl
theorem law_undo {G x s H a b c d p w : V} (hL : LI G x s H a b c d p w) : ∃ r x' H' w', (∀ post, s_X6_undo G x H a b c d post = post r G x' H' a b c d) ∧ (∀ post, s_X7_undo w post = post r w') ∧ LI G x' s H' a b c d p w' := by
  obtain ⟨hR, ⟨o, n, ho, hn, h1, h2, h5, hh⟩, hS, hT⟩ := hL
  cases n with
  | zero =>
    refine ⟨-10000002, x, H, w, fun post => ?_, fun post => ?_, hR, ⟨o, 0, ho, hn, h1, h2, h5, hh⟩, hS, hT⟩
    · unfold s_X6_undo
      rw [h2]
      exact b_t' rfl
    · unfold s_X7_undo
      rw [h5]
      exact b_t' rfl
  | succ n =>
    have hn0 : ¬ nI (n + 1) = 0 := nI_ne0 (by omega) (by omega)
    have e2 : nI (n + 1) - 1 = nI n := pk_sub (a := n + 1) (b := 1) (by omega)
    have e5 : (st w 0 5 (nI n)) 0 5 = nI n := by rw [st1, u_s]
    refine ⟨nI n, cpM x (sl4 ((o + n) % 4) a b c d), st H 0 2 (nI n), fO (st w 0 5 (nI n)) 1 0 (fun j => (st w 0 5 (nI n)) 4 (664 * n + j)) 664, fun post => ?_, fun post => ?_, ?_, ⟨o, n, ho, by omega, ?_, ?_, ?_, fun i hi => ?_⟩, SN_c hS ?_ ?_, TX_c hT ?_ ?_⟩
    · unfold s_X6_undo
      rw [h2, b_f' hn0, pop_in h1 h2 ho (by omega), st1, u_s]
    · unfold s_X7_undo
      rw [h5, b_f' hn0, b_all, sc_st, e2, q_undo_lp (by omega) e5, fO_ne (by decide), e5]
    · refine row1_R (R_v (R_s (hh n (by omega)) (fun j hj => ?_)) (Ag_copy _ _))
      rw [st1n (by decide)]
    · rw [st1, u_n (by decide)]
      exact h1
    · rw [st1, u_s]
    · rw [fO_ne (by decide), e5]
    · exact R_s (hh i (by omega)) (fun j hj => by rw [fO_ne (by decide), st1n (by decide)])
    · rw [fO_ne (by decide), st1, u_n (by decide)]
    · rw [fO_ne (by decide), st1n (by decide)]
    · rw [fO_ne (by decide), st1, u_n (by decide)]
    · rw [fO_ne (by decide), st1n (by decide)]
theorem law_clear {G x s H a b c d p w : V} (hL : LI G x s H a b c d p w) : ∃ r p' w', (∀ post, s_X6_clearText G p post = post r G p') ∧ (∀ post, s_X7_clearText w post = post r w') ∧ LI G x s H a b c d p' w' := by
  obtain ⟨hR, hH, hS, ⟨n, hn, h1, h2, h3⟩⟩ := hL
  refine ⟨nI n, st p 0 1 0, st w 0 7 0, fun post => ?_, fun post => ?_, ?_, HR_c hH ?_ ?_, SN_c hS ?_ ?_, ⟨0, by omega, ?_, ?_, fun i hi => by omega⟩⟩
  · unfold s_X6_clearText
    rw [b_all, sc_st, h1]
  · unfold s_X7_clearText
    rw [b_all, sc_st, h2]
  · rw [st1n (by decide)]
    exact hR
  · rw [st1, u_n (by decide)]
  · rw [st1n (by decide)]
  · rw [st1, u_n (by decide)]
  · rw [st1n (by decide)]
  · rw [st1, u_s]
    rfl
  · rw [st1, u_s]
    rfl
theorem char_id : ∀ k, k < 127 → ((nI k).toUInt32 % 65536).toInt32 = nI k ∧ vp_nar .char (nI k) = nI k := by decide +kernel
theorem law_type {G x s H a b c d p w : V} (hL : LI G x s H a b c d p w) (y : Int32) : ∃ r p' w', (∀ post, s_X6_type G p y post = post r G p') ∧ (∀ post, s_X7_type w y post = post r w') ∧ LI G x s H a b c d p' w' := by
  have hL' := hL
  obtain ⟨hR, hH, hS, ⟨n, hn, h1, h2, h3⟩⟩ := hL'
  rcases rng y (a := 32) (b := 126) (by omega) (by omega) with ⟨k, k1, k2, rfl⟩ | hy
  rotate_left
  · refine ⟨-10000001, p, w, fun post => ?_, fun post => ?_, hL⟩
    · unfold s_X6_type
      by_cases hy1 : y < 32
      · exact b_t hy1
      · rw [b_f hy1]
        exact b_f (nle (hy.resolve_left hy1))
    · unfold s_X7_type
      rw [q_in_f (show y < 32 ∨ 126 < y from hy)]
      exact b_t' rfl
  have f1 : ¬ nI k < 32 := ltl (n := 32) k1 (by omega)
  have f2 : nI k ≤ 126 := lel (n := 126) k2 (by omega)
  have f3 : ∀ post, s_X7_in (nI k) 32 126 post = post 1 := fun post => q_in_n (a := 32) (b := 126) k1 k2 (by omega)
  obtain ⟨c1, c2⟩ := char_id k (by omega)
  have f0 : ¬ nI n < 0 := n_neg (by omega)
  by_cases hf : n = 60
  · refine ⟨-10000003, p, w, fun post => ?_, fun post => ?_, hL⟩
    · unfold s_X6_type s_X4_append
      rw [b_f f1, b_t f2, h1, b_f f0, b_f (by subst hf; decide)]
    · unfold s_X7_type
      rw [f3, b_f' z10, h2, b_t' (by subst hf; rfl)]
  · have f4 : nI n < 60 := lt_n (n := 60) (by omega) (by omega)
    have f5 : ¬ nI n = 60 := show ¬ nI n = nI 60 by rw [n_eq (by omega) (by omega)]; exact hf
    refine ⟨nI (n + 1), st (st p 1 n (nI k)) 0 1 (nI (n + 1)), st (st w 5 n (nI k)) 0 7 (nI (n + 1)), fun post => ?_, fun post => ?_, ?_, HR_c hH ?_ ?_, SN_c hS ?_ ?_, ⟨n + 1, by omega, ?_, ?_, fun i hi => ?_⟩⟩
    · unfold s_X6_type s_X4_append
      rw [b_f f1, b_t f2, h1, b_f f0, b_t f4, b_and (vp_in_nI (by omega) (by decide)), b_all, b_all, c1, c2, tn_nI (by omega), sc_st]
      simp (disch := omega) only [st1, st1n, u_s, u_n, h1, nI_1]
    · unfold s_X7_type
      rw [f3, b_f' z10, h2, b_f' f5, b_and (vp_in_nI (by omega) (by decide)), b_all, b_all, tn_nI (by omega), sc_st]
      simp (disch := omega) only [st1, st1n, u_s, u_n, h2, nI_1]
    · simp (disch := omega) only [st1, st1n, u_s, u_n]
      exact hR
    · simp (disch := omega) only [st1, st1n, u_s, u_n]
    · simp (disch := omega) only [st1, st1n, u_s, u_n]
    · simp (disch := omega) only [st1, st1n, u_s, u_n]
    · simp (disch := omega) only [st1, st1n, u_s, u_n]
    · simp (disch := omega) only [st1, st1n, u_s, u_n]
    · simp (disch := omega) only [st1, st1n, u_s, u_n]
    · by_cases q : i = n
      · subst q
        simp (disch := omega) only [st1, st1n, u_s, u_n]
        exact ⟨trivial, k, k1, k2, rfl⟩
      · simp (disch := omega) only [st1, st1n, u_s, u_n]
        exact h3 i (by omega)
