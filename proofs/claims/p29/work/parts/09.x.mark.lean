/-! PURE 24: mark, restore, undo, type, clearText -/
theorem q_mark {w : V} {post : Int32 → V → Prop} : s_X7_mark w post = post (w 1 3) (st (fO w 3 0 (w 1) 664) 0 3 1) := by
  have key : ∀ d k, k + d = 664 → (∃ n, sl_X7_mark_2 post (fun _ v5 => post ((st v5 0 3 1) 1 3) (st v5 0 3 1)) n (nI k) (fO w 3 0 (w 1) k)) = post (w 1 3) (st (fO w 3 0 (w 1) 664) 0 3 1) := by
    intro d
    induction d with
    | zero =>
      intro k h
      obtain rfl : k = 664 := by omega
      refine xo_X7_mark_2 (fun rec => (b_t (show (664 : Int32) ≤ nI 664 by decide)).trans ?_)
      show post ((st (fO w 3 0 (w 1) 664) 0 3 1) 1 3) (st (fO w 3 0 (w 1) 664) 0 3 1) = _
      rw [st1n (by decide), fO_ne (by decide)]
    | succ d ih =>
      intro k h
      refine (xs_X7_mark_2 (fun rec => ?_)).trans (ih (k + 1) (by omega))
      unfold sb_X7_mark_2
      rw [b_f (show ¬ (664 : Int32) ≤ nI k from nI_ge (b := 664) (by omega) (by omega)), b_and (vp_in_nI (by omega) (by decide)), b_and (vp_in_nI (by omega) (by decide)), b_all, tn_nI (by omega), nI_1, fO_ne (by decide)]
      rw [show st (fO w 3 0 (w 1) k) 3 k (w 1 k) = fO w 3 0 (w 1) (k + 1) by rw [← fO_s, Nat.zero_add]]
  have h := key 664 0 rfl
  rw [fO_0] at h
  unfold s_X7_mark
  simp only [forall_eq, sc_st, t_3]
  exact h
theorem copy_row1 {w : V} {q off : Nat} (k0 : Int32 → V → Prop) (sb : (Int32 → V → Prop) → Int32 → V → Prop) (sl : Nat → Int32 → V → Prop) (h0 : ∀ i v, ¬ sl 0 i v) (hs : ∀ n, sl (n + 1) = sb (sl n)) (hend : ∀ rec v, sb rec (nI 664) v = k0 (nI 664) v) (hstep : ∀ rec k, k < 664 → sb rec (nI k) (fO w 1 0 (fun j => w q (off + j)) k) = rec (nI (k + 1)) (fO w 1 0 (fun j => w q (off + j)) (k + 1))) : (∃ n, sl n 0 w) = k0 (nI 664) (fO w 1 0 (fun j => w q (off + j)) 664) := by
  have key : ∀ d k, k + d = 664 → (∃ n, sl n (nI k) (fO w 1 0 (fun j => w q (off + j)) k)) = k0 (nI 664) (fO w 1 0 (fun j => w q (off + j)) 664) := by
    intro d
    induction d with
    | zero =>
      intro k h
      obtain rfl : k = 664 := by omega
      exact ex_out (F := fun n (a : Int32 × V) => sl n a.1 a.2) (a := (nI 664, fO w 1 0 (fun j => w q (off + j)) 664)) (fun a => h0 a.1 a.2) (fun n => by rw [hs]; exact hend _ _)
    | succ d ih =>
      intro k h
      exact (ex_step (F := fun n (a : Int32 × V) => sl n a.1 a.2) (a := (nI k, fO w 1 0 (fun j => w q (off + j)) k)) (a' := (nI (k + 1), fO w 1 0 (fun j => w q (off + j)) (k + 1))) (fun a => h0 a.1 a.2) (fun n => by rw [hs]; exact hstep _ k (by omega))).trans (ih (k + 1) (by omega))
  have h := key 664 0 rfl
  rw [fO_0] at h
  exact h
theorem q_rest_lp {w : V} {post : Int32 → V → Prop} {k0 : Int32 → V → Prop} : (∃ n, sl_X7_restore_16 post k0 n 0 w) = k0 (nI 664) (fO w 1 0 (fun j => w 3 (0 + j)) 664) := by
  refine copy_row1 (q := 3) (off := 0) k0 (fun rec => sb_X7_restore_16 post k0 rec) (sl_X7_restore_16 post k0) (fun _ _ h => h) (fun n => rfl) (fun rec v => b_t (show (664 : Int32) ≤ nI 664 by decide)) (fun rec k h => ?_)
  show sb_X7_restore_16 post k0 rec (nI k) _ = _
  unfold sb_X7_restore_16
  rw [b_f (show ¬ (664 : Int32) ≤ nI k from nI_ge (b := 664) (by omega) (by omega)), b_and (vp_in_nI (by omega) (by decide)), b_and (vp_in_nI (by omega) (by decide)), b_all, tn_nI (by omega), nI_1, fO_ne (by decide)]
  have hs := fO_s w 1 0 (fun j => w 3 (0 + j)) k
  simp only [Nat.zero_add] at hs ⊢
  rw [hs]
theorem q_undo_lp {w : V} {m : Nat} {post : Int32 → V → Prop} {k0 : Int32 → V → Prop} (hm : m < 4) (h5 : w 0 5 = nI m) : (∃ n, sl_X7_undo_22 post k0 n 0 w) = k0 (nI 664) (fO w 1 0 (fun j => w 4 (664 * m + j)) 664) := by
  refine copy_row1 (q := 4) (off := 664 * m) k0 (fun rec => sb_X7_undo_22 post k0 rec) (sl_X7_undo_22 post k0) (fun _ _ h => h) (fun n => rfl) (fun rec v => b_t (show (664 : Int32) ≤ nI 664 by decide)) (fun rec k h => ?_)
  show sb_X7_undo_22 post k0 rec (nI k) _ = _
  unfold sb_X7_undo_22
  rw [b_f (show ¬ (664 : Int32) ≤ nI k from nI_ge (b := 664) (by omega) (by omega)), fO_ne (by decide), h5, l664, b_and (vp_in_nI (by omega) (by decide)), b_and (vp_in_nI (by omega) (by decide)), b_all, tn_nI (by omega), tn_nI (by omega), nI_1, fO_ne (by decide)]
  have hs := fO_s w 1 0 (fun j => w 4 (664 * m + j)) k
  rw [Nat.zero_add] at hs
  rw [hs]
theorem row1_R {x w : V} {f : Nat → Int32} (h : R x f) : R x ((fO w 1 0 f 664) 1) := R_s h (fun j hj => by rw [fO_at, if_pos (by omega), Nat.sub_zero])
theorem R_time {x : V} {S : Nat → Int32} (h : R x S) : x 0 5 = S 3 ∧ ¬ S 3 < 0 := by
  obtain ⟨nd, ns, nm, t, g, e, hg, -⟩ := h
  obtain ⟨n1, n2, n3, n4, n5, n6, v04, S0, v60, S1, v160, S2, v05, S3, -⟩ := hg
  rw [v05, S3]
  exact ⟨rfl, n_neg (by omega)⟩
theorem pop_in {H a b c d x : V} {o n : Nat} {post : V → V → V → V → V → V → Prop} (h1 : H 0 1 = nI o) (h2 : H 0 2 = nI (n + 1)) (ho : o < 4) (hn : n < 4) : s_X0_popInto H a b c d x post = post (st H 0 2 (nI n)) a b c d (cpM x (sl4 ((o + n) % 4) a b c d)) := by
  have hn0 : (nI (n + 1) = 0) = False := eq_false (nI_ne0 (by omega) (by omega))
  have hq : (o + n) % 4 < 4 := by omega
  have hv : vp_in (nI ((o + n) % 4)) 4 := vp_in_nI hq (by decide)
  have e1 : nI (o + (n + 1)) - 1 = nI (o + n) := pk_sub (a := o + (n + 1)) (b := 1) (by omega)
  have e2 : nI (n + 1) - 1 = nI n := pk_sub (a := n + 1) (b := 1) (by omega)
  unfold s_X0_popInto
  simp only [h1, h2, hn0, nI_add, e1, e2, k_fmod (show o + n < 8 by omega), hv, k_copy, sc_st, forall_eq, not_false_eq_true, not_true_eq_false, true_implies, false_implies, and_true, true_and]
  generalize (o + n) % 4 = q at hq
  have h4 : q = 0 ∨ q = 1 ∨ q = 2 ∨ q = 3 := by omega
  rcases h4 with rfl | rfl | rfl | rfl
  · simp only [L0_0, L0_1, L0_2, L0_3, true_implies, false_implies, and_true, true_and]
    rfl
  · simp only [L1_0, L1_1, L1_2, L1_3, true_implies, false_implies, and_true, true_and]
    rfl
  · simp only [L2_0, L2_1, L2_2, L2_3, true_implies, false_implies, and_true, true_and]
    rfl
  · simp only [L3_0, L3_1, L3_2, L3_3, true_implies, false_implies, and_true, true_and]
    rfl
theorem char_id : ∀ k, k < 127 → ((nI k).toUInt32 % 65536).toInt32 = nI k ∧ vp_nar .char (nI k) = nI k := by decide +kernel
