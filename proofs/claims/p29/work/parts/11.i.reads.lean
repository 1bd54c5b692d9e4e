/-! P29 9: the law reads what a text comes to -/
theorem bad_lt {r : Int32} (h : bad r) : ¬ -10000001 < r ∧ ¬ r ≤ -10000004 := ⟨h.2.1, Int32.not_le.mpr h.2.2⟩
theorem reads_ok {G x y z s H a b c d p : V} {o n : Nat} (h : PI G x s H a b c d p o n) {post : Int32 → V → V → V → V → V → V → V → V → V → V → V → Prop} (hp : ∀ x' z' H' a' b' c' d' p' o' n', PI G x' s H' a' b' c' d' p' o' n' → Aft n o' n' x x' a' b' c' d' → post 1 G x' y z' s H' a' b' c' d' p') : s_L_reads G x y z s H a b c d p post := by
  obtain ⟨m, cc, hT⟩ := TI.tc h.2.2.2
  obtain ⟨g, ra, rb, hg, hf, hpl⟩ := op_text h hT
  have hm60 : m ≤ 60 := hT.1
  obtain ⟨z1, p1, e1, t1⟩ := hf p z 0 hT (by decide)
  obtain ⟨z2, p2, e2, t2⟩ := hf p1 z1 1 t1 (by decide)
  obtain ⟨z3, p3, e3, t3⟩ := hf p2 z2 2 t2 (by decide)
  obtain ⟨r, x', z4, H', a', b', c', d', p4, o', n', e4, t4, h4, hA, hr⟩ := hpl p3 z3 t3
  have hfin := hp x' z4 H' a' b' c' d' p4 o' n' h4 hA
  have h134 : sj_L_reads_134 post (nI m) G x' y z4 s H' a' b' c' d' p4 := by
    unfold sj_L_reads_134
    rw [tc12 t4.2.1, b_t' (show nI m = nI m from rfl)]
    exact hfin
  unfold s_L_reads
  rw [show ∀ post, s_X6_fault G x z p 0 post = post (ftV g ra rb 0) G x z1 p1 from e1, show ∀ post, s_X6_fault G x z1 p1 1 post = post (ftV g ra rb 1) G x z2 p2 from e2, show ∀ post, s_X6_fault G x z2 p2 2 post = post (ftV g ra rb 2) G x z3 p3 from e3, tc12 t3.2.1, e4]
  rcases hg with hg | ⟨i, hi, hg, hrr⟩
  · rcases hr with ⟨-, k, k1, hk⟩ | ⟨hn, -⟩
    · have f : ∀ u, ftV g ra rb u = -10000004 := fun u => by
        unfold ftV
        rw [if_pos hg]
      rw [f, f, f, hk, b_t' (show (-10000004 : Int32) = -10000004 from rfl), b_t' (show (-10000004 : Int32) = -10000004 from rfl), b_t' (show (-10000004 : Int32) = -10000004 from rfl), b_f (n_neg (by omega)), b_f (show ¬ nI m < 7 * nI k by rw [show 7 * nI k = nI (7 * k) from pk_mul 7 k, n_lt (by omega) (by omega)]; omega)]
      unfold sj_L_reads_70
      rw [b_t (show (-10000004 : Int32) < 0 by decide)]
      unfold sj_L_reads_122
      rw [b_f' (show ¬ (1 : Int32) = 0 by decide)]
      exact h134
    · exact absurd hg hn
  · have hi1 : ¬ nI i = -1 := n_m1 (by omega)
    rcases hr with ⟨hn, -⟩ | ⟨-, hr⟩
    · exact absurd (hg.symm.trans hn) hi1
    · have f0 : ftV g ra rb 0 = nI i := by
        unfold ftV
        rw [hg, if_neg hi1, if_pos rfl]
      have f1 : ftV g ra rb 1 = ra := by
        unfold ftV
        rw [hg, if_neg hi1, if_neg (by decide), if_pos rfl]
      have f2 : ftV g ra rb 2 = rb := by
        unfold ftV
        rw [hg, if_neg hi1, if_neg (by decide), if_neg (by decide)]
      have hin : ¬ nI i = -10000004 := fun q => by
        have := n_neg (show i < 2147483648 by omega)
        rw [q] at this
        exact this (by decide)
      rw [f0, f1, f2, b_f' hin, hr]
      unfold sj_L_reads_70
      rw [b_f (n_neg (by omega)), b_f (show ¬ nI m ≤ nI i from nI_ge hi (by omega)), b_t' (show (-10000002 : Int32) = -10000002 from rfl)]
      rcases hrr with ⟨q1, q2⟩ | ⟨q1, q2⟩
      · rw [q1, q2, b_t' (show (1 : Int32) = 1 from rfl), b_t (show (-10000004 : Int32) = -10000004 from rfl)]
        unfold sj_L_reads_122
        rw [b_t' (show (0 : Int32) = 0 from rfl), b_f z10]
        exact h134
      · obtain ⟨y1, y2⟩ := bad_lt q2
        rw [q1, b_f' (show ¬ (2 : Int32) = 1 by decide)]
        unfold sj_L_reads_100
        rw [b_t' (show (2 : Int32) = 2 from rfl), b_f y1, b_f y2]
        unfold sj_L_reads_122
        rw [b_t' (show (0 : Int32) = 0 from rfl), b_f z10]
        exact h134
