/-! PURE 8: the class's rates and prices -/
/-- an entry that a grade may use -/
def mt (v : V) (a b c i : Nat) : Prop := ∃ b' c' r, b ≤ b' ∧ b' < 10 ∧ c ≤ c' ∧ c' < 8 ∧ 1 ≤ r ∧ r ≤ 9999 ∧ v 2 i = nI a ∧ v 3 i = nI b' ∧ v 4 i = nI c' ∧ v 5 i = nI r
theorem tn_at {z : Int32} {r : Nat} (h : z = nI r) (hr : r ≤ 9999) : tn z = r := by rw [h, tn_nI (by omega)]
theorem tn_le {z : Int32} {r x : Nat} (h : z = nI r) (hr : r ≤ 9999) (hx : r ≤ x) : tn z ≤ x := by rw [tn_at h hr]; exact hx
theorem RP.step {v : V} {S : Nat → Int32} (h : RP v S) {a b c k : Nat} (ha : a < 5) (hb : b < 10) (hc : c < 8) (hk : k < 24) (hE : ¬ isE v a b c k) (x : Nat) (hx : x ≤ 9999) : ∃ y, y ≤ 9999 ∧ (∀ (post : Int32 → V → Prop) (k0 rec : Int32 → Int32 → V → Prop), sb_X3_rateFor_6 post (nI a) (nI b) (nI c) k0 rec (nI x) (nI k) v = rec (nI y) (nI (k + 1)) v) ∧ x ≤ y ∧ (mt v a b c k → tn (v 5 k) ≤ y) ∧ (y = x ∨ (mt v a b c k ∧ y = tn (v 5 k))) := by
  have hin : vp_in (nI k) 24 := vp_in_nI hk (by decide)
  have h24 : (24 : Int32) ≤ nI k ↔ False := iff_false_intro (nI_ge (b := 24) (by omega) (by omega))
  have hs := tn_nI (show k < 2147483648 by omega)
  rcases h.1 k hk with q | ⟨a', b', c', r, h1, h2, h3, h4, h5, h6, h7, h8, h9, h10⟩
  · refine ⟨x, hx, fun post k0 rec => ?_, Nat.le_refl _, ?_, Or.inl rfl⟩
    · unfold sb_X3_rateFor_6
      simp only [hin, true_and, hs, h24, false_implies, not_false_eq_true, true_implies, nI_1]
      simp only [q, true_implies, not_true_eq_false, false_implies, and_true]
    · rintro ⟨_, _, r, _, _, _, _, h1, h2, _, _, _, h5⟩
      rw [q] at h5
      exact absurd h5.symm (nI_ne0 (by omega) (by omega))
  · have hr0 : nI r = 0 ↔ False := iff_false_intro (nI_ne0 (by omega) (by omega))
    have hno : ¬ (a' = a ∧ b ≤ b' ∧ c ≤ c') → ¬ mt v a b c k := by
      rintro hn ⟨b2, c2, r2, g1, g2, g3, g4, g5, g6, g7, g8, g9, g10⟩
      rw [h6, n_eq (by omega) (by omega)] at g7
      rw [h7, n_eq (by omega) (by omega)] at g8
      rw [h8, n_eq (by omega) (by omega)] at g9
      exact hn ⟨g7, by omega, by omega⟩
    have hyes : a' = a → b ≤ b' → c ≤ c' → mt v a b c k := fun e1 e2 e3 => ⟨b', c', r, e2, h2, e3, h3, h4, h5, e1 ▸ h6, h7, h8, h9⟩
    by_cases c1 : a' = a
    · by_cases c2 : b' < b
      · refine ⟨x, hx, fun post k0 rec => ?_, Nat.le_refl _, fun q => absurd q (hno (by omega)), Or.inl rfl⟩
        unfold sb_X3_rateFor_6
        simp only [hin, true_and, hs, h24, false_implies, not_false_eq_true, true_implies, nI_1]
        simp only [h6, h7, h8, h9, hr0, false_implies, not_false_eq_true, true_implies, true_and, n_eq (show a' < 2147483648 by omega) (show a < 2147483648 by omega), n_eq (show b' < 2147483648 by omega) (show b < 2147483648 by omega), n_eq (show c' < 2147483648 by omega) (show c < 2147483648 by omega), n_lt (show b' < 2147483648 by omega) (show b < 2147483648 by omega), n_le (show c < 2147483648 by omega) (show c' < 2147483648 by omega), n_le (show r < 2147483648 by omega) (show x < 2147483648 by omega), tn_nI (show r < 2147483648 by omega)]
        simp only [c1, c2, true_implies, not_true_eq_false, false_implies, and_true, true_and]
      · by_cases c3 : c ≤ c'
        · have hm := hyes c1 (by omega) c3
          have hne : ¬ (b' = b ∧ c' = c) := by
            rintro ⟨rfl, rfl⟩
            refine hE ⟨?_, ?_, h7, h8⟩
            · rw [h9]
              exact nI_ne0 (by omega) (by omega)
            · rw [h6, c1]
          by_cases c4 : r ≤ x
          · refine ⟨x, hx, fun post k0 rec => ?_, Nat.le_refl _, fun _ => tn_le h9 h5 c4, Or.inl rfl⟩
            by_cases c5 : b' = b
            · have c6 : ¬ c' = c := fun z => hne ⟨c5, z⟩
              unfold sb_X3_rateFor_6
              simp only [hin, true_and, hs, h24, false_implies, not_false_eq_true, true_implies, nI_1]
              simp only [h6, h7, h8, h9, hr0, false_implies, not_false_eq_true, true_implies, true_and, n_eq (show a' < 2147483648 by omega) (show a < 2147483648 by omega), n_eq (show b' < 2147483648 by omega) (show b < 2147483648 by omega), n_eq (show c' < 2147483648 by omega) (show c < 2147483648 by omega), n_lt (show b' < 2147483648 by omega) (show b < 2147483648 by omega), n_le (show c < 2147483648 by omega) (show c' < 2147483648 by omega), n_le (show r < 2147483648 by omega) (show x < 2147483648 by omega), tn_nI (show r < 2147483648 by omega)]
              simp only [c1, c2, c3, c4, c5, c6, Nat.lt_irrefl, true_implies, not_true_eq_false, not_false_eq_true, false_implies, and_true, true_and]
            · unfold sb_X3_rateFor_6
              simp only [hin, true_and, hs, h24, false_implies, not_false_eq_true, true_implies, nI_1]
              simp only [h6, h7, h8, h9, hr0, false_implies, not_false_eq_true, true_implies, true_and, n_eq (show a' < 2147483648 by omega) (show a < 2147483648 by omega), n_eq (show b' < 2147483648 by omega) (show b < 2147483648 by omega), n_eq (show c' < 2147483648 by omega) (show c < 2147483648 by omega), n_lt (show b' < 2147483648 by omega) (show b < 2147483648 by omega), n_le (show c < 2147483648 by omega) (show c' < 2147483648 by omega), n_le (show r < 2147483648 by omega) (show x < 2147483648 by omega), tn_nI (show r < 2147483648 by omega)]
              simp only [c1, c2, c3, c4, c5, true_implies, not_true_eq_false, not_false_eq_true, false_implies, and_true, true_and]
          · refine ⟨r, h5, fun post k0 rec => ?_, by omega, fun _ => tn_le h9 h5 (Nat.le_refl r), Or.inr ⟨hm, (tn_at h9 h5).symm⟩⟩
            by_cases c5 : b' = b
            · have c6 : ¬ c' = c := fun z => hne ⟨c5, z⟩
              unfold sb_X3_rateFor_6
              simp only [hin, true_and, hs, h24, false_implies, not_false_eq_true, true_implies, nI_1]
              simp only [h6, h7, h8, h9, hr0, false_implies, not_false_eq_true, true_implies, true_and, n_eq (show a' < 2147483648 by omega) (show a < 2147483648 by omega), n_eq (show b' < 2147483648 by omega) (show b < 2147483648 by omega), n_eq (show c' < 2147483648 by omega) (show c < 2147483648 by omega), n_lt (show b' < 2147483648 by omega) (show b < 2147483648 by omega), n_le (show c < 2147483648 by omega) (show c' < 2147483648 by omega), n_le (show r < 2147483648 by omega) (show x < 2147483648 by omega), tn_nI (show r < 2147483648 by omega)]
              simp only [c1, c2, c3, c4, c5, c6, Nat.lt_irrefl, true_implies, not_true_eq_false, not_false_eq_true, false_implies, and_true, true_and]
            · unfold sb_X3_rateFor_6
              simp only [hin, true_and, hs, h24, false_implies, not_false_eq_true, true_implies, nI_1]
              simp only [h6, h7, h8, h9, hr0, false_implies, not_false_eq_true, true_implies, true_and, n_eq (show a' < 2147483648 by omega) (show a < 2147483648 by omega), n_eq (show b' < 2147483648 by omega) (show b < 2147483648 by omega), n_eq (show c' < 2147483648 by omega) (show c < 2147483648 by omega), n_lt (show b' < 2147483648 by omega) (show b < 2147483648 by omega), n_le (show c < 2147483648 by omega) (show c' < 2147483648 by omega), n_le (show r < 2147483648 by omega) (show x < 2147483648 by omega), tn_nI (show r < 2147483648 by omega)]
              simp only [c1, c2, c3, c4, c5, true_implies, not_true_eq_false, not_false_eq_true, false_implies, and_true, true_and]
        · refine ⟨x, hx, fun post k0 rec => ?_, Nat.le_refl _, fun q => absurd q (hno (by omega)), Or.inl rfl⟩
          unfold sb_X3_rateFor_6
          simp only [hin, true_and, hs, h24, false_implies, not_false_eq_true, true_implies, nI_1]
          simp only [h6, h7, h8, h9, hr0, false_implies, not_false_eq_true, true_implies, true_and, n_eq (show a' < 2147483648 by omega) (show a < 2147483648 by omega), n_eq (show b' < 2147483648 by omega) (show b < 2147483648 by omega), n_eq (show c' < 2147483648 by omega) (show c < 2147483648 by omega), n_lt (show b' < 2147483648 by omega) (show b < 2147483648 by omega), n_le (show c < 2147483648 by omega) (show c' < 2147483648 by omega), n_le (show r < 2147483648 by omega) (show x < 2147483648 by omega), tn_nI (show r < 2147483648 by omega)]
          simp only [c1, c2, c3, true_implies, not_true_eq_false, not_false_eq_true, false_implies, and_true, true_and]
    · refine ⟨x, hx, fun post k0 rec => ?_, Nat.le_refl _, fun q => absurd q (hno (by omega)), Or.inl rfl⟩
      unfold sb_X3_rateFor_6
      simp only [hin, true_and, hs, h24, false_implies, not_false_eq_true, true_implies, nI_1]
      simp only [h6, h7, h8, h9, hr0, false_implies, not_false_eq_true, true_implies, true_and, n_eq (show a' < 2147483648 by omega) (show a < 2147483648 by omega), n_eq (show b' < 2147483648 by omega) (show b < 2147483648 by omega), n_eq (show c' < 2147483648 by omega) (show c < 2147483648 by omega), n_lt (show b' < 2147483648 by omega) (show b < 2147483648 by omega), n_le (show c < 2147483648 by omega) (show c' < 2147483648 by omega), n_le (show r < 2147483648 by omega) (show x < 2147483648 by omega), tn_nI (show r < 2147483648 by omega)]
      simp only [c1, true_implies, not_true_eq_false, not_false_eq_true, false_implies, and_true, true_and]
theorem k_rf_at {v : V} {S : Nat → Int32} (h : RP v S) {a b c i : Nat} (ha : a < 5) (hb : b < 10) (hc : c < 8) (hi : i < 24) (he : isE v a b c i) (ho : ∀ j, j < i → ¬ isE v a b c j) {post : Int32 → V → Prop} {k0 : Int32 → Int32 → V → Prop} : ∀ d k x, k + d = i → x ≤ 9999 → (∃ n, sl_X3_rateFor_6 post (nI a) (nI b) (nI c) k0 n (nI x) (nI k) v) = post (v 5 i) v := by
  intro d
  induction d with
  | zero =>
    intro k x hk hx
    obtain rfl : k = i := by omega
    refine xo_X3_rateFor_6 (fun rec => ?_)
    have hin : vp_in (nI k) 24 := vp_in_nI hi (by decide)
    have h24 : (24 : Int32) ≤ nI k ↔ False := iff_false_intro (nI_ge (b := 24) (by omega) (by omega))
    have q1 : v 5 k = 0 ↔ False := iff_false_intro he.1
    have q2 : nI b < nI b ↔ False := iff_false_intro (by rw [n_lt (by omega) (by omega)]; omega)
    have q3 : nI c ≤ nI c ↔ True := iff_true_intro (by rw [n_le (by omega) (by omega)]; omega)
    unfold sb_X3_rateFor_6
    simp only [hin, true_and, tn_nI (show k < 2147483648 by omega), h24, q1, he.2.1, he.2.2.1, he.2.2.2, q2, q3, false_implies, not_false_eq_true, not_true_eq_false, true_implies, and_true]
  | succ d ih =>
    intro k x hk hx
    obtain ⟨y, hy, e, -⟩ := h.step ha hb hc (show k < 24 by omega) (ho k (by omega)) x hx
    exact (xs_X3_rateFor_6 (fun rec => e post k0 rec)).trans (ih (k + 1) y (by omega) hy)
theorem k_rf_no {v : V} {S : Nat → Int32} (h : RP v S) {a b c : Nat} (ha : a < 5) (hb : b < 10) (hc : c < 8) (ho : ∀ j, j < 24 → ¬ isE v a b c j) : ∀ d k x, k + d = 24 → x ≤ 9999 → ∃ r, (∀ (post : Int32 → V → Prop) (k0 : Int32 → Int32 → V → Prop), (∃ n, sl_X3_rateFor_6 post (nI a) (nI b) (nI c) k0 n (nI x) (nI k) v) = k0 (nI r) (nI 24) v) ∧ x ≤ r ∧ (∀ i, k ≤ i → i < 24 → mt v a b c i → tn (v 5 i) ≤ r) ∧ (r = x ∨ ∃ i, i < 24 ∧ mt v a b c i ∧ r = tn (v 5 i)) := by
  intro d
  induction d with
  | zero =>
    intro k x hk hx
    obtain rfl : k = 24 := by omega
    exact ⟨x, fun post k0 => xo_X3_rateFor_6 (fun rec => b_t (show (24 : Int32) ≤ nI 24 by decide)), Nat.le_refl _, fun i h1 h2 => by omega, Or.inl rfl⟩
  | succ d ih =>
    intro k x hk hx
    obtain ⟨y, hy, e, h1, h2, h3⟩ := h.step ha hb hc (show k < 24 by omega) (ho k (by omega)) x hx
    obtain ⟨r, g1, g2, g3, g4⟩ := ih (k + 1) y (by omega) hy
    refine ⟨r, fun post k0 => (xs_X3_rateFor_6 (fun rec => e post k0 rec)).trans (g1 post k0), by omega, fun i i1 i2 i3 => ?_, ?_⟩
    · by_cases q : i = k
      · subst q
        have := h2 i3
        omega
      · exact g3 i (by omega) i2 i3
    · rcases g4 with g4 | g4
      · rcases h3 with h3 | ⟨h3, h4⟩
        · exact Or.inl (g4.trans h3)
        · exact Or.inr ⟨k, by omega, h3, g4.trans h4⟩
      · exact Or.inr g4
theorem k_rate {v : V} {S : Nat → Int32} (h : RP v S) (hT : okT S) {a b c : Nat} (ha : a < 5) (hb : b < 10) (hc : c < 8) {post : Int32 → V → Prop} : s_X3_rateFor v (nI a) (nI b) (nI c) post = post (nI (rateN (tbl S) a b c)) v := by
  unfold s_X3_rateFor
  obtain ⟨e1, e2⟩ := hT.at (j := 80 * a + 8 * b + c) (by omega)
  by_cases he : ∃ i, i < 24 ∧ isE v a b c i
  · obtain ⟨i, hi, he, ho⟩ := least he
    have hv := h.own ha hb hc hi he
    have hne : ¬ tbl S (80 * a + 8 * b + c) = 0 := by
      intro q
      rw [q] at e1
      exact he.1 (hv.trans e1)
    have er : rateN (tbl S) a b c = tbl S (80 * a + 8 * b + c) := if_neg hne
    rw [er, ← e1, ← hv]
    exact k_rf_at h ha hb hc hi he ho i 0 0 (by omega) (by omega)
  · have ho : ∀ j, j < 24 → ¬ isE v a b c j := fun j hj q => he ⟨j, hj, q⟩
    have h0 : tbl S (80 * a + 8 * b + c) = 0 := by
      by_cases q : S (264 + (80 * a + 8 * b + c)) = 0
      · unfold tbl
        rw [q]
        rfl
      · obtain ⟨i, hi, h1, h2, h3, h4⟩ := h.2.2 a b c ha hb hc q
        exact absurd ⟨h1, h2, h3, h4⟩ (ho i hi)
    obtain ⟨r, g1, g2, g3, g4⟩ := k_rf_no h ha hb hc ho 24 0 0 rfl (by omega)
    have er : rateN (tbl S) a b c = mO (fun i j => tbl S (80 * a + 8 * i + j)) c (10 - b) b 0 := if_pos h0
    obtain ⟨f1, f2, f3⟩ := mO_ge (fun i j => tbl S (80 * a + 8 * i + j)) hc (10 - b) b 0
    have hr : r = mO (fun i j => tbl S (80 * a + 8 * i + j)) c (10 - b) b 0 := by
      apply Nat.le_antisymm
      · rcases g4 with g4 | ⟨i, i1, ⟨b', c', x, j1, j2, j3, j4, j5, j6, j7, j8, j9, j10⟩, i3⟩
        · omega
        · have hv := h.own ha j2 j4 i1 (show isE v a b' c' i from ⟨by rw [j10]; exact nI_ne0 (by omega) (by omega), j7, j8, j9⟩)
          have hle := f2 b' c' j1 (by omega) j3 j4
          have : tbl S (80 * a + 8 * b' + c') = tn (v 5 i) := by
            rw [hv]
            rfl
          rw [i3, ← this]
          exact hle
      · rcases f3 with f3 | ⟨i, j, i1, i2, i3, i4, i5⟩
        · omega
        · rw [i5]
          by_cases q : S (264 + (80 * a + 8 * i + j)) = 0
          · have : tbl S (80 * a + 8 * i + j) = 0 := by
              unfold tbl
              rw [q]
              rfl
            omega
          · obtain ⟨k, hk, h1, h2, h3, h4⟩ := h.2.2 a i j ha (by omega) i4 q
            have hv := h.own ha (show i < 10 by omega) i4 hk ⟨h1, h2, h3, h4⟩
            rcases h.1 k hk with z | ⟨a', b', c', x, j1, j2, j3, j4, j5, j6, j7, j8, j9, -⟩
            · exact absurd z h1
            · have := g3 k (by omega) hk ⟨i, j, x, i1, by omega, i3, i4, j4, j5, h2, h3, h4, j9⟩
              have e : tbl S (80 * a + 8 * i + j) = tn (v 5 k) := by
                rw [hv]
                rfl
              rw [e]
              exact this
    rw [er, ← hr]
    exact g1 post (fun x4 _ v => post x4 v)
theorem k_price {v : V} {S : Nat → Int32} {post : Int32 → V → Prop} {k : Nat} (hP : RP v S) (hT : okT S) (hK : okK S k) (h7 : v 7 k = S (14 + 10 * k + 0)) (h8 : v 8 k = S (14 + 10 * k + 1)) (h9 : v 9 k = S (14 + 10 * k + 2)) (hk : k < 20) : s_X1_priceOf v (nI k) post = post (pS S k) v := by
  obtain ⟨a1, a2, a3, a4, a5, a6, a7⟩ := hK.at
  have hr := rS_le hT hK
  unfold s_X1_priceOf
  rw [k_sieve hk (by omega) (h7.trans a1), b_and (vp_in_nI hk (by decide)), b_and (vp_in_nI hk (by decide)), tn_nI (by omega), h8, h9, a4, a6, k_rate hP hT (svN_lt _) a5 a7, b_and (vp_in_nI hk (by decide))]
  rw [show rateN (tbl S) (svN (tn (S (14 + 10 * k + 0)))) (tn (S (14 + 10 * k + 1))) (tn (S (14 + 10 * k + 2))) = rS S k from rfl]
  unfold pS prI
  by_cases h0 : rS S k = 0
  · rw [h0, if_pos rfl, b_t' (show nI 0 = 0 from rfl)]
  · rw [if_neg h0, b_f' (nI_ne0 (by omega) (by omega))]
    have hm : tn (S (14 + 10 * k + 0)) * rS S k ≤ 999 * 9999 := Nat.mul_le_mul a2 hr
    rw [h7]
    generalize hx : tn (S (14 + 10 * k + 0)) = x at hm a1
    rw [a1, pk_mul, show (100 : Int32) = nI 100 from rfl, pk_div (by omega) (by omega) (by omega)]
