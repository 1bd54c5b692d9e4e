/-! P29 10: acts -/
def Stt (x : V) (nd ns nm k : Nat) (th io is : Int32) : Prop :=
  (k = ns ∧ th = 0 ∧ io = 0 ∧ is = 0) ∨
  (k < ns ∧ th = 1 ∧ io = 0 ∧ is = 0 ∧ x 12 k = -1 ∧ x 14 k = 0 ∧ ∃ o, o < nd ∧ x 10 k = nI o ∧ x 11 k = nI o) ∨
  (k < ns ∧ th = 1 ∧ io = 0 ∧ is = 1 ∧ x 12 k = -1 ∧ ¬ x 14 k = 0) ∨
  (k < ns ∧ th = 1 ∧ io = 1 ∧ is = 0 ∧ x 14 k = 0 ∧ ∃ o hh m a, o < nd ∧ hh < nd ∧ m < nm ∧ a ≤ 99890 ∧ x 12 k = nI m ∧ x 13 k = nI a ∧ x 10 k = nI o ∧ x 11 k = nI hh)
/-- what an act may come to -/
def Fin (G x z s p : V) (n : Nat) (post : Int32 → V → V → V → V → V → V → V → V → V → V → V → Prop) : Prop := ∀ x' y' H' a' b' c' d' o' n', PI G x' s H' a' b' c' d' p o' n' → Aft n o' n' x x' a' b' c' d' → post 1 G x' y' z s H' a' b' c' d' p
section ACT
variable {G x y z s H a b c d p : V} {o n nd ns nm t g e k : Nat} {S : Nat → Int32} {post : Int32 → V → V → V → V → V → V → V → V → V → V → V → Prop} {py th io is : Int32}
theorem Fin.id (hp : Fin G x z s p n post) (h : PI G x s H a b c d p o n) : post 1 G x y z s H a b c d p := hp x y H a b c d o n h (Or.inl ⟨rfl, Or.inr rfl⟩)
theorem act_stone {dd : Nat} (h : PI G x s H a b c d p o n) (hRn : Rn x S nd ns nm t g e 0) (hd : dd ≤ nd) (hp : Fin G x z s p n post) : s_L_low py 1000 (fun (r_394 : Int32) => s_L_low (py >>> (10 &&& 31)) 5 (fun (r_395 : Int32) => s_L_low (py >>> (13 &&& 31)) 4 (fun (r_396 : Int32) => s_X6_stone G x y H a b c d (nI dd) r_394 r_395 r_396 (fun (r_397 : Int32) (v_398 : V) (v_399 : V) (v_400 : V) (v_401 : V) (v_402 : V) (v_403 : V) (v_404 : V) (v_405 : V) => (nI dd = nI nd → sj_L_acts_156 post r_397 v_398 v_399 v_400 z s v_401 v_402 v_403 v_404 v_405 p) ∧ (¬ nI dd = nI nd → ((¬ r_394 = 0 → ((¬ nI ns = 20 → sj_L_acts_175 post r_397 (nI ns) v_398 v_399 v_400 z s v_401 v_402 v_403 v_404 v_405 p) ∧ (nI ns = 20 → (sj_L_acts_175 post r_397 (-10000003) v_398 v_399 v_400 z s v_401 v_402 v_403 v_404 v_405 p)))) ∧ (r_394 = 0 → sj_L_acts_156 post r_397 v_398 v_399 v_400 z s v_401 v_402 v_403 v_404 v_405 p))))))) := by
  obtain ⟨n1, n2, n3, n4, n5, n6, v04, S0, v60, -⟩ := hRn.1
  obtain ⟨wt, w1, w2⟩ := k_low py (n := 1000) (by omega) (by omega)
  obtain ⟨c1, u1, u2⟩ := k_low (py >>> (10 &&& 31)) (n := 5) (by omega) (by omega)
  obtain ⟨c2, t1, t2⟩ := k_low (py >>> (13 &&& 31)) (n := 4) (by omega) (by omega)
  rw [show ∀ post, s_L_low py 1000 post = post (nI wt) from w2, show ∀ post, s_L_low (py >>> (10 &&& 31)) 5 post = post (nI c1) from u2, show ∀ post, s_L_low (py >>> (13 &&& 31)) 4 post = post (nI c2) from t2]
  obtain ⟨r, x', y', H', a', b', c', d', o', n', e1, e2, e3, e4, -⟩ := op_stone (y := y) h (nI dd) (nI wt) (nI c1) (nI c2)
  have fin := hp x' y' H' a' b' c' d' o' n' e3 e4
  rw [e1]
  by_cases hdn : dd = nd
  · subst hdn
    obtain ⟨hr, -⟩ := det e2 (fun post => an_stone_d v04 post)
    subst hr
    rw [b_t (show nI dd = nI dd from rfl)]
    unfold sj_L_acts_156 sj_L_acts_175
    rw [b_t' (show (-10000001 : Int32) = -10000001 from rfl)]
    exact fin
  · rw [b_f (show ¬ nI dd = nI nd by rw [n_eq (by omega) (by omega)]; exact hdn)]
    by_cases hw : wt = 0
    · subst hw
      obtain ⟨hr, -⟩ := det e2 (fun post => an_stone_w v04 n1 (by omega) post)
      subst hr
      rw [b_t' (show nI 0 = 0 from rfl)]
      unfold sj_L_acts_156 sj_L_acts_175
      rw [b_t' (show (-10000001 : Int32) = -10000001 from rfl)]
      exact fin
    · rw [b_f' (nI_ne0 (by omega) (by omega))]
      by_cases hs : ns = 20
      · subst hs
        obtain ⟨hr, -⟩ := det e2 (fun post => an_stone_f v04 v60 n1 (by omega) (by omega) (by omega) (by omega) (by omega) post)
        subst hr
        rw [b_t' (show nI 20 = 20 from rfl)]
        unfold sj_L_acts_175
        rw [b_t' (show (-10000003 : Int32) = -10000003 from rfl)]
        exact fin
      · obtain ⟨x2, a1, -⟩ := an_stone (d := dd) (c := wt) (a := c1) (b := c2) v04 v60 n1 (by omega) (by omega) (by omega) (by omega) (by omega) (by omega)
        obtain ⟨hr, -⟩ := det e2 a1
        subst hr
        rw [b_f' (show ¬ nI ns = 20 from (show ¬ nI ns = nI 20 by rw [n_eq (by omega) (by omega)]; exact hs))]
        unfold sj_L_acts_175
        rw [b_t' (show nI ns = nI ns from rfl)]
        exact fin
theorem act_dealer (h : PI G x s H a b c d p o n) (hRn : Rn x S nd ns nm t g e 0) (hp : Fin G x z s p n post) : s_L_low py 3 (fun (r_378 : Int32) => (0 < r_378 → post 1 G x y z s H a b c d p) ∧ (¬ 0 < r_378 → (s_X6_dealer G x y H a b c d (fun (r_379 : Int32) (v_380 : V) (v_381 : V) (v_382 : V) (v_383 : V) (v_384 : V) (v_385 : V) (v_386 : V) (v_387 : V) => (¬ nI nd = 6 → sj_L_acts_215 post r_379 (nI nd) v_380 v_381 v_382 z s v_383 v_384 v_385 v_386 v_387 p) ∧ (nI nd = 6 → (sj_L_acts_215 post r_379 (-10000003) v_380 v_381 v_382 z s v_383 v_384 v_385 v_386 v_387 p)))))) := by
  obtain ⟨n1, n2, n3, n4, n5, n6, v04, S0, v60, -⟩ := hRn.1
  obtain ⟨q, q1, q2⟩ := k_low py (n := 3) (by omega) (by omega)
  rw [show ∀ post, s_L_low py 3 post = post (nI q) from q2]
  by_cases hz : (0 : Int32) < nI q
  · rw [b_t hz]
    exact hp.id h
  · rw [b_f hz]
    obtain ⟨r, x', y', H', a', b', c', d', o', n', e1, e2, e3, e4, -⟩ := op_dealer (y := y) h
    have fin := hp x' y' H' a' b' c' d' o' n' e3 e4
    rw [e1]
    by_cases hn : nd = 6
    · obtain ⟨hr, -⟩ := det e2 (fun post => an_deal_f hRn hn post)
      subst hr
      rw [b_t' (show nI nd = 6 by rw [hn]; rfl)]
      unfold sj_L_acts_215
      rw [b_t' (show (-10000003 : Int32) = -10000003 from rfl)]
      exact fin
    · obtain ⟨x2, a1, -⟩ := an_deal v04 (by omega)
      obtain ⟨hr, -⟩ := det e2 a1
      subst hr
      rw [b_f' (show ¬ nI nd = 6 from (show ¬ nI nd = nI 6 by rw [n_eq (by omega) (by omega)]; exact hn))]
      unfold sj_L_acts_215
      rw [b_t' (show nI nd = nI nd from rfl)]
      exact fin
/-- what there is at a grade -/
def Had (S : Nat → Int32) (x : V) (sv co cl : Nat) (had full : Int32) : Prop :=
  (sv = 5 ∧ had = 0 ∧ full = 0) ∨ (sv < 5 ∧ ¬ S (264 + (80 * sv + 8 * co + cl)) = 0 ∧ had = S (264 + (80 * sv + 8 * co + cl)) ∧ full = 0) ∨ (sv < 5 ∧ S (264 + (80 * sv + 8 * co + cl)) = 0 ∧ had = -10000004 ∧ ((cz (x 5) 24 = 24 ∧ full = 1) ∨ (¬ cz (x 5) 24 = 24 ∧ full = 0)))
theorem okT_pos (hT : okT S) {j : Nat} (hj : j < 400) (h : ¬ S (264 + j) = 0) : (0 : Int32) ≤ S (264 + j) := by
  obtain ⟨r, r1, r2⟩ := hT j hj
  rw [r2]
  exact nI_pos' (by omega)
theorem act_rate2 {sv co cl r0 : Nat} {had full : Int32} (h : PI G x s H a b c d p o n) (hRn : Rn x S nd ns nm t g e 0) (hc : co < 10) (hl : cl < 8) (hr : r0 ≤ 5000) (hh : Had S x sv co cl had full) (hp : Fin G x z s p n post) : sj_L_acts_394 post (nI sv) (nI co) (nI cl) (nI r0) had full G x y z s H a b c d p := by
  obtain ⟨hg, hb, ⟨hP, hT⟩, -⟩ := hRn
  obtain ⟨r, x', y', H', a', b', c', d', o', n', e1, e2, e3, e4, -⟩ := op_rate (y := y) h (nI sv) (nI co) (nI cl) (nI r0)
  have fin := hp x' y' H' a' b' c' d' o' n' e3 e4
  unfold sj_L_acts_394
  rw [e1]
  rcases hh with ⟨h1, -, -⟩ | ⟨h1, h2, h3, h4⟩ | ⟨h1, h2, h3, h4⟩
  · subst h1
    obtain ⟨hr, -⟩ := det e2 (fun post => an_rate_s post)
    subst hr
    rw [b_t (show nI 5 = 5 from rfl)]
    unfold sj_L_acts_417 sj_L_acts_443
    rw [b_t' (show (-10000001 : Int32) = -10000001 from rfl)]
    exact fin
  · rw [b_f (show ¬ nI sv = 5 from (show ¬ nI sv = nI 5 by rw [n_eq (by omega) (by omega)]; omega))]
    by_cases hz : r0 = 0
    · subst hz
      obtain ⟨hr, -⟩ := det e2 (fun post => an_rate_c h1 hc hl post)
      subst hr
      rw [b_t' (show nI 0 = 0 from rfl)]
      unfold sj_L_acts_417 sj_L_acts_443
      rw [b_t' (show (-10000001 : Int32) = -10000001 from rfl)]
      exact fin
    · obtain ⟨x2, a1⟩ := an_rate_h (r := r0) hP h1 hc hl (by omega) (by omega) h2
      obtain ⟨hr, -⟩ := det e2 a1
      subst hr
      subst h3
      rw [b_f' (nI_ne0 (by omega) (by omega)), b_t h4, b_t (okT_pos hT (by omega) h2)]
      unfold sj_L_acts_443
      rw [b_t' (show S (264 + (80 * sv + 8 * co + cl)) = S (264 + (80 * sv + 8 * co + cl)) from rfl)]
      exact fin
  · rw [b_f (show ¬ nI sv = 5 from (show ¬ nI sv = nI 5 by rw [n_eq (by omega) (by omega)]; omega))]
    by_cases hz : r0 = 0
    · subst hz
      obtain ⟨hr, -⟩ := det e2 (fun post => an_rate_c h1 hc hl post)
      subst hr
      rw [b_t' (show nI 0 = 0 from rfl)]
      unfold sj_L_acts_417 sj_L_acts_443
      rw [b_t' (show (-10000001 : Int32) = -10000001 from rfl)]
      exact fin
    · rw [b_f' (nI_ne0 (by omega) (by omega))]
      rcases h4 with ⟨f1, f2⟩ | ⟨f1, f2⟩
      · obtain ⟨hr, -⟩ := det e2 (fun post => an_rate_f hP h1 hc hl (by omega) (by omega) h2 f1 post)
        subst hr
        rw [b_f (show ¬ full = 0 by rw [f2]; decide)]
        unfold sj_L_acts_443
        rw [b_t' (show (-10000003 : Int32) = -10000003 from rfl)]
        exact fin
      · obtain ⟨x2, a1⟩ := an_rate_n (r := r0) hP h1 hc hl (by omega) (by omega) h2 f1
        obtain ⟨hr, -⟩ := det e2 a1
        subst hr
        rw [b_t f2, b_f (show ¬ (0 : Int32) ≤ had by rw [h3]; decide)]
        unfold sj_L_acts_443
        rw [b_t' (show (0 : Int32) = 0 from rfl)]
        exact fin
theorem act_rate3 {sv co cl r0 : Nat} {how had full : Int32} (h : PI G x s H a b c d p o n) (hRn : Rn x S nd ns nm t g e 0) (hc : co < 10) (hl : cl < 8) (hr : r0 ≤ 5000) (hh : Had S x sv co cl had full) (hp : Fin G x z s p n post) : sj_L_acts_333 post py how (nI sv) (nI co) (nI cl) (nI r0) had full G x y z s H a b c d p := by
  have h394 := act_rate2 (y := y) h hRn hc hl hr hh hp
  obtain ⟨hg, hb, ⟨hP, hT⟩, -⟩ := hRn
  unfold sj_L_acts_333
  refine ⟨fun _ => h394, fun _ => ?_⟩
  obtain ⟨q, q1, q2⟩ := k_low (py >>> (20 &&& 31)) (n := 3) (by omega) (by omega)
  rw [show ∀ post, s_L_low (py >>> (20 &&& 31)) 3 post = post (nI q) from q2]
  refine ⟨fun _ => h394, fun _ => ?_⟩
  obtain ⟨r, x', y', H', a', b', c', d', o', n', e1, e2, e3, e4, -⟩ := op_unrate (y := y) h (nI sv) (nI co) (nI cl)
  have fin := hp x' y' H' a' b' c' d' o' n' e3 e4
  rw [e1]
  rcases hh with ⟨h1, -, -⟩ | ⟨h1, h2, h3, h4⟩ | ⟨h1, h2, h3, h4⟩
  · subst h1
    obtain ⟨hr, -⟩ := det e2 (fun post => an_unrate_s post)
    subst hr
    rw [b_t' (show nI 5 = 5 from rfl)]
    unfold sj_L_acts_385
    rw [b_t' (show (-10000001 : Int32) = -10000001 from rfl)]
    exact fin
  · obtain ⟨x2, a1⟩ := an_unrate_h hP h1 hc hl h2
    obtain ⟨hr, -⟩ := det e2 a1
    subst hr
    subst h3
    rw [b_f' (show ¬ nI sv = 5 from (show ¬ nI sv = nI 5 by rw [n_eq (by omega) (by omega)]; omega)), b_t (okT_pos hT (by omega) h2)]
    unfold sj_L_acts_385
    rw [b_t' (show S (264 + (80 * sv + 8 * co + cl)) = S (264 + (80 * sv + 8 * co + cl)) from rfl)]
    exact fin
  · obtain ⟨hr, -⟩ := det e2 (fun post => an_unrate_n hP h1 hc hl h2 post)
    subst hr
    rw [b_f' (show ¬ nI sv = 5 from (show ¬ nI sv = nI 5 by rw [n_eq (by omega) (by omega)]; omega)), b_f (show ¬ (0 : Int32) ≤ had by rw [h3]; decide)]
    unfold sj_L_acts_385
    rw [b_t' (show (-10000002 : Int32) = -10000002 from rfl)]
    exact fin
theorem act_rate4 {sv co cl r0 : Nat} {how : Int32} (h : PI G x s H a b c d p o n) (hRn : Rn x S nd ns nm t g e 0) (hs : sv < 6) (hc : co < 10) (hl : cl < 8) (hr : r0 ≤ 5000) (hp : Fin G x z s p n post) : sj_L_acts_287 post py how (nI sv) (nI co) (nI cl) (nI r0) G x y z s H a b c d p := by
  have hRn' := hRn
  obtain ⟨hg, hb, ⟨hP, hT⟩, -⟩ := hRn'
  unfold sj_L_acts_287
  by_cases h5 : sv = 5
  · rw [b_t' (show nI sv = 5 by rw [h5]; rfl)]
    unfold sj_L_acts_310
    rw [b_t (show (0 : Int32) ≤ 0 by decide)]
    exact act_rate3 h hRn hc hl hr (Or.inl ⟨h5, rfl, rfl⟩) hp
  · have hs5 : sv < 5 := by omega
    rw [b_f' (show ¬ nI sv = 5 from (show ¬ nI sv = nI 5 by rw [n_eq (by omega) (by omega)]; exact h5)), tr1 hP hs5 hc hl]
    unfold sj_L_acts_310
    by_cases hz : S (264 + (80 * sv + 8 * co + cl)) = 0
    · rw [if_pos hz, b_f (show ¬ (0 : Int32) ≤ -10000004 by decide), tc6]
      by_cases hf : cz (x 5) 24 = 24
      · rw [b_t' (show nI (cz (x 5) 24) = 24 by rw [hf]; rfl)]
        exact act_rate3 h hRn hc hl hr (Or.inr (Or.inr ⟨hs5, hz, rfl, Or.inl ⟨hf, rfl⟩⟩)) hp
      · have := cz_le (x 5) 24
        rw [b_f' (show ¬ nI (cz (x 5) 24) = 24 from (show ¬ nI (cz (x 5) 24) = nI 24 by rw [n_eq (by omega) (by omega)]; exact hf))]
        exact act_rate3 h hRn hc hl hr (Or.inr (Or.inr ⟨hs5, hz, rfl, Or.inr ⟨hf, rfl⟩⟩)) hp
    · rw [if_neg hz, b_t (okT_pos hT (by omega) hz)]
      exact act_rate3 h hRn hc hl hr (Or.inr (Or.inl ⟨hs5, hz, rfl, rfl⟩)) hp
/-! lend -/
theorem act_lend2 {dd to days : Nat} {good1 may1 : Int32} (h : PI G x s H a b c d p o n) (hRn : Rn x S nd ns nm t g e 0) (hd : dd ≤ nd) (ht : to ≤ nd) (hdy : days < 30) (hk : k ≤ ns) (hh : (good1 = 0 ∧ (dd = nd ∨ to = nd ∨ dd = to ∨ k = ns ∨ days = 0)) ∨ (good1 = 1 ∧ dd < nd ∧ to < nd ∧ dd ≠ to ∧ k < ns ∧ 1 ≤ days ∧ ((may1 = 0 ∧ ¬ good S dd k) ∨ (may1 = 1 ∧ good S dd k ∧ x 14 k = 0)))) (hp : Fin G x z s p n post) : sj_L_acts_561 post (nI dd) (nI k) (nI to) (nI days) good1 may1 G x y z s H a b c d p := by
  obtain ⟨n1, n2, n3, n4, n5, n6, v04, S0, v60, S1, v160, S2, v05, -⟩ := hRn.1
  obtain ⟨r, x', y', H', a', b', c', d', o', n', e1, e2, e3, e4, -⟩ := op_lend (y := y) h (nI dd) (nI to) (nI days) (nI (2 ^ k))
  have fin := hp x' y' H' a' b' c' d' o' n' e3 e4
  have bd : ∀ (q : Int32), q < 0 → r = q → sj_L_acts_622 post (nI k) (nI to) (nI days) r r q G x' y' z s H' a' b' c' d' p := fun q hq hr => by
    subst hr
    unfold sj_L_acts_622
    rw [b_t' (show r = r from rfl), b_t hq]
    exact fin
  unfold sj_L_acts_561
  rw [tc4 v160, one_n (show k < 31 by omega), e1]
  rcases hh with ⟨h1, h2⟩ | ⟨h1, g1, g2, g3, g4, g5, h2⟩
  · obtain ⟨hr, -⟩ := det e2 (fun post => an_lend_x v04 n1 v60 n2 hd ht (by omega) hk h2 post)
    rw [b_t' h1]
    exact bd _ (by decide) hr
  · rw [b_f' (show ¬ good1 = 0 by rw [h1]; exact z10)]
    rcases h2 with ⟨h2, h3⟩ | ⟨h2, h3, h14⟩
    · obtain ⟨hr, -⟩ := det e2 (fun post => an_lend_s hRn g1 g2 g3 g5 (by omega) g4 h3 post)
      rw [b_t' h2]
      exact bd _ (by decide) hr
    · rw [b_f' (show ¬ may1 = 0 by rw [h2]; exact z10)]
      by_cases hm : nm = 10
      · subst hm
        obtain ⟨hr, -⟩ := det e2 (fun post => an_lend_f hRn g1 g2 g3 g5 (by omega) g4 h3 post)
        rw [b_t' (show nI 10 = 10 from rfl)]
        exact bd _ (by decide) hr
      · obtain ⟨x2, a1, a2, a3, a4, a5, a6, a7⟩ := an_lend hRn g1 g2 g3 g5 (by omega) g4 h3 (by omega)
        obtain ⟨hr, hx⟩ := det e2 a1
        subst hr
        subst hx
        rw [b_f' (show ¬ nI nm = 10 from (show ¬ nI nm = nI 10 by rw [n_eq (by omega) (by omega)]; exact hm))]
        unfold sj_L_acts_622
        rw [b_t' (show nI nm = nI nm from rfl), b_f (n_neg (by omega)), tm2 a5 (by omega) (by omega), tc7 (show x' 0 5 = nI t by rw [a3]; exact v05), a6, b_t' (show nI (t + days) = nI t + nI days from (nI_add t days).symm), ts5 (show x' 6 0 = nI ns by rw [a2]; exact v60) n2 g4 (show x' 14 k = 0 by rw [a4]; exact h14), b_t' a7]
        exact fin
theorem act_lend1 {dd to days : Nat} (h : PI G x s H a b c d p o n) (hRn : Rn x S nd ns nm t g e 0) (hst : Stt x nd ns nm k th io is) (hd : dd < nd) (ht : to < nd) (hdt : dd ≠ to) (hdy : days < 30) (h1 : 1 ≤ days) (hk : k < ns) (hp : Fin G x z s p n post) : sj_L_acts_514 post (nI dd) (nI k) (nI to) (nI days) 1 G x y z s H a b c d p := by
  have hRn' := hRn
  obtain ⟨hg, hb, ⟨hP, hT⟩, hkk, -⟩ := hRn'
  obtain ⟨n1, n2, n3, n4, n5, n6, v04, S0, v60, S1, v160, S2, v05, -⟩ := hg
  have k20 : k < 20 := by omega
  obtain ⟨⟨e0, e1, e2, e3, e4, e5, e6, e7, e8⟩, hO, -⟩ := hkk k hk
  have no : ¬ good S dd k → sj_L_acts_561 post (nI dd) (nI k) (nI to) (nI days) 1 0 G x y z s H a b c d p := fun hn => act_lend2 h hRn (by omega) (by omega) hdy (by omega) (Or.inr ⟨rfl, hd, ht, hdt, hk, h1, Or.inl ⟨rfl, hn⟩⟩) hp
  unfold sj_L_acts_514
  rw [b_f z10]
  rcases hst with ⟨z1, -⟩ | ⟨-, -, -, -, z1, z2, oo, z3, z4, z5⟩ | ⟨-, -, -, -, z1, z2⟩ | ⟨-, -, -, -, z1, oo, hh, m, q, z2, z3, z4, z5, z6, z7, z8, z9⟩
  · omega
  · rw [ts4 v60 n2 hk z2, z4]
    by_cases q1 : oo = dd
    · subst q1
      rw [b_t' (show nI oo = nI oo from rfl), ts5 v60 n2 hk z2, z5, b_t' (show nI oo = nI oo from rfl)]
      rcases pS_m1 hT hO with ⟨hx, -⟩ | ⟨px, hpx, hx, -⟩
      · rw [ts6n v60 n2 hk (fun post => by rw [k_price hP hT hO e0 e1 e2 k20, hx]), b_t (show (-10000004 : Int32) < 0 by decide)]
        exact no (fun w => w.2.2 hx)
      · rw [ts6 v60 n2 hk (show px < 2147483648 by omega) (fun post => by rw [k_price hP hT hO e0 e1 e2 k20, hx]), b_f (n_neg (by omega))]
        refine act_lend2 h hRn (by omega) (by omega) hdy (by omega) (Or.inr ⟨rfl, hd, ht, hdt, hk, h1, Or.inr ⟨rfl, ⟨?_, ?_, ?_⟩, z2⟩⟩) hp
        · rw [← e3]
          exact z4
        · rw [← e4]
          exact z5
        · rw [hx]
          exact n_m1 (by omega)
    · rw [b_f' (show ¬ nI oo = nI dd by rw [n_eq (by omega) (by omega)]; exact q1)]
      refine no (fun w => q1 ?_)
      have := w.1
      rw [← e3, z4, n_eq (by omega) (by omega)] at this
      exact this
  · have hnn : ¬ (-10000004 : Int32) = nI dd := fun q => by
      have := n_neg (show dd < 2147483648 by omega)
      rw [← q] at this
      exact this (by decide)
    rw [ts4s v60 n2 hk z2, b_f' hnn]
    refine no (fun w => ?_)
    have := w.home (by omega) n1 (hkk k hk)
    obtain ⟨o', cc, -, -, -, -, -, r6, -⟩ := this
    exact z2 (e7.trans r6)
  · have hng : ¬ good S dd k := fun w => by
      have := w.home (by omega) n1 (hkk k hk)
      obtain ⟨o', cc, -, -, -, -, r5, -⟩ := this
      have q1 := z6.symm.trans (e5.trans r5)
      exact n_m1 (show m < 2147483648 by omega) q1
    rw [ts4 v60 n2 hk z1]
    refine ⟨fun _ => no hng, fun q4 => ?_⟩
    rw [ts5 v60 n2 hk z1]
    refine ⟨fun _ => no hng, fun q5 => ?_⟩
    exfalso
    have b1 : oo = dd := by
      rw [z8, n_eq (by omega) (by omega)] at q4
      exact q4
    have b2 : hh = dd := by
      rw [z9, n_eq (by omega) (by omega)] at q5
      exact q5
    rcases (hkk k hk).2.2 with ⟨o1, cc, y1, y2, y3, y4, y5, y6, y7⟩ | ⟨q1, cc, y1, y2, y3, y4, y5, y6, y7, y8⟩ | ⟨o1, h1', m1, a1, cc, y1, y2, y3, y4, y5, y6, y7, y8, y9, y10, y11, y12, y13, y14⟩
    · exact n_m1 (show m < 2147483648 by omega) (z6.symm.trans (e5.trans y5))
    · exact n_m1 (show m < 2147483648 by omega) (z6.symm.trans (e5.trans y6))
    · have c1 : oo = o1 := by
        have := z8.symm.trans (e3.trans y7)
        rw [n_eq (by omega) (by omega)] at this
        exact this
      have c2 : hh = h1' := by
        have := z9.symm.trans (e4.trans y8)
        rw [n_eq (by omega) (by omega)] at this
        exact this
      omega
end ACT
