/-! P29 11: acts on -/
section ACT2
variable {G x y z s H a b c d p : V} {o n nd ns nm t g e k : Nat} {S : Nat → Int32} {post : Int32 → V → V → V → V → V → V → V → V → V → V → V → Prop} {py th io is : Int32}
theorem pcN_0 {q : Nat} : ∀ k, pcN q k = 0 → q % 2 ^ k = 0
  | 0, _ => by rw [Nat.pow_zero, Nat.mod_one]
  | k + 1, h => by
    rw [pcN] at h
    have h1 : q % 2 ^ k = 0 := pcN_0 k (by omega)
    rw [Nat.mod_pow_succ, h1, show q / 2 ^ k % 2 = 0 by omega, Nat.mul_zero]
theorem pcN_z : ∀ k, pcN 0 k = 0
  | 0 => rfl
  | k + 1 => by rw [pcN, pcN_z k, Nat.zero_div]
/-- how many are still out, and whether any is -/
theorem on_set {f : Nat → Int32} {q : Int32} {ns : Nat} (hn : ns ≤ 20) : (onF (setF f q ns) 20 ≤ 0) = (setF f q ns = 0) := by
  have h1 := sN_lt f q ns
  have h2 : 2 ^ ns ≤ 2 ^ 20 := Nat.pow_le_pow_right (by decide) hn
  have hle : ∀ k, pcN (sN f q ns) k ≤ k := by
    intro k
    induction k with
    | zero => exact Nat.le_refl _
    | succ k ih =>
      rw [pcN]
      omega
  have h20 := hle 20
  rw [setF_n f q ns hn, onF_n (by omega) 20 (Nat.le_refl _)]
  apply propext
  constructor
  · intro h
    have hp : pcN (sN f q ns) 20 = 0 := by
      by_cases z : pcN (sN f q ns) 20 = 0
      · exact z
      · exact absurd h (nI_nle (by omega) (by omega))
    have hm := pcN_0 20 hp
    rw [Nat.mod_eq_of_lt (by omega)] at hm
    rw [hm]
    rfl
  · intro h
    have hz : sN f q ns = 0 := by
      by_cases z : sN f q ns = 0
      · exact z
      · exact absurd h (nI_ne0 (by omega) (by omega))
    rw [hz, pcN_z]
    decide
theorem act_back (h : PI G x s H a b c d p o n) (hRn : Rn x S nd ns nm t g e 0) (hst : Stt x nd ns nm k th io is) (hp : Fin G x z s p n post) : (io = 0 → sj_L_acts_690 post (nI k) th io 0 G x y z s H a b c d p) ∧ (¬ io = 0 → (s_X6_stoneOf G x (nI k) 7 (fun (r_252 : Int32) (v_253 : V) (v_254 : V) => sj_L_acts_690 post (nI k) th io r_252 v_253 v_254 y z s H a b c d p))) := by
  obtain ⟨n1, n2, n3, n4, n5, n6, v04, S0, v60, S1, v160, S2, v05, -⟩ := hRn.1
  obtain ⟨r, x', y', H', a', b', c', d', o', n', e1, e2, e3, e4, -⟩ := op_back (y := y) h (nI k)
  have fin := hp x' y' H' a' b' c' d' o' n' e3 e4
  have no : k < ns → x 12 k = -1 → sj_L_acts_690 post (nI k) 1 0 0 G x y z s H a b c d p := fun hk h12 => by
    obtain ⟨hr, -⟩ := det e2 (fun post => an_back_n v60 n2 hk h12 post)
    subst hr
    unfold sj_L_acts_690
    rw [e1, b_f' z10, b_t' (show (0 : Int32) = 0 from rfl), b_t' (show (-10000002 : Int32) = -10000002 from rfl)]
    exact fin
  rcases hst with ⟨hk, z1, z2, z3⟩ | ⟨hk, z1, z2, z3, z4, -⟩ | ⟨hk, z1, z2, z3, z4, -⟩ | ⟨hk, z1, z2, z3, z4, oo, hh, m, q, y2, y3, y4, y5, y6, y7, y8, y9⟩
  · subst hk
    subst z1
    subst z2
    obtain ⟨hr, -⟩ := det e2 (fun post => an_back_x v60 post)
    subst hr
    rw [b_t (show (0 : Int32) = 0 from rfl)]
    unfold sj_L_acts_690
    rw [e1, b_t' (show (0 : Int32) = 0 from rfl), b_t' (show (-10000001 : Int32) = -10000001 from rfl)]
    exact fin
  · subst z1
    subst z2
    rw [b_t (show (0 : Int32) = 0 from rfl)]
    exact no hk z4
  · subst z1
    subst z2
    rw [b_t (show (0 : Int32) = 0 from rfl)]
    exact no hk z4
  · subst z1
    subst z2
    rw [b_f z10, ts7 v60 n2 hk (show m < 1000000 by omega) y6]
    obtain ⟨x2, a1, a2, a3⟩ := an_back v60 n2 hk (show m < 10 by omega) y6
    obtain ⟨hr, hx⟩ := det e2 a1
    subst hx
    have w60 : x' 6 0 = nI ns := by rw [a2]; exact v60
    have w160 : x' 16 0 = nI nm := by rw [a3]; exact v160
    have hpos : ¬ r < 0 := by
      rw [hr]
      exact on_pos n2
    have hon : (r ≤ 0) = (setF (x' 12) (nI m) ns = 0) := by
      rw [hr]
      exact on_set n2
    unfold sj_L_acts_690
    rw [e1, b_f' z10, b_f' z10, b_f hpos]
    by_cases hz : setF (x' 12) (nI m) ns = 0
    · rw [b_t (show r ≤ 0 by rw [hon]; exact hz)]
      unfold sj_L_acts_755
      rw [tm6c w160 n3 y4 w60 n2 hz, b_f' (show ¬ (0 : Int32) = 1 by decide)]
      unfold sj_L_acts_772
      rw [b_t' (show (0 : Int32) = 0 from rfl)]
      exact fin
    · rw [b_f (show ¬ r ≤ 0 by rw [hon]; exact hz)]
      unfold sj_L_acts_755
      rw [tm6o w160 n3 y4 w60 n2 hz, b_t' (show (1 : Int32) = 1 from rfl)]
      unfold sj_L_acts_772
      rw [b_t' (show (1 : Int32) = 1 from rfl)]
      exact fin
theorem act_keep (h : PI G x s H a b c d p o n) (hRn : Rn x S nd ns nm t g e 0) (hst : Stt x nd ns nm k th io is) (hp : Fin G x z s p n post) : (io = 0 → sj_L_acts_804 post (nI k) th io 0 G x y z s H a b c d p) ∧ (¬ io = 0 → (s_X6_stoneOf G x (nI k) 8 (fun (r_224 : Int32) (v_225 : V) (v_226 : V) => sj_L_acts_804 post (nI k) th io r_224 v_225 v_226 y z s H a b c d p))) := by
  obtain ⟨n1, n2, n3, n4, n5, n6, v04, S0, v60, S1, v160, S2, v05, -⟩ := hRn.1
  obtain ⟨r, x', y', H', a', b', c', d', o', n', e1, e2, e3, e4, -⟩ := op_keep (y := y) h (nI k)
  have fin := hp x' y' H' a' b' c' d' o' n' e3 e4
  have no : k < ns → x 12 k = -1 → sj_L_acts_804 post (nI k) 1 0 0 G x y z s H a b c d p := fun hk h12 => by
    obtain ⟨hr, -⟩ := det e2 (fun post => an_keep_n v60 n2 hk h12 post)
    subst hr
    unfold sj_L_acts_804
    rw [b_t (show (0 : Int32) = 0 from rfl)]
    unfold sj_L_acts_822
    rw [e1, b_f' z10, b_t' (show (0 : Int32) = 0 from rfl)]
    unfold sj_L_acts_852
    rw [b_t' (show (-10000002 : Int32) = -10000002 from rfl), b_t (show (0 : Int32) = 0 from rfl)]
    exact fin
  rcases hst with ⟨hk, z1, z2, z3⟩ | ⟨hk, z1, z2, z3, z4, -⟩ | ⟨hk, z1, z2, z3, z4, -⟩ | ⟨hk, z1, z2, z3, z4, oo, hh, m, q, y2, y3, y4, y5, y6, y7, y8, y9⟩
  · subst hk
    subst z1
    subst z2
    obtain ⟨hr, -⟩ := det e2 (fun post => an_keep_x v60 post)
    subst hr
    rw [b_t (show (0 : Int32) = 0 from rfl)]
    unfold sj_L_acts_804
    rw [b_t (show (0 : Int32) = 0 from rfl)]
    unfold sj_L_acts_822
    rw [e1, b_t' (show (0 : Int32) = 0 from rfl)]
    unfold sj_L_acts_852
    rw [b_t' (show (-10000001 : Int32) = -10000001 from rfl), b_t (show (0 : Int32) = 0 from rfl)]
    exact fin
  · subst z1
    subst z2
    rw [b_t (show (0 : Int32) = 0 from rfl)]
    exact no hk z4
  · subst z1
    subst z2
    rw [b_t (show (0 : Int32) = 0 from rfl)]
    exact no hk z4
  · subst z1
    subst z2
    obtain ⟨x2, a1, a2, a3, a4⟩ := an_keep v04 n1 v60 n2 v160 n3 hk y4 y6 y7 y8 y9 y2 y3
    obtain ⟨hr, hx⟩ := det e2 a1
    subst hr
    subst hx
    rw [b_f z10, ts8 v60 n2 hk (show m < 1000000 by omega) y6, y7]
    unfold sj_L_acts_804
    rw [b_f z10, ts5 v60 n2 hk z4, y9]
    unfold sj_L_acts_822
    rw [e1, b_f' z10, b_f' z10]
    unfold sj_L_acts_852
    rw [b_t' (show nI q = nI q from rfl), b_f z10, ts4 (show x' 6 0 = nI ns by rw [a2]; exact v60) n2 hk (show x' 14 k = 0 by rw [a3]; exact z4), b_t' a4]
    exact fin
theorem act_sell2 {coins : Nat} {had : Int32} (h : PI G x s H a b c d p o n) (hRn : Rn x S nd ns nm t g e 0) (hst : Stt x nd ns nm k th io is) (hc : coins < 10001) (hh : k < ns → x 14 k = 0 → ∀ oo, oo < nd → x 10 k = nI oo → had = x 22 oo + 100000000) (hp : Fin G x z s p n post) : sj_L_acts_919 post py (nI k) th io is (nI coins) had G x y z s H a b c d p := by
  obtain ⟨n1, n2, n3, n4, n5, n6, v04, S0, v60, S1, v160, S2, v05, -⟩ := hRn.1
  obtain ⟨q, q1, q2⟩ := k_low (py >>> (15 &&& 31)) (n := 3) (by omega) (by omega)
  unfold sj_L_acts_919
  rw [show ∀ post, s_L_low (py >>> (15 &&& 31)) 3 post = post (nI q) from q2]
  refine ⟨fun _ => hp.id h, fun _ => ?_⟩
  obtain ⟨r, x', y', H', a', b', c', d', o', n', e1, e2, e3, e4, -⟩ := op_sell (y := y) h (nI k) (nI coins)
  have fin := hp x' y' H' a' b' c' d' o' n' e3 e4
  rw [e1]
  have bd1 : r = -10000001 → sj_L_acts_958 post r G x' y' z s H' a' b' c' d' p := fun hr => by
    unfold sj_L_acts_958 sj_L_acts_983
    rw [b_t' hr]
    exact fin
  have bd2 : r = -10000002 → sj_L_acts_973 post r G x' y' z s H' a' b' c' d' p := fun hr => by
    unfold sj_L_acts_973 sj_L_acts_983
    rw [b_t' hr]
    exact fin
  have big : k < ns → th = 1 → (1 ≤ coins → coins ≤ 9999 → (¬ io = 0 → sj_L_acts_973 post r G x' y' z s H' a' b' c' d' p) ∧ (io = 0 → ((is = 0 → (sj_L_acts_983 post r (had + nI coins) G x' y' z s H' a' b' c' d' p)) ∧ (¬ is = 0 → sj_L_acts_973 post r G x' y' z s H' a' b' c' d' p)))) → (th = 0 → sj_L_acts_958 post r G x' y' z s H' a' b' c' d' p) ∧ (¬ th = 0 → ((nI coins = 0 → sj_L_acts_958 post r G x' y' z s H' a' b' c' d' p) ∧ (¬ nI coins = 0 → ((¬ nI coins = 10000 → ((¬ io = 0 → sj_L_acts_973 post r G x' y' z s H' a' b' c' d' p) ∧ (io = 0 → ((is = 0 → (sj_L_acts_983 post r (had + nI coins) G x' y' z s H' a' b' c' d' p)) ∧ (¬ is = 0 → sj_L_acts_973 post r G x' y' z s H' a' b' c' d' p))))) ∧ (nI coins = 10000 → sj_L_acts_958 post r G x' y' z s H' a' b' c' d' p))))) := fun hk hth hin => by
    rw [b_f (show ¬ th = 0 by rw [hth]; exact z10)]
    by_cases c0 : coins = 0
    · subst c0
      rw [b_t (show nI 0 = 0 from rfl)]
      exact bd1 (det e2 (fun post => an_sell_c v60 n2 hk (Or.inl rfl) post)).1
    · rw [b_f (nI_ne0 (by omega) (by omega))]
      by_cases c9 : coins = 10000
      · subst c9
        rw [b_t' (show nI 10000 = 10000 from rfl)]
        exact bd1 (det e2 (fun post => an_sell_c v60 n2 hk (Or.inr rfl) post)).1
      · rw [b_f' (show ¬ nI coins = 10000 from (show ¬ nI coins = nI 10000 by rw [n_eq (by omega) (by omega)]; exact c9))]
        exact hin (by omega) (by omega)
  rcases hst with ⟨hk, z1, z2, z3⟩ | ⟨hk, z1, z2, z3, z4, z5, oo, y1, y2, y3⟩ | ⟨hk, z1, z2, z3, z4, z5⟩ | ⟨hk, z1, z2, z3, z4, oo, hh', m, q', y2, y3, y4, y5, y6, y7, y8, y9⟩
  · subst hk
    rw [b_t z1]
    exact bd1 (det e2 (fun post => an_sell_x v60 post)).1
  · refine big hk z1 (fun c1 c2 => ?_)
    obtain ⟨x2, a1⟩ := an_sell v04 n1 v60 n2 hk c1 c2 z4 z5 y2 y1
    obtain ⟨hr, -⟩ := det e2 a1
    rw [b_t' z2, b_t z3]
    unfold sj_L_acts_983
    rw [b_t' (show r = had + nI coins by rw [hr, hh hk z5 oo y1 y2])]
    exact fin
  · refine big hk z1 (fun c1 c2 => ?_)
    rw [b_t' z2, b_f (show ¬ is = 0 by rw [z3]; exact z10)]
    exact bd2 (det e2 (fun post => an_sell_s v60 n2 hk c1 c2 z4 z5 post)).1
  · refine big hk z1 (fun c1 c2 => ?_)
    rw [b_f' (show ¬ io = 0 by rw [z2]; exact z10)]
    exact bd2 (det e2 (fun post => an_sell_o v60 n2 hk c1 c2 (show m < 10 by omega) y6 post)).1
theorem act_sell (h : PI G x s H a b c d p o n) (hRn : Rn x S nd ns nm t g e 0) (hst : Stt x nd ns nm k th io is) (hp : Fin G x z s p n post) : s_L_low py 10001 (fun (r_168 : Int32) => (th = 0 → sj_L_acts_919 post py (nI k) th io is r_168 0 G x y z s H a b c d p) ∧ (¬ th = 0 → ((¬ is = 0 → sj_L_acts_919 post py (nI k) th io is r_168 0 G x y z s H a b c d p) ∧ (is = 0 → (s_X6_stoneOf G x (nI k) 4 (fun (r_188 : Int32) (v_189 : V) (v_190 : V) => s_X6_dealerOf v_189 v_190 r_188 0 (fun (r_191 : Int32) (v_192 : V) (v_193 : V) => sj_L_acts_919 post py (nI k) th io is r_168 r_191 v_192 v_193 y z s H a b c d p))))))) := by
  obtain ⟨n1, n2, n3, n4, n5, n6, v04, S0, v60, S1, v160, S2, v05, -⟩ := hRn.1
  obtain ⟨q, q1, q2⟩ := k_low py (n := 10001) (by omega) (by omega)
  rw [show ∀ post, s_L_low py 10001 post = post (nI q) from q2]
  have v0 : ∀ had, (k < ns → x 14 k = 0 → ∀ oo, oo < nd → x 10 k = nI oo → had = x 22 oo + 100000000) → sj_L_acts_919 post py (nI k) th io is (nI q) had G x y z s H a b c d p := fun had hh => act_sell2 h hRn hst q1 hh hp
  have ge : ∀ oo, k < ns → x 14 k = 0 → oo < nd → x 10 k = nI oo → s_X6_stoneOf G x (nI k) 4 (fun (r_188 : Int32) (v_189 : V) (v_190 : V) => s_X6_dealerOf v_189 v_190 r_188 0 (fun (r_191 : Int32) (v_192 : V) (v_193 : V) => sj_L_acts_919 post py (nI k) th io is (nI q) r_191 v_192 v_193 y z s H a b c d p)) := fun oo hk h14 ho h10 => by
    rw [ts4 v60 n2 hk h14, h10, td0 v04 n1 ho]
    refine v0 _ (fun _ _ o2 g1 g2 => ?_)
    have e := h10.symm.trans g2
    rw [n_eq (by omega) (by omega)] at e
    rw [e]
  have hst' := hst
  rcases hst' with ⟨hk, z1, z2, z3⟩ | ⟨hk, z1, z2, z3, z4, z5, oo, y1, y2, y3⟩ | ⟨hk, z1, z2, z3, z4, z5⟩ | ⟨hk, z1, z2, z3, z4, oo, hh', m, q', y2, y3, y4, y5, y6, y7, y8, y9⟩
  · rw [b_t z1]
    exact v0 0 (fun hk' => by omega)
  · rw [b_f (show ¬ th = 0 by rw [z1]; exact z10), b_t' z3]
    exact ge oo hk z5 y1 y2
  · rw [b_f (show ¬ th = 0 by rw [z1]; exact z10), b_f' (show ¬ is = 0 by rw [z3]; exact z10)]
    exact v0 0 (fun _ h14 => absurd h14 z5)
  · rw [b_f (show ¬ th = 0 by rw [z1]; exact z10), b_t' z3]
    exact ge oo hk z4 y2 y8
theorem Stt_th {x : V} (h : Stt x nd ns nm k th io is) : (k = ns ∧ th = 0) ∨ (k < ns ∧ th = 1) := by
  rcases h with ⟨hk, z1, -⟩ | ⟨hk, z1, -⟩ | ⟨hk, z1, -⟩ | ⟨hk, z1, -⟩
  · exact Or.inl ⟨hk, z1⟩
  · exact Or.inr ⟨hk, z1⟩
  · exact Or.inr ⟨hk, z1⟩
  · exact Or.inr ⟨hk, z1⟩
theorem act_lend {dd : Nat} (h : PI G x s H a b c d p o n) (hRn : Rn x S nd ns nm t g e 0) (hst : Stt x nd ns nm k th io is) (hd : dd ≤ nd) (hk : k ≤ ns) (hp : Fin G x z s p n post) : s_L_low py ((nI nd) + 1) (fun (r_258 : Int32) => s_L_low (py >>> (3 &&& 31)) 30 (fun (r_259 : Int32) => ((nI nd) ≤ (nI dd) → sj_L_acts_514 post (nI dd) (nI k) r_258 r_259 0 G x y z s H a b c d p) ∧ (¬ (nI nd) ≤ (nI dd) → (((nI nd) ≤ r_258 → sj_L_acts_514 post (nI dd) (nI k) r_258 r_259 0 G x y z s H a b c d p) ∧ (¬ (nI nd) ≤ r_258 → (((nI dd) = r_258 → sj_L_acts_514 post (nI dd) (nI k) r_258 r_259 0 G x y z s H a b c d p) ∧ (¬ (nI dd) = r_258 → ((th = 0 → sj_L_acts_514 post (nI dd) (nI k) r_258 r_259 0 G x y z s H a b c d p) ∧ (¬ th = 0 → ((r_259 ≤ 0 → sj_L_acts_514 post (nI dd) (nI k) r_258 r_259 0 G x y z s H a b c d p) ∧ (¬ r_259 ≤ 0 → sj_L_acts_514 post (nI dd) (nI k) r_258 r_259 1 G x y z s H a b c d p))))))))))) := by
  obtain ⟨n1, n2, -⟩ := hRn.1
  obtain ⟨to, t1, t2⟩ := k_low py (n := nd + 1) (by omega) (by omega)
  obtain ⟨days, d1, d2⟩ := k_low (py >>> (3 &&& 31)) (n := 30) (by omega) (by omega)
  rw [show nI nd + 1 = nI (nd + 1) from nI_add nd 1, t2, show ∀ post, s_L_low (py >>> (3 &&& 31)) 30 post = post (nI days) from d2]
  have no : (dd = nd ∨ to = nd ∨ dd = to ∨ k = ns ∨ days = 0) → sj_L_acts_514 post (nI dd) (nI k) (nI to) (nI days) 0 G x y z s H a b c d p := fun hh => by
    unfold sj_L_acts_514
    rw [b_t z00]
    exact act_lend2 h hRn hd (by omega) d1 hk (Or.inl ⟨rfl, hh⟩) hp
  by_cases q1 : dd = nd
  · rw [b_t (show nI nd ≤ nI dd by rw [q1]; exact Int32.le_refl _)]
    exact no (Or.inl q1)
  rw [b_f (show ¬ nI nd ≤ nI dd from nI_ge (by omega) (by omega))]
  by_cases q2 : to = nd
  · rw [b_t (show nI nd ≤ nI to by rw [q2]; exact Int32.le_refl _)]
    exact no (Or.inr (Or.inl q2))
  rw [b_f (show ¬ nI nd ≤ nI to from nI_ge (by omega) (by omega))]
  by_cases q3 : dd = to
  · rw [b_t (show nI dd = nI to by rw [q3])]
    exact no (Or.inr (Or.inr (Or.inl q3)))
  rw [b_f (show ¬ nI dd = nI to by rw [n_eq (by omega) (by omega)]; exact q3)]
  rcases Stt_th hst with ⟨y1, y2⟩ | ⟨y1, y2⟩
  · rw [b_t y2]
    exact no (Or.inr (Or.inr (Or.inr (Or.inl y1))))
  rw [b_f (show ¬ th = 0 by rw [y2]; exact z10)]
  by_cases q5 : days = 0
  · rw [b_t (show nI days ≤ 0 by rw [q5]; decide)]
    exact no (Or.inr (Or.inr (Or.inr (Or.inr q5))))
  rw [b_f (show ¬ nI days ≤ 0 from nI_nle (by omega) (by omega))]
  exact act_lend1 h hRn hst (by omega) (by omega) q3 d1 (by omega) y1 hp
theorem act_rate {how : Int32} (h : PI G x s H a b c d p o n) (hRn : Rn x S nd ns nm t g e 0) (hp : Fin G x z s p n post) : s_L_low py 6 (fun (r_321 : Int32) => s_L_low (py >>> (3 &&& 31)) 10 (fun (r_322 : Int32) => s_L_low (py >>> (7 &&& 31)) 8 (fun (r_323 : Int32) => s_L_low (py >>> (11 &&& 31)) 6 (fun (r_324 : Int32) => (¬ r_324 = 0 → (s_L_low (py >>> (12 &&& 31)) 5000 (fun (r_325 : Int32) => sj_L_acts_287 post py how r_321 r_322 r_323 (1 + r_325) G x y z s H a b c d p))) ∧ (r_324 = 0 → sj_L_acts_287 post py how r_321 r_322 r_323 0 G x y z s H a b c d p))))) := by
  obtain ⟨sv, a1, a2⟩ := k_low py (n := 6) (by omega) (by omega)
  obtain ⟨co, b1, b2⟩ := k_low (py >>> (3 &&& 31)) (n := 10) (by omega) (by omega)
  obtain ⟨cl, c1, c2⟩ := k_low (py >>> (7 &&& 31)) (n := 8) (by omega) (by omega)
  obtain ⟨f, f1, f2⟩ := k_low (py >>> (11 &&& 31)) (n := 6) (by omega) (by omega)
  obtain ⟨r, r1, r2⟩ := k_low (py >>> (12 &&& 31)) (n := 5000) (by omega) (by omega)
  rw [show ∀ post, s_L_low py 6 post = post (nI sv) from a2, show ∀ post, s_L_low (py >>> (3 &&& 31)) 10 post = post (nI co) from b2, show ∀ post, s_L_low (py >>> (7 &&& 31)) 8 post = post (nI cl) from c2, show ∀ post, s_L_low (py >>> (11 &&& 31)) 6 post = post (nI f) from f2, show ∀ post, s_L_low (py >>> (12 &&& 31)) 5000 post = post (nI r) from r2, show 1 + nI r = nI (1 + r) from nI_add 1 r]
  exact ⟨fun _ => act_rate4 h hRn a1 b1 c1 (by omega) hp, fun _ => act_rate4 (r0 := 0) h hRn a1 b1 c1 (by omega) hp⟩
theorem act_grade (h : PI G x s H a b c d p o n) (hRn : Rn x S nd ns nm t g e 0) (hst : Stt x nd ns nm k th io is) (hp : Fin G x z s p n post) : s_L_low py 11 (fun (r_140 : Int32) => (th = 0 → sj_L_acts_1033 post py (nI k) th is r_140 0 G x y z s H a b c d p) ∧ (¬ th = 0 → (s_X6_stoneOf G x (nI k) 1 (fun (r_157 : Int32) (v_158 : V) (v_159 : V) => s_X6_stoneOf v_158 v_159 (nI k) 2 (fun (r_160 : Int32) (v_161 : V) (v_162 : V) => sj_L_acts_1033 post py (nI k) th is r_140 ((10 * r_157) + r_160) v_161 v_162 y z s H a b c d p))))) := by
  obtain ⟨n1, n2, n3, n4, n5, n6, v04, S0, v60, S1, v160, S2, v05, -⟩ := hRn.1
  obtain ⟨q, q1, q2⟩ := k_low py (n := 11) (by omega) (by omega)
  obtain ⟨l, l1, l2⟩ := k_low (py >>> (4 &&& 31)) (n := 8) (by omega) (by omega)
  rw [show ∀ post, s_L_low py 11 post = post (nI q) from q2]
  obtain ⟨r, x', y', H', a', b', c', d', o', n', e1, e2, e3, e4, -⟩ := op_grade (y := y) h (nI k) (nI q) (nI l)
  have fin := hp x' y' H' a' b' c' d' o' n' e3 e4
  have g0 : ∀ q0, sj_L_acts_1033 post py (nI k) th is (nI q) q0 G x y z s H a b c d p = ((th = 0 → sj_L_acts_1063 post r G x' y' z s H' a' b' c' d' p) ∧ (¬ th = 0 → ((¬ nI q = 10 → ((is = 0 → sj_L_acts_1080 post r q0 G x' y' z s H' a' b' c' d' p) ∧ (¬ is = 0 → (sj_L_acts_1080 post r (-10000002) G x' y' z s H' a' b' c' d' p)))) ∧ (nI q = 10 → sj_L_acts_1063 post r G x' y' z s H' a' b' c' d' p)))) := fun q0 => by
    unfold sj_L_acts_1033
    rw [show ∀ post, s_L_low (py >>> (4 &&& 31)) 8 post = post (nI l) from l2, e1]
  have bd1 : r = -10000001 → sj_L_acts_1063 post r G x' y' z s H' a' b' c' d' p := fun hr => by
    unfold sj_L_acts_1063 sj_L_acts_1080
    rw [b_t' hr]
    exact fin
  have same : ∀ r2, r = r2 → sj_L_acts_1080 post r r2 G x' y' z s H' a' b' c' d' p := fun r2 hr => by
    unfold sj_L_acts_1080
    rw [b_t' hr]
    exact fin
  have in1 : k < ns → th = 1 → (q < 10 → ((is = 0 → sj_L_acts_1080 post r (10 * x 8 k + x 9 k) G x' y' z s H' a' b' c' d' p) ∧ (¬ is = 0 → (sj_L_acts_1080 post r (-10000002) G x' y' z s H' a' b' c' d' p)))) → (th = 0 → sj_L_acts_1033 post py (nI k) th is (nI q) 0 G x y z s H a b c d p) ∧ (¬ th = 0 → (s_X6_stoneOf G x (nI k) 1 (fun (r_157 : Int32) (v_158 : V) (v_159 : V) => s_X6_stoneOf v_158 v_159 (nI k) 2 (fun (r_160 : Int32) (v_161 : V) (v_162 : V) => sj_L_acts_1033 post py (nI k) th is (nI q) ((10 * r_157) + r_160) v_161 v_162 y z s H a b c d p)))) := fun hk hth hin => by
    have ht : ¬ th = 0 := by
      rw [hth]
      exact z10
    rw [b_f ht, ts1 v60 n2 hk, ts2 v60 n2 hk, g0, b_f ht]
    by_cases c9 : q = 10
    · subst c9
      rw [b_t' (show nI 10 = 10 from rfl)]
      exact bd1 (det e2 (fun post => an_grade_c v60 n2 hk post)).1
    · rw [b_f' (show ¬ nI q = 10 from (show ¬ nI q = nI 10 by rw [n_eq (by omega) (by omega)]; exact c9))]
      exact hin (by omega)
  have hst' := hst
  rcases hst' with ⟨hk, z1, z2, z3⟩ | ⟨hk, z1, z2, z3, z4, z5, oo, y1, y2, y3⟩ | ⟨hk, z1, z2, z3, z4, z5⟩ | ⟨hk, z1, z2, z3, z4, oo, hh', m, q', y2, y3, y4, y5, y6, y7, y8, y9⟩
  · rw [b_t z1, g0, b_t z1]
    subst hk
    exact bd1 (det e2 (fun post => an_grade_x v60 post)).1
  · refine in1 hk z1 (fun hq => ?_)
    rw [b_t z3]
    obtain ⟨x2, a1⟩ := an_grade (a := q) (b := l) hRn hk hq l1 z5 (Or.inl z4)
    exact same _ (det e2 a1).1
  · refine in1 hk z1 (fun hq => ?_)
    rw [b_f (show ¬ is = 0 by rw [z3]; exact z10)]
    exact same _ (det e2 (fun post => an_grade_s v60 n2 hk hq l1 z5 post)).1
  · refine in1 hk z1 (fun hq => ?_)
    rw [b_t z3]
    obtain ⟨x2, a1⟩ := an_grade (a := q) (b := l) hRn hk hq l1 z4 (Or.inr ⟨m, by omega, y6⟩)
    exact same _ (det e2 a1).1
theorem act_pause2 {D : Nat} (h : PI G x s H a b c d p o n) (hRn : Rn x S nd ns nm t g e 0) (hD : D ≤ 100) (hp : Fin G x z s p n post) : sj_L_acts_1124 post (nI D) G x y z s H a b c d p := by
  obtain ⟨n1, n2, n3, n4, n5, n6, v04, S0, v60, S1, v160, S2, v05, -⟩ := hRn.1
  obtain ⟨r, x', y', H', a', b', c', d', o', n', e1, e2, e3, e4, -⟩ := op_pause (y := y) h (nI D)
  have fin := hp x' y' H' a' b' c' d' o' n' e3 e4
  have bd : r = -10000001 → sj_L_acts_1154 post r G x' y' z s H' a' b' c' d' p := fun hr => by
    unfold sj_L_acts_1154
    rw [b_t' hr]
    exact fin
  unfold sj_L_acts_1124
  rw [tc7 v05, e1]
  by_cases d0 : D = 0
  · rw [b_t (show nI D = 0 by rw [d0]; rfl)]
    exact bd (det e2 (fun post => an_pause_x (Or.inl d0) post)).1
  rw [b_f (nI_ne0 (by omega) (by omega))]
  by_cases d1 : D = 100
  · rw [b_t' (show nI D = 100 by rw [d1]; rfl)]
    exact bd (det e2 (fun post => an_pause_x (Or.inr d1) post)).1
  rw [b_f' (show ¬ nI D = 100 from (show ¬ nI D = nI 100 by rw [n_eq (by omega) (by omega)]; exact d1)), show nI t + nI D = nI (t + D) from nI_add t D]
  by_cases ht : 2000 < t + D
  · obtain ⟨hr, -⟩ := det e2 (fun post => an_pause_f v05 (by omega) (by omega) ht n4 post)
    rw [b_t' hr, b_f (show ¬ nI (t + D) ≤ 2000 from (show ¬ nI (t + D) ≤ nI 2000 from nI_ge (by omega) (by omega)))]
    exact fin
  · obtain ⟨x2, w, w1, w2, w3⟩ := an_pause hRn (show 1 ≤ D by omega) (show D ≤ 99 by omega) (show t + D ≤ 2000 by omega)
    obtain ⟨hr, hx⟩ := det e2 w2
    subst hr
    subst hx
    have hw : ¬ nI w = -10000003 := fun q => by
      have := n_neg w1
      rw [q] at this
      exact this (by decide)
    rw [b_f' hw, b_f (n_neg w1), tc7 w3, b_t' (show nI (t + D) = nI (t + D) from rfl)]
    exact fin
theorem act_pause (h : PI G x s H a b c d p o n) (hRn : Rn x S nd ns nm t g e 0) (hp : Fin G x z s p n post) : s_L_low py 4 (fun (r_103 : Int32) => (¬ r_103 = 0 → (s_L_low (py >>> (2 &&& 31)) 6 (fun (r_104 : Int32) => sj_L_acts_1124 post (1 + r_104) G x y z s H a b c d p))) ∧ (r_103 = 0 → (s_L_low (py >>> (2 &&& 31)) 101 (fun (r_135 : Int32) => sj_L_acts_1124 post r_135 G x y z s H a b c d p)))) := by
  obtain ⟨q, q1, q2⟩ := k_low py (n := 4) (by omega) (by omega)
  obtain ⟨r, r1, r2⟩ := k_low (py >>> (2 &&& 31)) (n := 6) (by omega) (by omega)
  obtain ⟨w, w1, w2⟩ := k_low (py >>> (2 &&& 31)) (n := 101) (by omega) (by omega)
  rw [show ∀ post, s_L_low py 4 post = post (nI q) from q2, show ∀ post, s_L_low (py >>> (2 &&& 31)) 6 post = post (nI r) from r2, show ∀ post, s_L_low (py >>> (2 &&& 31)) 101 post = post (nI w) from w2, show 1 + nI r = nI (1 + r) from nI_add 1 r]
  exact ⟨fun _ => act_pause2 h hRn (by omega) hp, fun _ => act_pause2 h hRn (by omega) hp⟩
theorem act_set2 {w q : Nat} {q0 : Int32} (h : PI G x s H a b c d p o n) (hRn : Rn x S nd ns nm t g e 0) (hw : w < 3) (hq : q < 40) (h0 : w = 0 → q0 = nI g) (h1 : w = 1 → q0 = nI e) (hp : Fin G x z s p n post) : sj_L_acts_1262 post (nI w) (nI q) q0 G x y z s H a b c d p := by
  obtain ⟨n1, n2, n3, n4, n5, n6, v04, S0, v60, S1, v160, S2, v05, S3, L4, S5, v06, S6, v07, S7⟩ := hRn.1
  obtain ⟨r, x', y', H', a', b', c', d', o', n', e1, e2, e3, e4, -⟩ := op_set (y := y) h (nI w) (nI q)
  have fin := hp x' y' H' a' b' c' d' o' n' e3 e4
  have bd : r = -10000001 → sj_L_acts_1290 post r G x' y' z s H' a' b' c' d' p := fun hr => by
    unfold sj_L_acts_1290 sj_L_acts_1297
    rw [b_t' hr]
    exact fin
  unfold sj_L_acts_1262
  rw [e1]
  rcases (show w = 0 ∨ w = 1 ∨ w = 2 by omega) with rfl | rfl | rfl
  · rw [b_f (show ¬ nI 0 = 2 by decide), b_t' (show nI 0 = 0 from rfl)]
    by_cases q3 : q ≤ 30
    · rw [b_t (show nI q ≤ 30 from lel (n := 30) q3 (by omega))]
      obtain ⟨x2, a1⟩ := an_set_0 (c := q) v06 q3
      unfold sj_L_acts_1297
      rw [b_t' ((det e2 a1).1.trans (h0 rfl).symm)]
      exact fin
    · rw [b_f (show ¬ nI q ≤ 30 from (show ¬ nI q ≤ nI 30 from nI_ge (by omega) (by omega)))]
      exact bd (det e2 (fun post => an_set_0x (by omega) (by omega) post)).1
  · rw [b_f (show ¬ nI 1 = 2 by decide), b_f' (show ¬ nI 1 = 0 by decide)]
    obtain ⟨x2, a1⟩ := an_set_1 (c := q) v07 (by omega)
    unfold sj_L_acts_1297
    rw [b_t' ((det e2 a1).1.trans (h1 rfl).symm)]
    exact fin
  · rw [b_t (show nI 2 = 2 from rfl)]
    exact bd (det e2 (fun post => an_set_w post)).1
theorem act_set (h : PI G x s H a b c d p o n) (hRn : Rn x S nd ns nm t g e 0) (hp : Fin G x z s p n post) : s_L_low py 3 (fun (r_77 : Int32) => s_L_low (py >>> (2 &&& 31)) 40 (fun (r_78 : Int32) => (¬ r_77 = 2 → (s_X6_count G x H p (14 + r_77) (fun (r_79 : Int32) (v_80 : V) (v_81 : V) (v_82 : V) (v_83 : V) => sj_L_acts_1262 post r_77 r_78 r_79 v_80 v_81 y z s v_82 a b c d v_83))) ∧ (r_77 = 2 → sj_L_acts_1262 post r_77 r_78 0 G x y z s H a b c d p))) := by
  have hg := hRn.1
  obtain ⟨n1, n2, n3, n4, n5, n6, v04, S0, v60, S1, v160, S2, v05, S3, L4, S5, v06, S6, v07, S7⟩ := hg
  obtain ⟨w, w1, w2⟩ := k_low py (n := 3) (by omega) (by omega)
  obtain ⟨q, q1, q2⟩ := k_low (py >>> (2 &&& 31)) (n := 40) (by omega) (by omega)
  rw [show ∀ post, s_L_low py 3 post = post (nI w) from w2, show ∀ post, s_L_low (py >>> (2 &&& 31)) 40 post = post (nI q) from q2]
  rcases (show w = 0 ∨ w = 1 ∨ w = 2 by omega) with rfl | rfl | rfl
  · rw [b_f' (show ¬ nI 0 = 2 by decide), show (14 : Int32) + nI 0 = 14 by decide, tc14 v06]
    exact act_set2 h hRn (by decide) q1 (fun _ => rfl) (fun w => absurd w (by decide)) hp
  · rw [b_f' (show ¬ nI 1 = 2 by decide), show (14 : Int32) + nI 1 = 15 by decide, tc15 v07]
    exact act_set2 h hRn (by decide) q1 (fun w => absurd w (by decide)) (fun _ => rfl) hp
  · rw [b_t' (show nI 2 = 2 from rfl)]
    exact act_set2 h hRn (by decide) q1 (fun w => absurd w (by decide)) (fun w => absurd w (by decide)) hp
/-- what an act may come to, marks and texts too -/
def Fin2 (x y z s : V) (n : Nat) (post : Int32 → V → V → V → V → V → V → V → V → V → V → V → Prop) : Prop := ∀ G' x' y' z' s' H' a' b' c' d' p' o' n', PI G' x' s' H' a' b' c' d' p' o' n' → Aft n o' n' x x' a' b' c' d' → post 1 G' x' y' z' s' H' a' b' c' d' p'
theorem Fin2.one (hp : Fin2 x y z s n post) : Fin G x z s p n post := fun x' y' H' a' b' c' d' o' n' h1 h2 => hp G x' y' z s H' a' b' c' d' p o' n' h1 h2
theorem PI_t {x : V} (h : PI G x s H a b c d p o n) : ∃ t, t ≤ 2000 ∧ x 0 5 = nI t := by
  obtain ⟨⟨S, nd, ns, nm, t, g, e, hRn⟩, -⟩ := h
  obtain ⟨n1, n2, n3, n4, n5, n6, v04, S0, v60, S1, v160, S2, v05, -⟩ := hRn.1
  exact ⟨t, n4, v05⟩
theorem act_mark2 {q0 : Int32} (h : PI G x s H a b c d p o n) (hq : (q0 = 1 ∧ ¬ G 0 6 = 0) ∨ (q0 = 0 ∧ G 0 6 = 0)) (hp : Fin2 x y z s n post) : sj_L_acts_1327 post py q0 G x y z s H a b c d p := by
  obtain ⟨w, w1, w2⟩ := k_low py (n := 2) (by omega) (by omega)
  unfold sj_L_acts_1327
  rw [show ∀ post, s_L_low py 2 post = post (nI w) from w2]
  refine ⟨fun _ => ?_, fun _ => ?_⟩
  · rcases op_restore h with ⟨y1, y2⟩ | ⟨y1, x', H', a', b', c', d', o', n', y2, y3, y4⟩
    · rw [y2]
      obtain ⟨t, t1, t2⟩ := PI_t h
      have hw : ¬ -10000002 = nI t := fun q => by
        have := n_neg (show t < 2147483648 by omega)
        rw [← q] at this
        exact this (by decide)
      have hq0 : q0 = 0 := by
        rcases hq with ⟨-, u⟩ | ⟨u, -⟩
        · exact absurd y1 u
        · exact u
      unfold sj_L_acts_1348
      rw [tc7 t2, b_f hw, b_t' hq0, b_t' (show (-10000002 : Int32) = -10000002 from rfl)]
      exact hp G x y z s H a b c d p o n h (Or.inl ⟨rfl, Or.inr rfl⟩)
    · rw [y2]
      obtain ⟨t, t1, t2⟩ := PI_t y3
      unfold sj_L_acts_1348
      rw [tc7 t2, b_t t2]
      exact hp G x' y z s H' a' b' c' d' p o' n' y3 y4
  · obtain ⟨G', s', y1, y2⟩ := op_mark h
    obtain ⟨t, t1, t2⟩ := PI_t h
    rw [y1]
    unfold sj_L_acts_1348
    rw [tc7 t2, b_t t2]
    exact hp G' x y z s' H a b c d p o n y2 (Or.inl ⟨rfl, Or.inr rfl⟩)
theorem act_mark (h : PI G x s H a b c d p o n) (hp : Fin2 x y z s n post) : s_X6_count G x H p 13 (fun (r_42 : Int32) (v_43 : V) (v_44 : V) (v_45 : V) (v_46 : V) => (¬ r_42 = 1 → sj_L_acts_1327 post py 0 v_43 v_44 y z s v_45 a b c d v_46) ∧ (r_42 = 1 → sj_L_acts_1327 post py 1 v_43 v_44 y z s v_45 a b c d v_46)) := by
  by_cases hz : G 0 6 = 0
  · rw [tc13n hz, b_f' (show ¬ (0 : Int32) = 1 by decide)]
    exact act_mark2 h (Or.inr ⟨rfl, hz⟩) hp
  · rw [tc13y hz, b_t' (show (1 : Int32) = 1 from rfl)]
    exact act_mark2 h (Or.inl ⟨rfl, hz⟩) hp
theorem act_text (h : PI G x s H a b c d p o n) (hp : Fin2 x y z s n post) : s_L_types G x y z s H a b c d p py (fun (r_14 : Int32) (v_15 : V) (v_16 : V) (v_17 : V) (v_18 : V) (v_19 : V) (v_20 : V) (v_21 : V) (v_22 : V) (v_23 : V) (v_24 : V) (v_25 : V) => (r_14 = 0 → post 0 v_15 v_16 v_17 v_18 v_19 v_20 v_21 v_22 v_23 v_24 v_25) ∧ (¬ r_14 = 0 → (s_L_reads v_15 v_16 v_17 v_18 v_19 v_20 v_21 v_22 v_23 v_24 v_25 (fun (r_26 : Int32) (v_27 : V) (v_28 : V) (v_29 : V) (v_30 : V) (v_31 : V) (v_32 : V) (v_33 : V) (v_34 : V) (v_35 : V) (v_36 : V) (v_37 : V) => (r_26 = 0 → post 0 v_27 v_28 v_29 v_30 v_31 v_32 v_33 v_34 v_35 v_36 v_37) ∧ (¬ r_26 = 0 → post 1 v_27 v_28 v_29 v_30 v_31 v_32 v_33 v_34 v_35 v_36 v_37))))) := by
  obtain ⟨m, cc, hT⟩ := TI.tc h.2.2.2
  refine types_ok hT py (fun p' m' c' hc => ?_)
  show (_ ∧ _)
  rw [b_f z10]
  refine reads_ok ⟨h.1, h.2.1, h.2.2.1, hc.ti⟩ (fun x' z' H' a' b' c' d' p' o' n' h1 h2 => ?_)
  show (_ ∧ _)
  rw [b_f z10]
  exact hp G x' y z' s H' a' b' c' d' p' o' n' h1 h2
theorem acts_104 {dd : Nat} {how : Int32} (h : PI G x s H a b c d p o n) (hRn : Rn x S nd ns nm t g e 0) (hst : Stt x nd ns nm k th io is) (hd : dd ≤ nd) (hk : k ≤ ns) (hp : Fin2 x y z s n post) : sj_L_acts_104 post py how (nI nd) (nI ns) (nI dd) (nI k) th io is G x y z s H a b c d p := by
  have hp1 : Fin G x z s p n post := hp.one
  unfold sj_L_acts_104
  refine ⟨fun _ => ⟨fun _ => ⟨fun _ => ⟨fun _ => ⟨fun _ => ⟨fun _ => ⟨fun _ => ⟨fun _ => ⟨fun _ => ⟨fun _ => ⟨fun _ => ?_, fun _ => ?_⟩, fun _ => ?_⟩, fun _ => ?_⟩, fun _ => ?_⟩, fun _ => ?_⟩, fun _ => ?_⟩, fun _ => ?_⟩, fun _ => ?_⟩, fun _ => ?_⟩, fun _ => ?_⟩, fun _ => ?_⟩
  · exact act_text h hp
  · exact act_mark h hp
  · exact act_set h hRn hp1
  · exact act_pause h hRn hp1
  · exact act_grade h hRn hst hp1
  · exact act_sell h hRn hst hp1
  · exact act_keep h hRn hst hp1
  · exact act_back h hRn hst hp1
  · exact act_lend h hRn hst hd hk hp1
  · exact act_rate h hRn hp1
  · exact act_dealer h hRn hp1
  · exact act_stone h hRn hd hp1
theorem acts_ok {px : Int32} (h : PI G x s H a b c d p o n) (hp : Fin2 x y z s n post) : s_L_acts G x y z s H a b c d p px py post := by
  have hR := h.1
  obtain ⟨S, nd, ns, nm, t, g, e, hRn⟩ := hR
  obtain ⟨n1, n2, n3, n4, n5, n6, v04, S0, v60, S1, v160, S2, v05, -⟩ := hRn.1
  obtain ⟨q, q1, q2⟩ := k_low px (n := 20) (by omega) (by omega)
  obtain ⟨dd, d1, d2⟩ := k_low (px >>> (5 &&& 31)) (n := nd + 1) (by omega) (by omega)
  obtain ⟨k, k1, k2⟩ := k_low (px >>> (8 &&& 31)) (n := ns + 1) (by omega) (by omega)
  have go : ∀ th io is, Stt x nd ns nm k th io is → sj_L_acts_104 post py (nI q) (nI nd) (nI ns) (nI dd) (nI k) th io is G x y z s H a b c d p := fun th io is hst => acts_104 h hRn hst (by omega) (by omega) hp
  unfold s_L_acts
  rw [show ∀ post, s_L_low px 20 post = post (nI q) from q2, tc0 v04, tc1 v60, show nI nd + 1 = nI (nd + 1) from nI_add nd 1, show nI ns + 1 = nI (ns + 1) from nI_add ns 1, d2, k2]
  by_cases hk : k = ns
  · rw [b_t (show nI ns ≤ nI k by rw [hk]; exact Int32.le_refl _)]
    unfold sj_L_acts_58
    rw [b_t z00]
    unfold sj_L_acts_81
    rw [b_t z00]
    exact go 0 0 0 (Or.inl ⟨hk, rfl, rfl, rfl⟩)
  have hkn : k < ns := by omega
  rw [b_f (show ¬ nI ns ≤ nI k from nI_ge hkn (by omega))]
  unfold sj_L_acts_58
  rw [b_f z10]
  obtain ⟨-, -, -, hkk, -⟩ := hRn
  obtain ⟨⟨e0, e1, e2, e3, e4, e5, e6, e7, e8⟩, hO, hs⟩ := hkk k hkn
  rcases hs with ⟨o1, cc, y1, y2, y3, y4, y5, y6, y7⟩ | ⟨w, cc, y1, y2, y3, y4, y5, y6, y7, y8⟩ | ⟨o1, h1', m1, a1, cc, y1, y2, y3, y4, y5, y6, y7, y8, y9, y10, y11, y12, y13, y14⟩
  · rw [ts7n v60 n2 hkn (e5.trans y5), b_t (show (-10000004 : Int32) < 0 by decide)]
    unfold sj_L_acts_81
    rw [b_f z10, ts9n v60 n2 hkn (e7.trans y6), b_t (show (-10000004 : Int32) ≤ 0 by decide)]
    exact go 1 0 0 (Or.inr (Or.inl ⟨hkn, rfl, rfl, rfl, e5.trans y5, e7.trans y6, o1, y1, e3.trans y3, e4.trans y4⟩))
  · have h14 : ¬ x 14 k = 0 := by
      rw [e7, y7]
      exact nI_ne0 (by omega) (by omega)
    rw [ts7n v60 n2 hkn (e5.trans y6), b_t (show (-10000004 : Int32) < 0 by decide)]
    unfold sj_L_acts_81
    rw [b_f z10, ts9 v60 n2 hkn h14, b_f (show ¬ x 14 k ≤ 0 by rw [e7, y7]; exact nI_nle (by omega) (by omega))]
    exact go 1 0 1 (Or.inr (Or.inr (Or.inl ⟨hkn, rfl, rfl, rfl, e5.trans y6, h14⟩)))
  · rw [ts7 v60 n2 hkn (show m1 < 1000000 by omega) (e5.trans y9), b_f (n_neg (by omega))]
    unfold sj_L_acts_81
    rw [b_f z10, ts9n v60 n2 hkn (e7.trans y11), b_t (show (-10000004 : Int32) ≤ 0 by decide)]
    exact go 1 1 0 (Or.inr (Or.inr (Or.inr ⟨hkn, rfl, rfl, rfl, e7.trans y11, o1, h1', m1, a1, y1, y2, y4, y5, e5.trans y9, e6.trans y10, e3.trans y7, e4.trans y8⟩)))
end ACT2
