/-! P29 5: what must hold -/
theorem sN_bit (f : Nat → Int32) (x : Int32) : ∀ n k, k < n → sN f x n / 2 ^ k % 2 = if f k = x then 1 else 0
  | 0, k, h => by omega
  | n + 1, k, h => by
    have hlt := sN_lt f x n
    rw [sN]
    by_cases q : k = n
    · subst q
      by_cases z : f k = x
      · rw [if_pos z, if_pos z, Nat.add_div_right _ (Nat.two_pow_pos k), Nat.div_eq_of_lt hlt]
      · rw [if_neg z, if_neg z, Nat.div_eq_of_lt hlt]
    · have ih := sN_bit f x n k (by omega)
      by_cases z : f n = x
      · rw [if_pos z]
        have e : 2 ^ n = 2 ^ k * (2 * 2 ^ (n - k - 1)) := by
          rw [← Nat.pow_succ', ← Nat.pow_add]
          congr 1
          omega
        rw [e, Nat.add_mul_div_left _ _ (Nat.two_pow_pos k), Nat.add_mul_mod_self_left]
        exact ih
      · rw [if_neg z]
        exact ih
theorem setF_bit {f : Nat → Int32} {x : Int32} {n k : Nat} (hn : n ≤ 20) (hk : k < n) (h : f k = x) : (setF f x n >>> (nI k &&& 31)) &&& 1 = 1 := by
  have h1 := sN_lt f x n
  have h2 : 2 ^ n ≤ 2 ^ 20 := Nat.pow_le_pow_right (by decide) hn
  rw [setF_n f x n hn, bit_n (by omega) (by omega), sN_bit f x n k hk, if_pos h]
  rfl
/-! sums -/
theorem sm_none {f : Nat → Nat} : ∀ n, (∀ i, i < n → f i = 0) → sm f n = 0
  | 0, _ => rfl
  | n + 1, h => by rw [sm, sm_none n (fun i hi => h i (by omega)), h n (by omega)]
theorem sm_uniq {f : Nat → Nat} {k n : Nat} (hk : k < n) (h1 : f k = 1) (h : ∀ i, i < n → i ≠ k → f i = 0) : sm f n = 1 := by
  have := sm_one (f := fun _ => 0) (g := f) n hk (fun i hi q => (h i hi q).symm)
  rw [sm_none n (fun _ _ => rfl), h1] at this
  exact this
theorem sm_add (f g : Nat → Nat) : ∀ n, sm (fun i => f i + g i) n = sm f n + sm g n
  | 0 => rfl
  | n + 1 => by
    rw [sm, sm, sm, sm_add f g n]
    omega
theorem sm_swap (F : Nat → Nat → Nat) (m : Nat) : ∀ n, sm (fun j => sm (fun i => F i j) m) n = sm (fun i => sm (fun j => F i j) n) m
  | 0 => (sm_none m (fun _ _ => rfl)).symm
  | n + 1 => by
    rw [sm, sm_swap F m n, ← sm_add]
    exact sm_cong m (fun i _ => by rw [sm])
theorem cz_sm (f : Nat → Int32) : ∀ n, cz f n = sm (fun i => if f i = 0 then 0 else 1) n
  | 0 => rfl
  | n + 1 => by rw [cz, sm, cz_sm f n]
/-- the place of an entry's grade -/
def ixE (v : V) (i : Nat) : Nat := 80 * tn (v 2 i) + 8 * tn (v 3 i) + tn (v 4 i)
def FE (v : V) (i j : Nat) : Nat := if v 5 i = 0 then 0 else if ixE v i = j then 1 else 0
theorem RP.ix {v : V} {S : Nat → Int32} (h : RP v S) {i : Nat} (hi : i < 24) (hv : ¬ v 5 i = 0) : ∃ a b c r, a < 5 ∧ b < 10 ∧ c < 8 ∧ 1 ≤ r ∧ r ≤ 9999 ∧ v 2 i = nI a ∧ v 3 i = nI b ∧ v 4 i = nI c ∧ S (264 + (80 * a + 8 * b + c)) = nI r ∧ ixE v i = 80 * a + 8 * b + c := by
  rcases h.1 i hi with z | ⟨a, b, c, r, h1, h2, h3, h4, h5, h6, h7, h8, h9, h10⟩
  · exact absurd z hv
  · refine ⟨a, b, c, r, h1, h2, h3, h4, h5, h6, h7, h8, h10, ?_⟩
    unfold ixE
    rw [h6, h7, h8, tn_nI (by omega), tn_nI (by omega), tn_nI (by omega)]
theorem ent_row {v : V} {S : Nat → Int32} (h : RP v S) {i : Nat} (hi : i < 24) : sm (fun j => FE v i j) 400 = if v 5 i = 0 then 0 else 1 := by
  by_cases hv : v 5 i = 0
  · rw [if_pos hv]
    exact sm_none 400 (fun j _ => by unfold FE; rw [if_pos hv])
  · rw [if_neg hv]
    obtain ⟨a, b, c, r, h1, h2, h3, -, -, -, -, -, -, h4⟩ := h.ix hi hv
    refine sm_uniq (k := ixE v i) (by omega) ?_ (fun j _ q => ?_)
    · unfold FE
      rw [if_neg hv, if_pos rfl]
    · unfold FE
      rw [if_neg hv, if_neg (fun z => q z.symm)]
theorem ent_col {v : V} {S : Nat → Int32} (h : RP v S) {j : Nat} (hj : j < 400) : sm (fun i => FE v i j) 24 = if S (264 + j) = 0 then 0 else 1 := by
  by_cases hv : S (264 + j) = 0
  · rw [if_pos hv]
    refine sm_none 24 (fun i hi => ?_)
    unfold FE
    by_cases q : v 5 i = 0
    · rw [if_pos q]
    · rw [if_neg q]
      obtain ⟨a, b, c, r, -, -, -, h4, h5, -, -, -, h6, h7⟩ := h.ix hi q
      refine if_neg (fun z => ?_)
      rw [← h7, z, hv] at h6
      exact nI_ne0 (by omega) (by omega) h6.symm
  · rw [if_neg hv]
    obtain ⟨i, hi, q1, q2, q3, q4⟩ := h.2.2 (j / 80) (j / 8 % 10) (j % 8) (by omega) (by omega) (by omega) (by
      rw [show 80 * (j / 80) + 8 * (j / 8 % 10) + j % 8 = j by omega]
      exact hv)
    have e : ixE v i = j := by
      unfold ixE
      rw [q2, q3, q4, tn_nI (by omega), tn_nI (by omega), tn_nI (by omega)]
      omega
    refine sm_uniq (k := i) hi ?_ (fun i' hi' q => ?_)
    · unfold FE
      rw [if_neg q1, if_pos e]
    · unfold FE
      by_cases z : v 5 i' = 0
      · rw [if_pos z]
      · rw [if_neg z]
        refine if_neg (fun z2 => q ?_)
        obtain ⟨a, b, c, r, h1, h2, h3, -, -, h4, h5, h6, -, h7⟩ := h.ix hi' z
        refine h.2.1 i' i hi' hi z q1 ?_ ?_ ?_
        · rw [h4, q2, show a = j / 80 by omega]
        · rw [h5, q3, show b = j / 8 % 10 by omega]
        · rw [h6, q4, show c = j % 8 by omega]
theorem ent_eq {v : V} {S : Nat → Int32} (h : RP v S) : cz (fun j => S (264 + j)) 400 = cz (v 5) 24 := by
  rw [cz_sm, cz_sm, ← sm_cong 24 (fun i hi => ent_row h hi), ← sm_cong 400 (fun j hj => ent_col h hj)]
  exact sm_swap (FE v) 24 400
theorem hd1 {x : V} {S : Nat → Int32} (hP : RP x S) (hT : okT S) : ∀ d k, k + d = 400 → ∀ f1 v0 v2 v3 v4 v5 v6 v7 v8 v9 v10 post k0, (∃ n, sl_L_holds_4 post f1 k0 n (nI (cz (fun j => S (264 + j)) k)) (nI k) v0 x v2 v3 v4 v5 v6 v7 v8 v9 v10) = k0 (nI (cz (fun j => S (264 + j)) 400)) (nI 400) v0 x v2 v3 v4 v5 v6 v7 v8 v9 v10 := by
  intro d
  induction d with
  | zero =>
    intro k hk f1 v0 v2 v3 v4 v5 v6 v7 v8 v9 v10 post k0
    obtain rfl : k = 400 := by omega
    exact xo_L_holds_4 (fun rec => b_t (show (400 : Int32) ≤ nI 400 by decide))
  | succ d ih =>
    intro k hk f1 v0 v2 v3 v4 v5 v6 v7 v8 v9 v10 post k0
    refine (xs_L_holds_4 (fun rec => ?_)).trans (ih (k + 1) (by omega) f1 v0 v2 v3 v4 v5 v6 v7 v8 v9 v10 post k0)
    have e1 : nI k / 80 = nI (k / 80) := pk_div (d := 80) (by omega) (by omega) (by omega)
    have e8 : nI k / 8 = nI (k / 8) := pk_div (d := 8) (by omega) (by omega) (by omega)
    have e2 : nI k / 8 - nI k / 8 / 10 * 10 = nI (k / 8 % 10) := by
      rw [e8]
      exact pk_rem (d := 10) (by omega) (by omega) (by omega)
    have e3 : nI k - nI k / 8 * 8 = nI (k % 8) := pk_rem (d := 8) (by omega) (by omega) (by omega)
    have ej : 80 * (k / 80) + 8 * (k / 8 % 10) + k % 8 = k := by omega
    obtain ⟨r, r1, r2⟩ := hT k (by omega)
    have t1 := fun post => tr1 (v0 := v0) hP (a := k / 80) (b := k / 8 % 10) (c := k % 8) (by omega) (by omega) (by omega) post
    rw [ej] at t1
    unfold sb_L_holds_4
    rw [b_f (show ¬ (400 : Int32) ≤ nI k from nI_ge (b := 400) (by omega) (by omega)), e2, e3, e1, t1]
    by_cases hr : r = 0
    · subst hr
      have z : S (264 + k) = 0 := r2
      rw [if_pos z, b_t (show (-10000004 : Int32) ≤ 0 by decide)]
      unfold sj_L_holds_44
      rw [b_t (show (-10000004 : Int32) ≤ 0 by decide), cz, if_pos z, nI_1, Int32.add_zero]
      rfl
    · have z : ¬ S (264 + k) = 0 := by
        rw [r2]
        exact nI_ne0 (by omega) (by omega)
      have zn : ¬ nI r ≤ 0 := nI_nle (by omega) (by omega)
      have t0 := tr0 (v0 := v0) (a := k / 80) (b := k / 8 % 10) (c := k % 8) (r := r) hP hT (by omega) (by omega) (by omega) (by rw [ej]; exact r2) (by omega) r1
      rw [if_neg z, r2, b_f zn]
      unfold sj_L_holds_44
      rw [b_f zn, e2, e3, e1, t0, b_t (show nI r = nI r from rfl), cz, if_neg z, nI_1, nI_1]
theorem hd2 {x : V} {S : Nat → Int32} {nd ns nm t g e l : Nat} (hRn : Rn x S nd ns nm t g e l) : ∀ d k, k + d = nm → ∀ f1 f2 v0 v2 v3 v4 v5 v6 v7 v8 v9 v10 post k0, (∃ n, sl_L_holds_89 post f1 f2 k0 n (nI (opn x ns k)) (nI k) v0 x v2 v3 v4 v5 v6 v7 v8 v9 v10) = k0 (nI (opn x ns nm)) (nI nm) v0 x v2 v3 v4 v5 v6 v7 v8 v9 v10 := by
  obtain ⟨hg, hb, ⟨hP, hT⟩, hk, h0, hm, hB⟩ := hRn
  obtain ⟨n1, n2, n3, n4, n5, n6, v04, S0, v60, S1, v160, S2, v05, S3, L4, S5, v06, S6, v07, S7⟩ := hg
  obtain ⟨nm2, t2, y1, y2, y3, y4, y5⟩ := hB.2.2.2
  have g1 : nm2 = nm := by
    have := y3.symm.trans S2
    rw [n_eq (by omega) (by omega)] at this
    exact this
  have g2 : t2 = t := by
    have := y4.symm.trans S3
    rw [n_eq (by omega) (by omega)] at this
    exact this
  subst g1
  subst g2
  intro d
  induction d with
  | zero =>
    intro k hk f1 f2 v0 v2 v3 v4 v5 v6 v7 v8 v9 v10 post k0
    obtain rfl : k = nm2 := by omega
    refine xo_L_holds_89 (fun rec => ?_)
    unfold sb_L_holds_89
    rw [tc4 v160]
    exact b_t (Int32.le_refl _)
  | succ d ih =>
    intro k hk' f1 f2 v0 v2 v3 v4 v5 v6 v7 v8 v9 v10 post k0
    have hkm : k < nm2 := by omega
    refine (xs_L_holds_89 (fun rec => ?_)).trans (ih (k + 1) (by omega) f1 f2 v0 v2 v3 v4 v5 v6 v7 v8 v9 v10 post k0)
    obtain ⟨r0, r1, r2, -⟩ := hm k hkm
    obtain ⟨z1, z, z2, z3⟩ := y5 k hkm
    have hne : ¬ x 17 k = x 18 k := by
      rw [r0, r1]
      exact z1
    have h19 : x 19 k = nI z := r2.trans z3
    have h7 : ∃ q, q ≤ 90 ∧ ∀ post, s_X6_memoOf v0 x (nI k) 7 post = post (nI q) v0 x := by
      by_cases c : z ≤ t2
      · refine ⟨0, by omega, fun post => tm7n v160 n3 hkm v05 ?_ post⟩
        rw [h19, Int32.lt_iff_toInt_lt, pk_sub_toInt (by omega) (by omega)]
        have : (0 : Int32).toInt = 0 := by decide
        omega
      · refine ⟨z - t2, by omega, fun post => ?_⟩
        have h := tm7p (v0 := v0) v160 n3 hkm v05 (show 0 < x 19 k - nI t2 by
          rw [h19, Int32.lt_iff_toInt_lt, pk_sub_toInt (by omega) (by omega)]
          have : (0 : Int32).toInt = 0 := by decide
          omega) post
        rw [h, h19, pk_sub (by omega)]
    obtain ⟨q, q1, q2⟩ := h7
    have h90 : nI q ≤ 90 := lel (n := 90) q1 (by omega)
    unfold sb_L_holds_89
    rw [tc4 v160, b_f (show ¬ nI nm2 ≤ nI k from nI_ge (by omega) (by omega))]
    by_cases hz : setF (x 12) (nI k) ns = 0
    · rw [tm6c v160 n3 hkm v60 n2 hz, tm0 v160 n3 hkm, tm1 v160 n3 hkm, b_f hne, q2, b_t h90, opn, if_pos hz, nI_1, Int32.add_zero]
      rfl
    · rw [tm6o v160 n3 hkm v60 n2 hz, tm0 v160 n3 hkm, tm1 v160 n3 hkm, b_f hne, q2, b_t h90, opn, if_neg hz, nI_1, nI_1]
theorem hd3 {x : V} {S : Nat → Int32} {nd ns nm t g e l : Nat} (hRn : Rn x S nd ns nm t g e l) : ∀ d k, k + d = ns → ∀ f1 f2 f3 v0 v2 v3 v4 v5 v6 v7 v8 v9 v10 post k0, (∃ n, sl_L_holds_154 post f1 f2 f3 k0 n (nI (sm (kpS S) k)) (nI k) v0 x v2 v3 v4 v5 v6 v7 v8 v9 v10) = k0 (nI (sm (kpS S) ns)) (nI ns) v0 x v2 v3 v4 v5 v6 v7 v8 v9 v10 := by
  obtain ⟨hg, hb, ⟨hP, hT⟩, hk, h0, hm, hB⟩ := hRn
  obtain ⟨n1, n2, n3, n4, n5, n6, v04, S0, v60, S1, v160, S2, v05, S3, L4, S5, v06, S6, v07, S7⟩ := hg
  intro d
  induction d with
  | zero =>
    intro k hk f1 f2 f3 v0 v2 v3 v4 v5 v6 v7 v8 v9 v10 post k0
    obtain rfl : k = ns := by omega
    refine xo_L_holds_154 (fun rec => ?_)
    unfold sb_L_holds_154
    rw [tc1 v60]
    exact b_t (Int32.le_refl _)
  | succ d ih =>
    intro k hk' f1 f2 f3 v0 v2 v3 v4 v5 v6 v7 v8 v9 v10 post k0
    have hkn : k < ns := by omega
    have k20 : k < 20 := by omega
    refine (xs_L_holds_154 (fun rec => ?_)).trans (ih (k + 1) (by omega) f1 f2 f3 v0 v2 v3 v4 v5 v6 v7 v8 v9 v10 post k0)
    have hle : ¬ nI ns ≤ nI k := nI_ge (by omega) (by omega)
    have hnn : (-10000004 : Int32) < 0 := by decide
    obtain ⟨⟨e0, e1, e2, e3, e4, e5, e6, e7, e8⟩, hO, hc⟩ := hk k hkn
    unfold sb_L_holds_154
    rcases hc with ⟨o, cc, q1, q2, q3, q4, q5, q6, q7⟩ | ⟨q, cc, q1, q2, q3, q4, q5, q6, q7, q8⟩ | ⟨o, hh, m, a, cc, g1, g2, g3, g4, g5, g6, g7, g8, g9, g10, g11, g12, g13, g14⟩
    · have hkp : kpS S k = cc := by
        unfold kpS
        rw [q7, tn_nI (by omega)]
      rw [tc1 v60, b_f hle, ts7n v60 n2 hkn (e5.trans q5), ts10 v60 n2 hkn, b_t hnn, e8, q7, nI_add, nI_1, sm, hkp]
    · have hkp : kpS S k = cc := by
        unfold kpS
        rw [q8, tn_nI (by omega)]
      rw [tc1 v60, b_f hle, ts7n v60 n2 hkn (e5.trans q6), ts10 v60 n2 hkn, b_t hnn, e8, q8, nI_add, nI_1, sm, hkp]
    · have hkp : kpS S k = cc := by
        unfold kpS
        rw [g12, tn_nI (by omega)]
      have h12 : x 12 k = nI m := e5.trans g9
      have hs : x 14 k = 0 := e7.trans g11
      obtain ⟨r0, r1, -⟩ := hm m g4
      have w1 : x 17 m = x 10 k := by rw [r0, g13, e3, g7]
      have w2 : x 18 m = x 11 k := by rw [r1, g14, e4, g8]
      rw [tc1 v60, b_f hle, ts7 v60 n2 hkn (by omega) h12, ts10 v60 n2 hkn, b_f (n_neg (show m < 2147483648 by omega)), tm0 v160 n3 g4, ts4 v60 n2 hkn hs, b_t' w1, tm1 v160 n3 g4, ts5 v60 n2 hkn hs, b_t' w2, tm3 v160 n3 g4 v60 n2, b_t (setF_bit n2 hkn h12), e8, g12, nI_add, nI_1, sm, hkp]
/-! numbers out of the script -/
theorem and31 (x : Int32) : ∃ q, q < 2147483648 ∧ x &&& 2147483647 = nI q := by
  have h1 : x.toBitVec.toNat % 2 ^ 31 < 2 ^ 31 := Nat.mod_lt _ (by decide)
  refine ⟨x.toBitVec.toNat % 2 ^ 31, h1, ?_⟩
  apply Int32.toBitVec_inj.mp
  rw [Int32.toBitVec_and]
  show x.toBitVec &&& BitVec.ofNat 32 2147483647 = BitVec.ofNat 32 (x.toBitVec.toNat % 2 ^ 31)
  apply BitVec.eq_of_toNat_eq
  rw [BitVec.toNat_and, BitVec.toNat_ofNat, BitVec.toNat_ofNat, show 2147483647 % 2 ^ 32 = 2 ^ 31 - 1 by decide, Nat.and_two_pow_sub_one_eq_mod]
  exact (Nat.mod_eq_of_lt (Nat.lt_trans h1 (by decide))).symm
theorem k_low (x : Int32) {n : Nat} (h1 : 1 ≤ n) (hn : n < 2147483648) : ∃ q, q < n ∧ ∀ post, s_L_low x (nI n) post = post (nI q) := by
  obtain ⟨q, q1, q2⟩ := and31 x
  refine ⟨q % n, Nat.mod_lt _ h1, fun post => ?_⟩
  unfold s_L_low
  rw [b_and (nI_ne0 (by omega) (by omega)), q2, pk_rem (by omega) (by omega) (by omega)]
theorem holds_ok {x : V} {S : Nat → Int32} (h : R x S) (px : Int32) (v0 v2 v3 v4 v5 v6 v7 v8 v9 v10 : V) (post : Int32 → V → V → V → V → V → V → V → V → V → V → V → Prop) : s_L_holds v0 x v2 v3 v4 v5 v6 v7 v8 v9 v10 px post = post 1 v0 x v2 v3 v4 v5 v6 v7 v8 v9 v10 := by
  obtain ⟨nd, ns, nm, t, g, e, hRn⟩ := h
  have hRn' := hRn
  obtain ⟨hg, hb, ⟨hP, hT⟩, hk, h0, hm, hB⟩ := hRn'
  have hg' := hg
  obtain ⟨n1, n2, n3, n4, n5, n6, v04, S0, v60, S1, v160, S2, v05, S3, L4, S5, v06, S6, v07, S7⟩ := hg'
  have hend : sj_L_holds_279 post (nI (cz (fun j => S (264 + j)) 400)) (nI (opn x ns nm)) (nI (sm (kpS S) ns)) 1 v0 x v2 v3 v4 v5 v6 v7 v8 v9 v10 = post 1 v0 x v2 v3 v4 v5 v6 v7 v8 v9 v10 := by
    obtain ⟨q, y1, y2⟩ := hB.2.2.1
    have x08 : x 0 8 = nI q := by
      rw [← y1, L4]
      exact (Int32.add_zero _).symm
    have hle : ∀ n, n ≤ ns → sm (kpS S) n ≤ n * 10 := fun n hn => sm_le n (fun i hi => by
      have := (hk i (by omega)).c n3
      unfold kpS
      omega)
    have hcut : ∀ d, ns + d ≤ 20 → sm (kpS S) (ns + d) = sm (kpS S) ns := by
      intro d
      induction d with
      | zero => intro _; rfl
      | succ d ih =>
        intro hd
        rw [← Nat.add_assoc, sm, ih (by omega)]
        obtain ⟨-, -, z⟩ := h0 (ns + d) (by omega) (by omega)
        unfold kpS
        rw [z]
        rfl
    have h20 : sm (kpS S) 20 = sm (kpS S) ns := by
      have := hcut (20 - ns) (by omega)
      rw [show ns + (20 - ns) = 20 by omega] at this
      exact this
    have hlt : ¬ nI (sm (kpS S) ns) < nI q := by
      have := hle ns (Nat.le_refl _)
      rw [n_lt (by omega) (by omega)]
      omega
    have b1 : sI (x 22) nd = sI (fun d => S (8 + d)) 6 := by
      have := sI_cut (f := x 22) (g := fun d => S (8 + d)) (n := nd) (fun d hd => (hb d (by omega)).1) (6 - nd) (fun d z1 z2 => (hb d (by omega)).2 z1)
      rw [show nd + (6 - nd) = 6 by omega] at this
      exact this
    have b2 : sI (x 14) ns = sI (fun k => S (14 + 10 * k + 7)) 20 := by
      have := sI_cut (f := x 14) (g := fun k => S (14 + 10 * k + 7)) (n := ns) (fun d hd => (hk d hd).1.2.2.2.2.2.2.2.1) (20 - ns) (fun d z1 z2 => (h0 d z1 (by omega)).2.1)
      rw [show ns + (20 - ns) = 20 by omega] at this
      exact this
    have b3 : sI (x 22) nd + 100000000 - 100000000 = sI (x 14) ns := by
      rw [Int32.add_sub_cancel, b1, b2]
      exact hB.2.1
    unfold sj_L_holds_279
    rw [b_f z10, tc6, ← ent_eq hP, b_t' (show nI (cz (fun j => S (264 + j)) 400) = nI (cz (fun j => S (264 + j)) 400) from rfl), tc5 (fun post => k_open v60 n2 v160 n3 post), b_t' (show nI (opn x ns nm) = nI (opn x ns nm) from rfl), tc10, x08, b_f hlt, tc8 v04 n1, tc9 (fun post => k_sold v60 n2 post), b_t' b3]
  unfold s_L_holds
  refine (hd1 hP hT 400 0 rfl px v0 v2 v3 v4 v5 v6 v7 v8 v9 v10 post _).trans ?_
  refine (hd2 hRn nm 0 (by omega) px _ v0 v2 v3 v4 v5 v6 v7 v8 v9 v10 post _).trans ?_
  refine (hd3 hRn ns 0 (by omega) px _ _ v0 v2 v3 v4 v5 v6 v7 v8 v9 v10 post _).trans ?_
  show s_X6_count v0 x v5 v10 0 _ = _
  rw [tc0 v04]
  by_cases hz : nd = 0
  · rw [b_t (show nI nd = 0 by rw [hz]; rfl)]
    exact hend
  · obtain ⟨d, d1, d2⟩ := k_low px (n := nd) (by omega) (by omega)
    obtain ⟨r, r1, r2⟩ := tg (v0 := v0) (w := gw S) (by rw [gw1]; exact hRn) d1
    rw [b_f (nI_ne0 (by omega) (by omega)), tc0 v04, d2, r2, b_f (n_neg (by omega))]
    exact hend
