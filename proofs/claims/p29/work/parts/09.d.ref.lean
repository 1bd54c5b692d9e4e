/-! PURE 3: the reference: rates, prices, sets -/
theorem q_rateAt {a b c : Nat} {post : Int32 → Prop} : s_X7_rateAt (nI a) (nI b) (nI c) post = post (nI (264 + 80 * a + 8 * b + c)) := by
  unfold s_X7_rateAt
  rw [l264]
def mI (t : Nat → Nat) : Nat → Nat → Nat → Nat
  | 0, _, acc => acc
  | d + 1, c, acc => mI t d (c + 1) (if t c ≤ acc then acc else t c)
def mO (t : Nat → Nat → Nat) (c : Nat) : Nat → Nat → Nat → Nat
  | 0, _, acc => acc
  | d + 1, b, acc => mO t c d (b + 1) (mI (t b) (8 - c) c acc)
theorem mI_ge (t : Nat → Nat) : ∀ d c acc, acc ≤ mI t d c acc ∧ (∀ j, c ≤ j → j < c + d → t j ≤ mI t d c acc) ∧ (mI t d c acc = acc ∨ ∃ j, c ≤ j ∧ j < c + d ∧ mI t d c acc = t j)
  | 0, c, acc => ⟨Nat.le_refl _, fun j h1 h2 => by omega, Or.inl rfl⟩
  | d + 1, c, acc => by
    obtain ⟨h1, h2, h3⟩ := mI_ge t d (c + 1) (if t c ≤ acc then acc else t c)
    have e : mI t (d + 1) c acc = mI t d (c + 1) (if t c ≤ acc then acc else t c) := rfl
    rw [e]
    generalize mI t d (c + 1) (if t c ≤ acc then acc else t c) = r at h1 h2 h3
    by_cases hc : t c ≤ acc
    · rw [if_pos hc] at h1 h3
      refine ⟨h1, fun j a b => ?_, ?_⟩
      · rcases Nat.eq_or_lt_of_le a with rfl | a
        · omega
        · exact h2 j a (by omega)
      · rcases h3 with h3 | ⟨j, a, b, h3⟩
        · exact Or.inl h3
        · exact Or.inr ⟨j, by omega, by omega, h3⟩
    · rw [if_neg hc] at h1 h3
      refine ⟨by omega, fun j a b => ?_, ?_⟩
      · rcases Nat.eq_or_lt_of_le a with rfl | a
        · omega
        · exact h2 j a (by omega)
      · rcases h3 with h3 | ⟨j, a, b, h3⟩
        · exact Or.inr ⟨c, by omega, by omega, h3⟩
        · exact Or.inr ⟨j, by omega, by omega, h3⟩
theorem mO_ge (t : Nat → Nat → Nat) {c : Nat} (hc : c < 8) : ∀ d b acc, acc ≤ mO t c d b acc ∧ (∀ i j, b ≤ i → i < b + d → c ≤ j → j < 8 → t i j ≤ mO t c d b acc) ∧ (mO t c d b acc = acc ∨ ∃ i j, b ≤ i ∧ i < b + d ∧ c ≤ j ∧ j < 8 ∧ mO t c d b acc = t i j)
  | 0, b, acc => ⟨Nat.le_refl _, fun i j h1 h2 => by omega, Or.inl rfl⟩
  | d + 1, b, acc => by
    obtain ⟨g1, g2, g3⟩ := mI_ge (t b) (8 - c) c acc
    obtain ⟨h1, h2, h3⟩ := mO_ge t hc d (b + 1) (mI (t b) (8 - c) c acc)
    have e : mO t c (d + 1) b acc = mO t c d (b + 1) (mI (t b) (8 - c) c acc) := rfl
    rw [e]
    generalize mO t c d (b + 1) (mI (t b) (8 - c) c acc) = r at h1 h2 h3
    generalize mI (t b) (8 - c) c acc = q at g1 g2 g3 h1 h3
    refine ⟨by omega, fun i j a1 a2 a3 a4 => ?_, ?_⟩
    · rcases Nat.eq_or_lt_of_le a1 with rfl | a1
      · have := g2 j a3 (by omega)
        omega
      · exact h2 i j a1 (by omega) a3 a4
    · rcases h3 with h3 | ⟨i, j, a1, a2, a3, a4, h3⟩
      · rcases g3 with g3 | ⟨j, a1, a2, g3⟩
        · exact Or.inl (h3.trans g3)
        · exact Or.inr ⟨b, j, by omega, by omega, a1, by omega, h3.trans g3⟩
      · exact Or.inr ⟨i, j, by omega, by omega, a3, a4, h3⟩
def rateN (t : Nat → Nat) (a b c : Nat) : Nat := if t (80 * a + 8 * b + c) = 0 then mO (fun i j => t (80 * a + 8 * i + j)) c (10 - b) b 0 else t (80 * a + 8 * b + c)
/-- the table of rates holds small numbers -/
def okT (S : Nat → Int32) : Prop := ∀ j, j < 400 → ∃ r, r ≤ 9999 ∧ S (264 + j) = nI r
def tbl (S : Nat → Int32) : Nat → Nat := fun j => tn (S (264 + j))
theorem okT.at {S : Nat → Int32} (h : okT S) {j : Nat} (hj : j < 400) : S (264 + j) = nI (tbl S j) ∧ tbl S j ≤ 9999 := by
  obtain ⟨r, h1, h2⟩ := h j hj
  unfold tbl
  rw [h2, tn_nI (by omega)]
  exact ⟨rfl, h1⟩
theorem rateN_le {S : Nat → Int32} (h : okT S) {a b c : Nat} (ha : a < 5) (hb : b < 10) (hc : c < 8) : rateN (tbl S) a b c ≤ 9999 := by
  unfold rateN
  split
  · rcases (mO_ge (fun i j => tbl S (80 * a + 8 * i + j)) hc (10 - b) b 0).2.2 with h1 | ⟨i, j, h1, h2, h3, h4, h5⟩
    · omega
    · rw [h5]
      exact (h.at (by omega)).2
  · exact (h.at (by omega)).2
theorem q_rateFor_in {w : V} {post : Int32 → V → Prop} {a b c0 : Nat} {own : Int32} {k0 : Int32 → Int32 → V → Prop} (hT : okT (w 1)) (ha : a < 5) (hb : b < 10) : ∀ d c acc, c + d = 8 → acc ≤ 9999 → (∃ n, sl_X7_rateFor_34 post (nI a) (nI c0) own (nI b) k0 n (nI acc) (nI c) w) = k0 (nI (mI (fun j => tbl (w 1) (80 * a + 8 * b + j)) d c acc)) (nI 8) w := by
  intro d
  induction d with
  | zero =>
    intro c acc h _
    obtain rfl : c = 8 := by omega
    exact xo_X7_rateFor_34 (fun rec => b_t (show (8 : Int32) ≤ nI 8 by decide))
  | succ d ih =>
    intro c acc h hacc
    obtain ⟨e1, e2⟩ := hT.at (j := 80 * a + 8 * b + c) (by omega)
    refine (xs_X7_rateFor_34 (fun rec => ?_)).trans (ih (c + 1) (if tbl (w 1) (80 * a + 8 * b + c) ≤ acc then acc else tbl (w 1) (80 * a + 8 * b + c)) (by omega) (by split <;> omega))
    unfold sb_X7_rateFor_34
    rw [b_f (show ¬ (8 : Int32) ≤ nI c from nI_ge (b := 8) (by omega) (by omega)), q_rateAt, b_and (vp_in_nI (by omega) (by decide)), tn_nI (by omega), show 264 + 80 * a + 8 * b + c = 264 + (80 * a + 8 * b + c) by omega, e1, n_le (by omega) (by omega), nI_1]
    by_cases hc : tbl (w 1) (80 * a + 8 * b + c) ≤ acc
    · rw [b_t hc, if_pos hc]
    · rw [b_f hc, if_neg hc]
theorem q_rateFor_out {w : V} {post : Int32 → V → Prop} {a c0 : Nat} {k0 : Int32 → Int32 → V → Prop} (hT : okT (w 1)) (ha : a < 5) (hc0 : c0 < 8) : ∀ d b acc, b + d = 10 → acc ≤ 9999 → (∃ n, sl_X7_rateFor_19 post (nI a) (nI c0) 0 k0 n (nI acc) (nI b) w) = k0 (nI (mO (fun i j => tbl (w 1) (80 * a + 8 * i + j)) c0 d b acc)) (nI 10) w := by
  intro d
  induction d with
  | zero =>
    intro b acc h _
    obtain rfl : b = 10 := by omega
    exact xo_X7_rateFor_19 (fun rec => b_t (show (10 : Int32) ≤ nI 10 by decide))
  | succ d ih =>
    intro b acc h hacc
    have hm : mI (fun j => tbl (w 1) (80 * a + 8 * b + j)) (8 - c0) c0 acc ≤ 9999 := by
      rcases (mI_ge (fun j => tbl (w 1) (80 * a + 8 * b + j)) (8 - c0) c0 acc).2.2 with h1 | ⟨j, h1, h2, h3⟩
      · omega
      · rw [h3]
        exact (hT.at (by omega)).2
    refine (xs_X7_rateFor_19 (fun rec => ?_)).trans (ih (b + 1) _ (by omega) hm)
    unfold sb_X7_rateFor_19
    rw [b_f (show ¬ (10 : Int32) ≤ nI b from nI_ge (b := 10) (by omega) (by omega)), b_t' (show (0 : Int32) = 0 from rfl)]
    rw [q_rateFor_in hT ha (by omega) (8 - c0) c0 acc (by omega) hacc, nI_1]
theorem q_rateFor {w : V} {post : Int32 → V → Prop} {a b c : Nat} (hT : okT (w 1)) (ha : a < 5) (hb : b < 10) (hc : c < 8) : s_X7_rateFor w (nI a) (nI b) (nI c) post = post (nI (rateN (tbl (w 1)) a b c)) w := by
  unfold s_X7_rateFor
  obtain ⟨e1, e2⟩ := hT.at (j := 80 * a + 8 * b + c) (by omega)
  rw [q_rateAt, b_and (vp_in_nI (by omega) (by decide)), tn_nI (by omega), show 264 + 80 * a + 8 * b + c = 264 + (80 * a + 8 * b + c) by omega, e1]
  unfold rateN
  by_cases h0 : tbl (w 1) (80 * a + 8 * b + c) = 0
  · rw [h0, if_pos rfl]
    show (∃ n_12, sl_X7_rateFor_19 post (nI a) (nI c) 0 _ n_12 (nI 0) (nI b) w) = _
    rw [q_rateFor_out hT ha hc (10 - b) b 0 (by omega) (by omega)]
    exact b_t (by decide)
  · rw [if_neg h0]
    have hp : ¬ nI (tbl (w 1) (80 * a + 8 * b + c)) ≤ 0 := nI_nle (by omega) (by omega)
    have hq : ¬ nI (tbl (w 1) (80 * a + 8 * b + c)) = 0 := nI_ne0 (by omega) (by omega)
    refine xo_X7_rateFor_19 (fun rec => ?_)
    unfold sb_X7_rateFor_19
    rw [b_f (show ¬ (10 : Int32) ≤ nI b from nI_ge (b := 10) (by omega) (by omega)), b_f' (show ¬ (nI (tbl (w 1) (80 * a + 8 * b + c)) = 0) from hq)]
    exact b_f hp
/-- the price of a stone of weight x by a rate r -/
def prI (x r : Nat) : Int32 := if r = 0 then -1 else nI (x * r / 100)
def rS (S : Nat → Int32) (k : Nat) : Nat := rateN (tbl S) (svN (tn (S (14 + 10 * k + 0)))) (tn (S (14 + 10 * k + 1))) (tn (S (14 + 10 * k + 2)))
def pS (S : Nat → Int32) (k : Nat) : Int32 := prI (tn (S (14 + 10 * k + 0))) (rS S k)
/-- a stone's weight, colour, clarity -/
def okK (S : Nat → Int32) (k : Nat) : Prop := (∃ x, 1 ≤ x ∧ x ≤ 999 ∧ S (14 + 10 * k + 0) = nI x) ∧ (∃ x, x < 10 ∧ S (14 + 10 * k + 1) = nI x) ∧ ∃ x, x < 8 ∧ S (14 + 10 * k + 2) = nI x
theorem okK.at {S : Nat → Int32} {k : Nat} (h : okK S k) : S (14 + 10 * k + 0) = nI (tn (S (14 + 10 * k + 0))) ∧ tn (S (14 + 10 * k + 0)) ≤ 999 ∧ 1 ≤ tn (S (14 + 10 * k + 0)) ∧ S (14 + 10 * k + 1) = nI (tn (S (14 + 10 * k + 1))) ∧ tn (S (14 + 10 * k + 1)) < 10 ∧ S (14 + 10 * k + 2) = nI (tn (S (14 + 10 * k + 2))) ∧ tn (S (14 + 10 * k + 2)) < 8 := by
  obtain ⟨⟨x, h1, h2, h3⟩, ⟨y, h4, h5⟩, z, h6, h7⟩ := h
  rw [h3, h5, h7, tn_nI (by omega), tn_nI (by omega), tn_nI (by omega)]
  exact ⟨rfl, h2, h1, rfl, h4, rfl, h6⟩
theorem rS_le {S : Nat → Int32} {k : Nat} (hT : okT S) (hK : okK S k) : rS S k ≤ 9999 := by
  obtain ⟨a1, a2, a3, a4, a5, a6, a7⟩ := hK.at
  exact rateN_le hT (svN_lt _) a5 a7
theorem q_price {w : V} {post : Int32 → V → Prop} {k : Nat} (hT : okT (w 1)) (hK : okK (w 1) k) (hk : k < 20) : s_X7_price w (nI k) post = post (pS (w 1) k) w := by
  obtain ⟨a1, a2, a3, a4, a5, a6, a7⟩ := hK.at
  have hr := rS_le hT hK
  unfold s_X7_price
  rw [q_sieve hk (by omega) a1, q_of1 hk, a4, q_of2 hk, a6, q_rateFor hT (svN_lt _) a5 a7]
  rw [show rateN (tbl (w 1)) (svN (tn (w 1 (14 + 10 * k + 0)))) (tn (w 1 (14 + 10 * k + 1))) (tn (w 1 (14 + 10 * k + 2))) = rS (w 1) k from rfl]
  unfold pS prI
  by_cases h0 : rS (w 1) k = 0
  · rw [h0, if_pos rfl, b_t' (by decide)]
  · rw [if_neg h0, b_f' (nI_ne0 (by omega) (by omega)), q_of0 hk]
    have hm : tn (w 1 (14 + 10 * k + 0)) * rS (w 1) k ≤ 999 * 9999 := Nat.mul_le_mul a2 hr
    generalize hx : tn (w 1 (14 + 10 * k + 0)) = x at hm a1
    rw [a1, pk_mul, show (100 : Int32) = nI 100 from rfl, pk_div (by omega) (by omega) (by omega)]
theorem pS_m1 {S : Nat → Int32} {k : Nat} (hT : okT S) (hK : okK S k) : (pS S k = -1 ∧ rS S k = 0) ∨ ∃ x, x ≤ 99890 ∧ pS S k = nI x ∧ rS S k ≠ 0 := by
  obtain ⟨a1, a2, a3, -⟩ := hK.at
  have hr := rS_le hT hK
  unfold pS prI
  by_cases h0 : rS S k = 0
  · exact Or.inl ⟨if_pos h0, h0⟩
  · refine Or.inr ⟨tn (S (14 + 10 * k + 0)) * rS S k / 100, ?_, if_neg h0, h0⟩
    have : tn (S (14 + 10 * k + 0)) * rS S k ≤ 999 * 9999 := Nat.mul_le_mul a2 hr
    omega
/-- a set of stones: where a row has a value -/
def setF (f : Nat → Int32) (x : Int32) : Nat → Int32
  | 0 => 0
  | k + 1 => if f k = x then setF f x k ||| (1 <<< (nI k &&& 31)) else setF f x k
theorem or0 (x : Int32) : x ||| 0 = x := by
  apply Int32.toBitVec_inj.mp
  simp
theorem q_outBy {w : V} {post : Int32 → V → Prop} {x : Int32} {ns : Nat} (hS : w 1 1 = nI ns) (hns : ns ≤ 20) : s_X7_outBy w x post = post (setF (fun k => w 1 (14 + 10 * k + 5)) x ns) w := by
  have key : ∀ d k, k + d = ns → (∃ n, sl_X7_outBy_4 post x (fun a _ v => post a v) n (setF (fun k => w 1 (14 + 10 * k + 5)) x k) (nI k) w) = post (setF (fun k => w 1 (14 + 10 * k + 5)) x ns) w := by
    intro d
    induction d with
    | zero =>
      intro k h
      obtain rfl : k = ns := by omega
      exact xo_X7_outBy_4 (fun rec => b_t (show w 1 1 ≤ nI k by rw [hS]; exact Int32.le_refl _))
    | succ d ih =>
      intro k h
      refine (xs_X7_outBy_4 (fun rec => ?_)).trans (ih (k + 1) (by omega))
      unfold sb_X7_outBy_4
      rw [b_f (show ¬ w 1 (tn 1) ≤ nI k from by show ¬ w 1 1 ≤ nI k; rw [hS]; exact nI_ge (by omega) (by omega)), q_of5 (by omega), nI_1]
      show ((¬ w 1 (14 + 10 * k + 5) = x → _) ∧ (w 1 (14 + 10 * k + 5) = x → _)) = _
      rw [setF]
      by_cases hc : w 1 (14 + 10 * k + 5) = x
      · rw [b_t' hc, if_pos hc]
      · rw [b_f' hc, if_neg hc, or0]
  exact key ns 0 (by omega)
theorem q_setOf {w : V} {post : Int32 → V → Prop} {x : Int32} {ns f : Nat} (hf : f < 10) (hS : w 1 1 = nI ns) (hns : ns ≤ 20) : s_X7_setOf w x (nI f) post = post (setF (fun k => w 1 (14 + 10 * k + f)) x ns) w := by
  have key : ∀ d k, k + d = ns → (∃ n, sl_X7_setOf_5 post x (nI f) (fun a _ v => post a v) n (setF (fun k => w 1 (14 + 10 * k + f)) x k) (nI k) w) = post (setF (fun k => w 1 (14 + 10 * k + f)) x ns) w := by
    intro d
    induction d with
    | zero =>
      intro k h
      obtain rfl : k = ns := by omega
      exact xo_X7_setOf_5 (fun rec => b_t (show w 1 1 ≤ nI k by rw [hS]; exact Int32.le_refl _))
    | succ d ih =>
      intro k h
      refine (xs_X7_setOf_5 (fun rec => ?_)).trans (ih (k + 1) (by omega))
      unfold sb_X7_setOf_5
      rw [b_f (show ¬ w 1 (tn 1) ≤ nI k from by show ¬ w 1 1 ≤ nI k; rw [hS]; exact nI_ge (by omega) (by omega)), q_ofStone (by omega) hf, nI_1]
      show ((¬ w 1 (14 + 10 * k + f) = x → _) ∧ (w 1 (14 + 10 * k + f) = x → _)) = _
      rw [setF]
      by_cases hc : w 1 (14 + 10 * k + f) = x
      · rw [b_t' hc, if_pos hc]
      · rw [b_f' hc, if_neg hc, or0]
  exact key ns 0 (by omega)
def onF (x : Int32) : Nat → Int32
  | 0 => 0
  | k + 1 => onF x k + ((x >>> (nI k &&& 31)) &&& 1)
theorem q_ones {x : Int32} {post : Int32 → Prop} : s_X7_ones x post = post (onF x 20) := by
  have key : ∀ d k, k + d = 20 → (∃ n, sl_X7_ones_4 post x (fun a _ => post a) n (onF x k) (nI k)) = post (onF x 20) := by
    intro d
    induction d with
    | zero =>
      intro k h
      obtain rfl : k = 20 := by omega
      exact xo_X7_ones_4 (fun rec => b_t (show (20 : Int32) ≤ nI 20 by decide))
    | succ d ih =>
      intro k h
      refine (xs_X7_ones_4 (fun rec => ?_)).trans (ih (k + 1) (by omega))
      unfold sb_X7_ones_4
      rw [b_f (show ¬ (20 : Int32) ≤ nI k from nI_ge (b := 20) (by omega) (by omega)), nI_1]
      rfl
  exact key 20 0 (by omega)
