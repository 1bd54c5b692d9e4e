/-! PURE 2: what the reference's methods answer: equations -/
theorem q_in_t {a b c : Int32} {post : Int32 → Prop} (h1 : ¬ a < b) (h2 : ¬ c < a) : s_X7_in a b c post = post 1 := by
  unfold s_X7_in
  rw [b_f h1, b_f h2]
theorem q_in_f {a b c : Int32} {post : Int32 → Prop} (h : a < b ∨ c < a) : s_X7_in a b c post = post 0 := by
  unfold s_X7_in
  by_cases h1 : a < b
  · rw [b_t h1]
  · rw [b_f h1, b_t (h.resolve_left h1)]
/-- a number between two others, as numbers -/
theorem q_in_n {a b k : Nat} {post : Int32 → Prop} (h1 : a ≤ k) (h2 : k ≤ b) (hb : b < 1000000000) : s_X7_in (nI k) (nI a) (nI b) post = post 1 := by
  refine q_in_t ?_ ?_
  · rw [n_lt (by omega) (by omega)]
    omega
  · rw [n_lt (by omega) (by omega)]
    omega
theorem q_ofStone {w : V} {k f : Nat} {post : Int32 → V → Prop} (hk : k < 20) (hf : f < 10) : s_X7_ofStone w (nI k) (nI f) post = post (w 1 (14 + 10 * k + f)) w := by
  unfold s_X7_ofStone
  rw [l14, b_and (vp_in_nI (by omega) (by decide)), tn_nI (by omega)]
theorem q_setStone {w : V} {k f : Nat} {x : Int32} {post : V → Prop} (hk : k < 20) (hf : f < 10) : s_X7_setStone w (nI k) (nI f) x post = post (st w 1 (14 + 10 * k + f) x) := by
  unfold s_X7_setStone
  rw [l14, b_and (vp_in_nI (by omega) (by decide)), tn_nI (by omega), b_all]
theorem q_ofMemo {w : V} {k f : Nat} {post : Int32 → V → Prop} (hk : k < 10) (hf : f < 5) : s_X7_ofMemo w (nI k) (nI f) post = post (w 1 (214 + 5 * k + f)) w := by
  unfold s_X7_ofMemo
  rw [l214, b_and (vp_in_nI (by omega) (by decide)), tn_nI (by omega)]
theorem q_of0 {w : V} {k : Nat} {post : Int32 → V → Prop} (hk : k < 20) : s_X7_ofStone w (nI k) 0 post = post (w 1 (14 + 10 * k + 0)) w := q_ofStone (f := 0) hk (by decide)
theorem q_set0 {w : V} {k : Nat} {x : Int32} {post : V → Prop} (hk : k < 20) : s_X7_setStone w (nI k) 0 x post = post (st w 1 (14 + 10 * k + 0) x) := q_setStone (f := 0) hk (by decide)
theorem q_of1 {w : V} {k : Nat} {post : Int32 → V → Prop} (hk : k < 20) : s_X7_ofStone w (nI k) 1 post = post (w 1 (14 + 10 * k + 1)) w := q_ofStone (f := 1) hk (by decide)
theorem q_set1 {w : V} {k : Nat} {x : Int32} {post : V → Prop} (hk : k < 20) : s_X7_setStone w (nI k) 1 x post = post (st w 1 (14 + 10 * k + 1) x) := q_setStone (f := 1) hk (by decide)
theorem q_of2 {w : V} {k : Nat} {post : Int32 → V → Prop} (hk : k < 20) : s_X7_ofStone w (nI k) 2 post = post (w 1 (14 + 10 * k + 2)) w := q_ofStone (f := 2) hk (by decide)
theorem q_set2 {w : V} {k : Nat} {x : Int32} {post : V → Prop} (hk : k < 20) : s_X7_setStone w (nI k) 2 x post = post (st w 1 (14 + 10 * k + 2) x) := q_setStone (f := 2) hk (by decide)
theorem q_of3 {w : V} {k : Nat} {post : Int32 → V → Prop} (hk : k < 20) : s_X7_ofStone w (nI k) 3 post = post (w 1 (14 + 10 * k + 3)) w := q_ofStone (f := 3) hk (by decide)
theorem q_set3 {w : V} {k : Nat} {x : Int32} {post : V → Prop} (hk : k < 20) : s_X7_setStone w (nI k) 3 x post = post (st w 1 (14 + 10 * k + 3) x) := q_setStone (f := 3) hk (by decide)
theorem q_of4 {w : V} {k : Nat} {post : Int32 → V → Prop} (hk : k < 20) : s_X7_ofStone w (nI k) 4 post = post (w 1 (14 + 10 * k + 4)) w := q_ofStone (f := 4) hk (by decide)
theorem q_set4 {w : V} {k : Nat} {x : Int32} {post : V → Prop} (hk : k < 20) : s_X7_setStone w (nI k) 4 x post = post (st w 1 (14 + 10 * k + 4) x) := q_setStone (f := 4) hk (by decide)
theorem q_of5 {w : V} {k : Nat} {post : Int32 → V → Prop} (hk : k < 20) : s_X7_ofStone w (nI k) 5 post = post (w 1 (14 + 10 * k + 5)) w := q_ofStone (f := 5) hk (by decide)
theorem q_set5 {w : V} {k : Nat} {x : Int32} {post : V → Prop} (hk : k < 20) : s_X7_setStone w (nI k) 5 x post = post (st w 1 (14 + 10 * k + 5) x) := q_setStone (f := 5) hk (by decide)
theorem q_of6 {w : V} {k : Nat} {post : Int32 → V → Prop} (hk : k < 20) : s_X7_ofStone w (nI k) 6 post = post (w 1 (14 + 10 * k + 6)) w := q_ofStone (f := 6) hk (by decide)
theorem q_set6 {w : V} {k : Nat} {x : Int32} {post : V → Prop} (hk : k < 20) : s_X7_setStone w (nI k) 6 x post = post (st w 1 (14 + 10 * k + 6) x) := q_setStone (f := 6) hk (by decide)
theorem q_of7 {w : V} {k : Nat} {post : Int32 → V → Prop} (hk : k < 20) : s_X7_ofStone w (nI k) 7 post = post (w 1 (14 + 10 * k + 7)) w := q_ofStone (f := 7) hk (by decide)
theorem q_set7 {w : V} {k : Nat} {x : Int32} {post : V → Prop} (hk : k < 20) : s_X7_setStone w (nI k) 7 x post = post (st w 1 (14 + 10 * k + 7) x) := q_setStone (f := 7) hk (by decide)
theorem q_of8 {w : V} {k : Nat} {post : Int32 → V → Prop} (hk : k < 20) : s_X7_ofStone w (nI k) 8 post = post (w 1 (14 + 10 * k + 8)) w := q_ofStone (f := 8) hk (by decide)
theorem q_set8 {w : V} {k : Nat} {x : Int32} {post : V → Prop} (hk : k < 20) : s_X7_setStone w (nI k) 8 x post = post (st w 1 (14 + 10 * k + 8) x) := q_setStone (f := 8) hk (by decide)
theorem q_me0 {w : V} {k : Nat} {post : Int32 → V → Prop} (hk : k < 10) : s_X7_ofMemo w (nI k) 0 post = post (w 1 (214 + 5 * k + 0)) w := q_ofMemo (f := 0) hk (by decide)
theorem q_me1 {w : V} {k : Nat} {post : Int32 → V → Prop} (hk : k < 10) : s_X7_ofMemo w (nI k) 1 post = post (w 1 (214 + 5 * k + 1)) w := q_ofMemo (f := 1) hk (by decide)
theorem q_me2 {w : V} {k : Nat} {post : Int32 → V → Prop} (hk : k < 10) : s_X7_ofMemo w (nI k) 2 post = post (w 1 (214 + 5 * k + 2)) w := q_ofMemo (f := 2) hk (by decide)
theorem q_me3 {w : V} {k : Nat} {post : Int32 → V → Prop} (hk : k < 10) : s_X7_ofMemo w (nI k) 3 post = post (w 1 (214 + 5 * k + 3)) w := q_ofMemo (f := 3) hk (by decide)
theorem q_me4 {w : V} {k : Nat} {post : Int32 → V → Prop} (hk : k < 10) : s_X7_ofMemo w (nI k) 4 post = post (w 1 (214 + 5 * k + 4)) w := q_ofMemo (f := 4) hk (by decide)
/-- an index below a number that is kept -/
theorem q_below {S1 x : Int32} {n : Nat} {post : Int32 → Prop} (hS : S1 = nI n) (hn : n < 1000000) : (∀ k, k < n → x = nI k → s_X7_in x 0 (S1 - 1) post = post 1) ∧ ((x < 0 ∨ nI n ≤ x) → s_X7_in x 0 (S1 - 1) post = post 0) := by
  subst hS
  constructor
  · rintro k hk rfl
    refine q_in_t (n_neg (by omega)) ?_
    have e : nI n - 1 = nI (n - 1) := pk_sub (a := n) (b := 1) (by omega)
    rw [e, n_lt (by omega) (by omega)]
    omega
  · intro h
    refine q_in_f (h.imp id fun h => ?_)
    by_cases h0 : n = 0
    · subst h0
      have e : nI 0 - 1 = -1 := by decide
      rw [e]
      rw [Int32.le_iff_toInt_le] at h
      rw [Int32.lt_iff_toInt_lt]
      rw [nI_toInt (by omega)] at h
      have e2 : (-1 : Int32).toInt = -1 := by decide
      rw [e2]
      omega
    · have e : nI n - 1 = nI (n - 1) := pk_sub (a := n) (b := 1) (by omega)
      rw [e]
      rw [Int32.le_iff_toInt_le] at h
      rw [Int32.lt_iff_toInt_lt]
      rw [nI_toInt (by omega)] at h ⊢
      omega
theorem q_isDealer_t {w : V} {n k : Nat} {post : Int32 → V → Prop} (hS : w 1 0 = nI n) (hn : n < 1000000) (hk : k < n) : s_X7_isDealer w (nI k) post = post 1 w := by
  unfold s_X7_isDealer
  show s_X7_in (nI k) 0 (w 1 0 - 1) _ = _
  rw [(q_below hS hn).1 k hk rfl]
  exact b_and (nz true)
theorem q_isDealer_f {w : V} {n : Nat} {x : Int32} {post : Int32 → V → Prop} (hS : w 1 0 = nI n) (hn : n < 1000000) (h : x < 0 ∨ nI n ≤ x) : s_X7_isDealer w x post = post 0 w := by
  unfold s_X7_isDealer
  show s_X7_in x 0 (w 1 0 - 1) _ = _
  rw [(q_below hS hn).2 h]
  exact b_and (nz false)
theorem q_isStone_t {w : V} {n k : Nat} {post : Int32 → V → Prop} (hS : w 1 1 = nI n) (hn : n < 1000000) (hk : k < n) : s_X7_isStone w (nI k) post = post 1 w := by
  unfold s_X7_isStone
  show s_X7_in (nI k) 0 (w 1 1 - 1) _ = _
  rw [(q_below hS hn).1 k hk rfl]
  exact b_and (nz true)
theorem q_isStone_f {w : V} {n : Nat} {x : Int32} {post : Int32 → V → Prop} (hS : w 1 1 = nI n) (hn : n < 1000000) (h : x < 0 ∨ nI n ≤ x) : s_X7_isStone w x post = post 0 w := by
  unfold s_X7_isStone
  show s_X7_in x 0 (w 1 1 - 1) _ = _
  rw [(q_below hS hn).2 h]
  exact b_and (nz false)
theorem q_isOut_t {w : V} {k m : Nat} {post : Int32 → V → Prop} (hk : k < 20) (hm : m < 1000000) (h : w 1 (14 + 10 * k + 5) = nI m) : s_X7_isOut w (nI k) post = post 1 w := by
  unfold s_X7_isOut
  rw [q_of5 hk, h]
  exact b_f (n_neg (by omega))
theorem q_isOut_f {w : V} {k : Nat} {post : Int32 → V → Prop} (hk : k < 20) (h : w 1 (14 + 10 * k + 5) = -1) : s_X7_isOut w (nI k) post = post 0 w := by
  unfold s_X7_isOut
  rw [q_of5 hk, h]
  exact b_t (by decide)
theorem q_isSold_t {w : V} {k : Nat} {post : Int32 → V → Prop} (hk : k < 20) (h : w 1 (14 + 10 * k + 3) = -1) : s_X7_isSold w (nI k) post = post 1 w := by
  unfold s_X7_isSold
  rw [q_of3 hk, h]
  exact b_f (by decide)
theorem q_isSold_f {w : V} {k m : Nat} {post : Int32 → V → Prop} (hk : k < 20) (hm : m < 1000000) (h : w 1 (14 + 10 * k + 3) = nI m) : s_X7_isSold w (nI k) post = post 0 w := by
  unfold s_X7_isSold
  rw [q_of3 hk, h]
  exact b_t (nI_pos' (by omega))
def svN (x : Nat) : Nat := if x < 10 then 0 else if x < 25 then 1 else if x < 50 then 2 else if x < 100 then 3 else 4
theorem svN_lt (x : Nat) : svN x < 5 := by
  unfold svN
  repeat' split
  all_goals omega
theorem q_sieve {w : V} {k x : Nat} {post : Int32 → V → Prop} (hk : k < 20) (hx : x < 1000000) (h : w 1 (14 + 10 * k + 0) = nI x) : s_X7_sieve w (nI k) post = post (nI (svN x)) w := by
  unfold s_X7_sieve
  rw [q_of0 hk, h]
  have e : ∀ a : Nat, a < 1000 → (nI a ≤ nI x) = (a ≤ x) := fun a ha => n_le (by omega) (by omega)
  have e1 : ((10 : Int32) ≤ nI x) = (10 ≤ x) := e 10 (by omega)
  have e2 : ((25 : Int32) ≤ nI x) = (25 ≤ x) := e 25 (by omega)
  have e3 : ((50 : Int32) ≤ nI x) = (50 ≤ x) := e 50 (by omega)
  have e4 : ((100 : Int32) ≤ nI x) = (100 ≤ x) := e 100 (by omega)
  rw [e1, e2, e3, e4]
  unfold svN
  by_cases h1 : x < 10
  · rw [b_f (by omega), if_pos h1]
    rfl
  · rw [b_t (by omega), if_neg h1]
    by_cases h2 : x < 25
    · rw [b_f (by omega), if_pos h2]
      rfl
    · rw [b_t (by omega), if_neg h2]
      by_cases h3 : x < 50
      · rw [b_f (by omega), if_pos h3]
        rfl
      · rw [b_t (by omega), if_neg h3]
        by_cases h4 : x < 100
        · rw [b_f (by omega), if_pos h4]
          rfl
        · rw [b_t (by omega), if_neg h4]
          rfl
/-- part of a row overwritten -/
def fO (w : V) (p off : Nat) (g : Nat → Int32) (k : Nat) : V := fun r => bif Nat.beq r p then (fun j => if off ≤ j ∧ j < off + k then g (j - off) else w p j) else w r
theorem fO_at (w : V) (p off : Nat) (g : Nat → Int32) (k j : Nat) : fO w p off g k p j = if off ≤ j ∧ j < off + k then g (j - off) else w p j := by
  unfold fO
  rw [beq_t]
  rfl
theorem fO_ne {w : V} {p off : Nat} {g : Nat → Int32} {k q : Nat} (h : q ≠ p) : fO w p off g k q = w q := by
  unfold fO
  rw [beq_f h]
  rfl
theorem fO_0 (w : V) (p off : Nat) (g : Nat → Int32) : fO w p off g 0 = w := by
  funext r j
  by_cases h : r = p
  · subst h
    rw [fO_at, if_neg (by omega)]
  · rw [fO_ne h]
theorem fO_s (w : V) (p off : Nat) (g : Nat → Int32) (k : Nat) : st (fO w p off g k) p (off + k) (g k) = fO w p off g (k + 1) := by
  funext r j
  rw [st_eq]
  by_cases h : r = p
  · subst h
    rw [fO_at, fO_at]
    by_cases h2 : j = off + k
    · subst h2
      rw [if_pos ⟨rfl, rfl⟩, if_pos (by omega), show off + k - off = k by omega]
    · rw [if_neg (fun z => h2 z.2)]
      by_cases h3 : off ≤ j ∧ j < off + k
      · rw [if_pos h3, if_pos (by omega)]
      · rw [if_neg h3, if_neg (by omega)]
  · rw [if_neg (fun z => h z.1), fO_ne h, fO_ne h]
theorem q_begins {w : V} {post : V → Prop} : s_X7_begins w post = post (fO w 2 0 (w 1) 664) := by
  have key : ∀ d k, k + d = 664 → (∃ n, sl_X7_begins_2 post (fun _ v => post v) n (nI k) (fO w 2 0 (w 1) k)) = post (fO w 2 0 (w 1) 664) := by
    intro d
    induction d with
    | zero =>
      intro k h
      obtain rfl : k = 664 := by omega
      exact xo_X7_begins_2 (fun rec => b_t (show (664 : Int32) ≤ nI 664 by decide))
    | succ d ih =>
      intro k h
      refine (xs_X7_begins_2 (fun rec => ?_)).trans (ih (k + 1) (by omega))
      unfold sb_X7_begins_2
      rw [b_f (show ¬ (664 : Int32) ≤ nI k from nI_ge (b := 664) (by omega) (by omega)), b_and (vp_in_nI (by omega) (by decide)), b_and (vp_in_nI (by omega) (by decide)), b_all, tn_nI (by omega), nI_1, fO_ne (by decide)]
      rw [show st (fO w 2 0 (w 1) k) 2 k (w 1 k) = fO w 2 0 (w 1) (k + 1) by rw [← fO_s, Nat.zero_add]]
  have h := key 664 0 rfl
  rw [fO_0] at h
  exact h
theorem q_returns {w : V} {post : V → Prop} : s_X7_returns w post = post (fO w 1 0 (w 2) 664) := by
  have key : ∀ d k, k + d = 664 → (∃ n, sl_X7_returns_2 post (fun _ v => post v) n (nI k) (fO w 1 0 (w 2) k)) = post (fO w 1 0 (w 2) 664) := by
    intro d
    induction d with
    | zero =>
      intro k h
      obtain rfl : k = 664 := by omega
      exact xo_X7_returns_2 (fun rec => b_t (show (664 : Int32) ≤ nI 664 by decide))
    | succ d ih =>
      intro k h
      refine (xs_X7_returns_2 (fun rec => ?_)).trans (ih (k + 1) (by omega))
      unfold sb_X7_returns_2
      rw [b_f (show ¬ (664 : Int32) ≤ nI k from nI_ge (b := 664) (by omega) (by omega)), b_and (vp_in_nI (by omega) (by decide)), b_and (vp_in_nI (by omega) (by decide)), b_all, tn_nI (by omega), nI_1, fO_ne (by decide)]
      rw [show st (fO w 1 0 (w 2) k) 1 k (w 2 k) = fO w 1 0 (w 2) (k + 1) by rw [← fO_s, Nat.zero_add]]
  have h := key 664 0 rfl
  rw [fO_0] at h
  exact h
