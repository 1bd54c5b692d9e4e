/-! PURE: counting bits -/
theorem and_sp {a b c d : Nat} (i : Nat) (hb : b < 2 ^ i) (hd : d < 2 ^ i) : (2 ^ i * a + b) &&& (2 ^ i * c + d) = 2 ^ i * (a &&& c) + (b &&& d) := by
  apply Nat.eq_of_testBit_eq
  intro j
  rw [Nat.testBit_and, Nat.testBit_two_pow_mul_add _ hb, Nat.testBit_two_pow_mul_add _ hd, Nat.testBit_two_pow_mul_add _ (Nat.and_lt_two_pow b hd)]
  by_cases h : j < i
  · rw [if_pos h, if_pos h, if_pos h, Nat.testBit_and]
  · rw [if_neg h, if_neg h, if_neg h, Nat.testBit_and]
theorem and8 {a b c d : Nat} (hb : b < 256) (hd : d < 256) : (256 * a + b) &&& (256 * c + d) = 256 * (a &&& c) + (b &&& d) := and_sp 8 hb hd
theorem and16 {a b c d : Nat} (hb : b < 65536) (hd : d < 65536) : (65536 * a + b) &&& (65536 * c + d) = 65536 * (a &&& c) + (b &&& d) := and_sp 16 hb hd
theorem and24 {a b x c d y : Nat} (hb : b < 256) (hx : x < 256) (hd : d < 256) (hy : y < 256) : (65536 * a + 256 * b + x) &&& (65536 * c + 256 * d + y) = 65536 * (a &&& c) + 256 * (b &&& d) + (x &&& y) := by
  rw [Nat.add_assoc, Nat.add_assoc, and16 (by omega) (by omega), and8 hx hy]
  omega
def y1 (x : Nat) : Nat := x - (x / 2 &&& 85)
def y2 (x : Nat) : Nat := (x &&& 51) + (x / 4 &&& 51)
def pc (x : Nat) : Nat := x % 2 + x / 2 % 2 + x / 4 % 2 + x / 8 % 2 + x / 16 % 2 + x / 32 % 2 + x / 64 % 2 + x / 128 % 2
theorem y12 : ∀ x, x < 256 → y2 (y1 x) / 16 ≤ 4 ∧ y2 (y1 x) % 16 ≤ 4 ∧ y2 (y1 x) / 16 + y2 (y1 x) % 16 = pc x := by decide +kernel
theorem y1_85 : ∀ h, h < 16 → (h / 2 &&& 21845) = (h / 2 &&& 85) := by decide +kernel
theorem y1_lt : ∀ h, h < 16 → y1 h < 16 := by decide +kernel
theorem y2_51 : ∀ h, h < 16 → (h &&& 13107) = (h &&& 51) ∧ (h / 4 &&& 13107) = (h / 4 &&& 51) := by decide +kernel
theorem a85 {x t : Nat} (hx : x < 256) : (x / 2 + 128 * t) &&& 85 = x / 2 &&& 85 := by
  have := and_sp (a := t) (b := x / 2) (c := 0) (d := 85) 7 (by omega) (by decide)
  rw [Nat.and_zero] at this
  rw [show x / 2 + 128 * t = 2 ^ 7 * t + x / 2 by omega]
  refine Eq.trans (show _ = _ from this) ?_
  omega
theorem a51 {x t : Nat} (hx : x < 256) : (x / 4 + 64 * t) &&& 51 = x / 4 &&& 51 := by
  have := and_sp (a := t) (b := x / 4) (c := 0) (d := 51) 6 (by omega) (by decide)
  rw [Nat.and_zero] at this
  rw [show x / 4 + 64 * t = 2 ^ 6 * t + x / 4 by omega]
  refine Eq.trans (show _ = _ from this) ?_
  omega
theorem a15 {u s : Nat} (hs : s < 16) : (16 * u + s) &&& 15 = s := by
  rw [Nat.and_two_pow_sub_one_eq_mod _ 4]
  omega
theorem a3855 : ∀ p, p < 5 → ∀ s, s < 16 → (16 * p + s) &&& 3855 = s := by decide +kernel
theorem st1N {h m l : Nat} (hh : h < 16) (hm : m < 256) (hl : l < 256) : (65536 * h + 256 * m + l) - ((65536 * h + 256 * m + l) / 2 &&& 1431655765) = 65536 * y1 h + 256 * y1 m + y1 l := by
  have e : (65536 * h + 256 * m + l) / 2 = 65536 * (h / 2) + 256 * (m / 2 + 128 * (h % 2)) + (l / 2 + 128 * (m % 2)) := by omega
  rw [e, show (1431655765 : Nat) = 65536 * 21845 + 256 * 85 + 85 by decide, and24 (by omega) (by omega) (by decide) (by decide), a85 hm, a85 hl, y1_85 h hh]
  unfold y1
  have q1 : (h / 2 &&& 85) ≤ h / 2 := Nat.and_le_left
  have q2 : (m / 2 &&& 85) ≤ m / 2 := Nat.and_le_left
  have q3 : (l / 2 &&& 85) ≤ l / 2 := Nat.and_le_left
  omega
theorem st2N {h m l : Nat} (hh : h < 16) (hm : m < 256) (hl : l < 256) : ((65536 * h + 256 * m + l) &&& 858993459) + ((65536 * h + 256 * m + l) / 4 &&& 858993459) = 65536 * y2 h + 256 * y2 m + y2 l := by
  have e : (65536 * h + 256 * m + l) / 4 = 65536 * (h / 4) + 256 * (m / 4 + 64 * (h % 4)) + (l / 4 + 64 * (m % 4)) := by omega
  rw [e, show (858993459 : Nat) = 65536 * 13107 + 256 * 51 + 51 by decide, and24 (by omega) (by omega) (by decide) (by decide), and24 (by omega) (by omega) (by decide) (by decide), a51 hm, a51 hl, (y2_51 h hh).1, (y2_51 h hh).2]
  unfold y2
  omega
theorem st3N {p2 q2 p1 q1 p0 q0 : Nat} (h1 : p2 ≤ 4) (h2 : q2 ≤ 4) (h3 : p1 ≤ 4) (h4 : q1 ≤ 4) (h5 : p0 ≤ 4) (h6 : q0 ≤ 4) : ((65536 * (16 * p2 + q2) + 256 * (16 * p1 + q1) + (16 * p0 + q0)) + (65536 * (16 * p2 + q2) + 256 * (16 * p1 + q1) + (16 * p0 + q0)) / 16 &&& 252645135) = 65536 * (p2 + q2) + 256 * (p1 + q1) + (p0 + q0) := by
  have e : (65536 * (16 * p2 + q2) + 256 * (16 * p1 + q1) + (16 * p0 + q0)) + (65536 * (16 * p2 + q2) + 256 * (16 * p1 + q1) + (16 * p0 + q0)) / 16 = 65536 * (16 * p2 + (p2 + q2)) + 256 * (16 * (p1 + q2) + (p1 + q1)) + (16 * (p0 + q1) + (p0 + q0)) := by omega
  rw [e, show (252645135 : Nat) = 65536 * 3855 + 256 * 15 + 15 by decide, and24 (by omega) (by omega) (by decide) (by decide), a3855 p2 (by omega) _ (by omega), a15 (by omega), a15 (by omega)]
theorem st4N {s2 s1 s0 : Nat} (h1 : s2 ≤ 8) (h2 : s1 ≤ 8) (h3 : s0 ≤ 8) : ((65536 * s2 + 256 * s1 + s0) + (65536 * s2 + 256 * s1 + s0) / 256 + ((65536 * s2 + 256 * s1 + s0) + (65536 * s2 + 256 * s1 + s0) / 256) / 65536 &&& 63) = s2 + s1 + s0 := by
  have e1 : (65536 * s2 + 256 * s1 + s0) / 256 = 256 * s2 + s1 := by omega
  rw [e1]
  have e2 : (65536 * s2 + 256 * s1 + s0 + (256 * s2 + s1)) / 65536 = s2 := by omega
  rw [e2, Nat.and_two_pow_sub_one_eq_mod _ 6]
  omega
theorem andI (a b : Nat) : nI a &&& nI b = nI (a &&& b) := by
  apply Int32.toBitVec_inj.mp
  rw [Int32.toBitVec_and]
  show BitVec.ofNat 32 a &&& BitVec.ofNat 32 b = BitVec.ofNat 32 (a &&& b)
  apply BitVec.eq_of_toNat_eq
  rw [BitVec.toNat_and, BitVec.toNat_ofNat, BitVec.toNat_ofNat, BitVec.toNat_ofNat, Nat.and_mod_two_pow]
theorem k_bits {n : Nat} {post : Int32 → Prop} (hn : n < 1048576) : s_J6_bitCount_0f7a4 (nI n) post = post (nI (pc (n / 65536) + pc (n / 256 % 256) + pc (n % 256))) := by
  have u1 : ∀ a, a < 2 ^ 32 → ((nI a).toUInt32 >>> ((1 : Int32).toUInt32 &&& Int32.toUInt32 31)).toInt32 = nI (a / 2) := fun a h => pk_ushrN h 1 1 (by decide)
  have u2 : ∀ a, a < 2 ^ 32 → ((nI a).toUInt32 >>> ((2 : Int32).toUInt32 &&& Int32.toUInt32 31)).toInt32 = nI (a / 4) := fun a h => pk_ushrN h 2 2 (by decide)
  have u4 : ∀ a, a < 2 ^ 32 → ((nI a).toUInt32 >>> ((4 : Int32).toUInt32 &&& Int32.toUInt32 31)).toInt32 = nI (a / 16) := fun a h => pk_ushrN h 4 4 (by decide)
  have u8 : ∀ a, a < 2 ^ 32 → ((nI a).toUInt32 >>> ((8 : Int32).toUInt32 &&& Int32.toUInt32 31)).toInt32 = nI (a / 256) := fun a h => pk_ushrN h 8 8 (by decide)
  have u16 : ∀ a, a < 2 ^ 32 → ((nI a).toUInt32 >>> ((16 : Int32).toUInt32 &&& Int32.toUInt32 31)).toInt32 = nI (a / 65536) := fun a h => pk_ushrN h 16 16 (by decide)
  have hh : n / 65536 < 16 := by omega
  have hm : n / 256 % 256 < 256 := by omega
  have hl : n % 256 < 256 := by omega
  have hs : n = 65536 * (n / 65536) + 256 * (n / 256 % 256) + n % 256 := by omega
  have e1 : nI n - (nI (n / 2) &&& 1431655765) = nI (65536 * y1 (n / 65536) + 256 * y1 (n / 256 % 256) + y1 (n % 256)) := by
    rw [show (1431655765 : Int32) = nI 1431655765 from rfl, andI, pk_sub (Nat.le_trans Nat.and_le_left (by omega)), ← st1N hh hm hl, ← hs]
  have b1 : y1 (n / 65536) < 16 := y1_lt _ hh
  have b2 : y1 (n / 256 % 256) < 256 := by unfold y1; omega
  have b3 : y1 (n % 256) < 256 := by unfold y1; omega
  obtain ⟨p1, p2, p3⟩ := y12 (n / 65536) (by omega)
  obtain ⟨p4, p5, p6⟩ := y12 (n / 256 % 256) hm
  obtain ⟨p7, p8, p9⟩ := y12 (n % 256) hl
  have e2 : (nI (65536 * y1 (n / 65536) + 256 * y1 (n / 256 % 256) + y1 (n % 256)) &&& 858993459) + (nI ((65536 * y1 (n / 65536) + 256 * y1 (n / 256 % 256) + y1 (n % 256)) / 4) &&& 858993459) = nI (65536 * y2 (y1 (n / 65536)) + 256 * y2 (y1 (n / 256 % 256)) + y2 (y1 (n % 256))) := by
    rw [show (858993459 : Int32) = nI 858993459 from rfl, andI, andI, nI_add, st2N b1 b2 b3]
  generalize hA : y2 (y1 (n / 65536)) = A at p1 p2 p3 e2
  generalize hB : y2 (y1 (n / 256 % 256)) = B at p4 p5 p6 e2
  generalize hC : y2 (y1 (n % 256)) = C at p7 p8 p9 e2
  have e3 : (nI (65536 * A + 256 * B + C) + nI ((65536 * A + 256 * B + C) / 16)) &&& 252645135 = nI (65536 * (A / 16 + A % 16) + 256 * (B / 16 + B % 16) + (C / 16 + C % 16)) := by
    have := st3N p1 p2 p4 p5 p7 p8
    rw [show 16 * (A / 16) + A % 16 = A by omega, show 16 * (B / 16) + B % 16 = B by omega, show 16 * (C / 16) + C % 16 = C by omega] at this
    rw [show (252645135 : Int32) = nI 252645135 from rfl, nI_add, andI, this]
  rw [p3, p6, p9] at e3
  have c1 : pc (n / 65536) ≤ 8 := by omega
  have c2 : pc (n / 256 % 256) ≤ 8 := by omega
  have c3 : pc (n % 256) ≤ 8 := by omega
  unfold s_J6_bitCount_0f7a4
  rw [u1 n (by omega), e1, u2 _ (by omega), e2, u4 _ (by omega), e3, u8 _ (by omega), nI_add, u16 _ (by omega), nI_add, show (63 : Int32) = nI 63 from rfl, andI, st4N c1 c2 c3]
theorem s31 : ∀ n, n < 32 → ((nI n &&& 31).toBitVec.smod 32).toNat = n := by decide +kernel
theorem bit_n {n k : Nat} (hn : n < 2147483648) (hk : k < 32) : (nI n >>> (nI k &&& 31)) &&& 1 = nI (n / 2 ^ k % 2) := by
  rw [pk_shrN hn _ k (s31 k hk), show (1 : Int32) = nI 1 from rfl, andI, Nat.and_one_is_mod]
theorem one_n {k : Nat} (hk : k < 31) : (1 : Int32) <<< (nI k &&& 31) = nI (2 ^ k) := by
  have : 2 ^ k < 2 ^ 31 := Nat.pow_lt_pow_right (by decide) hk
  rw [show (1 : Int32) = nI 1 from rfl, pk_shlN _ k (s31 k (by omega)) (by omega), Nat.one_mul]
theorem orI (a b : Nat) : nI a ||| nI b = nI (a ||| b) := by
  apply Int32.toBitVec_inj.mp
  rw [Int32.toBitVec_or]
  show BitVec.ofNat 32 a ||| BitVec.ofNat 32 b = BitVec.ofNat 32 (a ||| b)
  apply BitVec.eq_of_toNat_eq
  rw [BitVec.toNat_or, BitVec.toNat_ofNat, BitVec.toNat_ofNat, BitVec.toNat_ofNat, Nat.or_mod_two_pow]
/-- a set as a number -/
def sN (f : Nat → Int32) (x : Int32) : Nat → Nat
  | 0 => 0
  | k + 1 => if f k = x then sN f x k + 2 ^ k else sN f x k
theorem sN_lt (f : Nat → Int32) (x : Int32) : ∀ k, sN f x k < 2 ^ k
  | 0 => by
    show 0 < 2 ^ 0
    decide
  | k + 1 => by
    have := sN_lt f x k
    rw [sN, Nat.pow_succ]
    split <;> omega
theorem setF_n (f : Nat → Int32) (x : Int32) : ∀ k, k ≤ 20 → setF f x k = nI (sN f x k)
  | 0, _ => rfl
  | k + 1, h => by
    have := sN_lt f x k
    rw [setF, sN, setF_n f x k (by omega)]
    split
    · have q := Nat.two_pow_add_eq_or_of_lt this 1
      rw [Nat.mul_one] at q
      rw [one_n (by omega), orI, Nat.or_comm, ← q, Nat.add_comm]
    · rfl
theorem setF_cong {f g : Nat → Int32} {x : Int32} : ∀ k, (∀ i, i < k → f i = g i) → setF f x k = setF g x k
  | 0, _ => rfl
  | k + 1, h => by rw [setF, setF, setF_cong k (fun i hi => h i (by omega)), h k (by omega)]
def pcN (n : Nat) : Nat → Nat
  | 0 => 0
  | k + 1 => pcN n k + n / 2 ^ k % 2
theorem onF_n {n : Nat} (hn : n < 2147483648) : ∀ k, k ≤ 20 → onF (nI n) k = nI (pcN n k)
  | 0, _ => rfl
  | k + 1, h => by rw [onF, pcN, onF_n hn k (by omega), bit_n hn (by omega), nI_add]
theorem pcN_20 {n : Nat} (hn : n < 1048576) : pcN n 20 = pc (n / 65536) + pc (n / 256 % 256) + pc (n % 256) := by
  unfold pc
  rw [show n % 256 % 2 = n / 2 ^ 0 % 2 by omega, show n % 256 / 2 % 2 = n / 2 ^ 1 % 2 by omega, show n % 256 / 4 % 2 = n / 2 ^ 2 % 2 by omega, show n % 256 / 8 % 2 = n / 2 ^ 3 % 2 by omega, show n % 256 / 16 % 2 = n / 2 ^ 4 % 2 by omega, show n % 256 / 32 % 2 = n / 2 ^ 5 % 2 by omega, show n % 256 / 64 % 2 = n / 2 ^ 6 % 2 by omega, show n % 256 / 128 % 2 = n / 2 ^ 7 % 2 by omega]
  rw [show n / 256 % 256 % 2 = n / 2 ^ 8 % 2 by omega, show n / 256 % 256 / 2 % 2 = n / 2 ^ 9 % 2 by omega, show n / 256 % 256 / 4 % 2 = n / 2 ^ 10 % 2 by omega, show n / 256 % 256 / 8 % 2 = n / 2 ^ 11 % 2 by omega, show n / 256 % 256 / 16 % 2 = n / 2 ^ 12 % 2 by omega, show n / 256 % 256 / 32 % 2 = n / 2 ^ 13 % 2 by omega, show n / 256 % 256 / 64 % 2 = n / 2 ^ 14 % 2 by omega, show n / 256 % 256 / 128 % 2 = n / 2 ^ 15 % 2 by omega]
  rw [show n / 65536 % 2 = n / 2 ^ 16 % 2 by omega, show n / 65536 / 2 % 2 = n / 2 ^ 17 % 2 by omega, show n / 65536 / 4 % 2 = n / 2 ^ 18 % 2 by omega, show n / 65536 / 8 % 2 = n / 2 ^ 19 % 2 by omega, show n / 65536 / 16 % 2 = 0 by omega, show n / 65536 / 32 % 2 = 0 by omega, show n / 65536 / 64 % 2 = 0 by omega, show n / 65536 / 128 % 2 = 0 by omega]
  simp only [pcN]
  omega
theorem k_bitc {f : Nat → Int32} {x : Int32} {n : Nat} {post : Int32 → Prop} (hn : n ≤ 20) : s_J6_bitCount_0f7a4 (setF f x n) post = post (onF (setF f x n) 20) := by
  have h1 := sN_lt f x n
  have h2 : 2 ^ n ≤ 2 ^ 20 := Nat.pow_le_pow_right (by decide) hn
  rw [setF_n f x n hn, k_bits (by omega), onF_n (by omega) 20 (Nat.le_refl _), pcN_20 (by omega)]
theorem on_pos {f : Nat → Int32} {x : Int32} {n : Nat} (hn : n ≤ 20) : ¬ onF (setF f x n) 20 < 0 := by
  have h1 := sN_lt f x n
  have h2 : 2 ^ n ≤ 2 ^ 20 := Nat.pow_le_pow_right (by decide) hn
  rw [setF_n f x n hn, onF_n (by omega) 20 (Nat.le_refl _)]
  refine n_neg ?_
  have : ∀ k, pcN (sN f x n) k ≤ k := by
    intro k
    induction k with
    | zero => exact Nat.le_refl _
    | succ k ih =>
      rw [pcN]
      omega
  have := this 20
  omega
theorem k_memoSet {v : V} {x : Int32} {ns : Nat} {post : Int32 → V → Prop} (h : v 6 0 = nI ns) (hns : ns ≤ 20) : s_X5_setWhere_12 v x post = post (setF (v 12) x ns) v := by
  have key : ∀ d k, k + d = ns → (∃ n, sl_X5_setWhere_12_5 post x (fun a _ v => post a v) n (setF (v 12) x k) (nI k) v) = post (setF (v 12) x ns) v := by
    intro d
    induction d with
    | zero =>
      intro k hk
      obtain rfl : k = ns := by omega
      exact xo_X5_setWhere_12_5 (fun rec => b_t (show v 6 0 ≤ nI k by rw [h]; exact Int32.le_refl _))
    | succ d ih =>
      intro k hk
      refine (xs_X5_setWhere_12_5 (fun rec => ?_)).trans (ih (k + 1) (by omega))
      unfold sb_X5_setWhere_12_5
      rw [h, b_f (nI_ge (by omega) (by omega)), b_and (vp_in_nI (by omega) (by decide)), tn_nI (by omega), nI_1, setF]
      by_cases hc : v 12 k = x
      · rw [b_t' hc, if_pos hc]
      · rw [b_f' hc, if_neg hc]
  exact key ns 0 (by omega)
theorem k_ownSet {v : V} {x : Int32} {ns : Nat} {post : Int32 → V → Prop} (h : v 6 0 = nI ns) (hns : ns ≤ 20) : s_X5_setWhere_10 v x post = post (setF (v 10) x ns) v := by
  have key : ∀ d k, k + d = ns → (∃ n, sl_X5_setWhere_10_5 post x (fun a _ v => post a v) n (setF (v 10) x k) (nI k) v) = post (setF (v 10) x ns) v := by
    intro d
    induction d with
    | zero =>
      intro k hk
      obtain rfl : k = ns := by omega
      exact xo_X5_setWhere_10_5 (fun rec => b_t (show v 6 0 ≤ nI k by rw [h]; exact Int32.le_refl _))
    | succ d ih =>
      intro k hk
      refine (xs_X5_setWhere_10_5 (fun rec => ?_)).trans (ih (k + 1) (by omega))
      unfold sb_X5_setWhere_10_5
      rw [h, b_f (nI_ge (by omega) (by omega)), b_and (vp_in_nI (by omega) (by decide)), tn_nI (by omega), nI_1, setF]
      by_cases hc : v 10 k = x
      · rw [b_t' hc, if_pos hc]
      · rw [b_f' hc, if_neg hc]
  exact key ns 0 (by omega)
theorem k_holdSet {v : V} {x : Int32} {ns : Nat} {post : Int32 → V → Prop} (h : v 6 0 = nI ns) (hns : ns ≤ 20) : s_X5_setWhere_11 v x post = post (setF (v 11) x ns) v := by
  have key : ∀ d k, k + d = ns → (∃ n, sl_X5_setWhere_11_5 post x (fun a _ v => post a v) n (setF (v 11) x k) (nI k) v) = post (setF (v 11) x ns) v := by
    intro d
    induction d with
    | zero =>
      intro k hk
      obtain rfl : k = ns := by omega
      exact xo_X5_setWhere_11_5 (fun rec => b_t (show v 6 0 ≤ nI k by rw [h]; exact Int32.le_refl _))
    | succ d ih =>
      intro k hk
      refine (xs_X5_setWhere_11_5 (fun rec => ?_)).trans (ih (k + 1) (by omega))
      unfold sb_X5_setWhere_11_5
      rw [h, b_f (nI_ge (by omega) (by omega)), b_and (vp_in_nI (by omega) (by decide)), tn_nI (by omega), nI_1, setF]
      by_cases hc : v 11 k = x
      · rw [b_t' hc, if_pos hc]
      · rw [b_f' hc, if_neg hc]
  exact key ns 0 (by omega)
