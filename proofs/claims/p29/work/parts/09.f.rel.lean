/-! PURE 6: the relation between a market of the class and the reference's row -/
theorem sa_1 (w : V) (p : Nat) (S : Nat → Int32) : sa w p S p = S := by
  unfold sa
  rw [beq_t]
  rfl
theorem sa_n {w : V} {p q : Nat} {S : Nat → Int32} (h : q ≠ p) : sa w p S q = w q := by
  unfold sa
  rw [beq_f h]
  rfl
theorem sa_st (w : V) (p i : Nat) (S : Nat → Int32) (x : Int32) : st (sa w p S) p i x = sa w p (upd S i x) := by
  funext q
  by_cases h : q = p
  · subst h
    rw [st1, sa_1, sa_1]
  · rw [st1n h, sa_n h, sa_n h]
theorem sa_self (w : V) (p : Nat) : sa w p (w p) = w := by
  funext q
  by_cases h : q = p
  · subst h
    rw [sa_1]
  · rw [sa_n h]
theorem sa_sa (w : V) (p : Nat) (S T : Nat → Int32) : sa (sa w p S) p T = sa w p T := by
  funext q
  by_cases h : q = p
  · subst h
    rw [sa_1, sa_1]
  · rw [sa_n h, sa_n h, sa_n h]
/-- how many of a row's first n are not 0 -/
def cz (f : Nat → Int32) : Nat → Nat
  | 0 => 0
  | n + 1 => cz f n + (if f n = 0 then 0 else 1)
theorem cz_le (f : Nat → Int32) : ∀ n, cz f n ≤ n
  | 0 => Nat.le_refl _
  | n + 1 => by
    have := cz_le f n
    rw [cz]
    split <;> omega
theorem cz_cong {f g : Nat → Int32} : ∀ n, (∀ i, i < n → f i = g i) → cz f n = cz g n
  | 0, _ => rfl
  | n + 1, h => by rw [cz, cz, cz_cong n (fun i hi => h i (by omega)), h n (by omega)]
theorem cz_upd (f : Nat → Int32) (x : Int32) {i : Nat} : ∀ n, i < n → cz (upd f i x) n + (if f i = 0 then 0 else 1) = cz f n + (if x = 0 then 0 else 1)
  | 0, h => by omega
  | n + 1, h => by
    rw [cz, cz]
    by_cases e : i = n
    · subst e
      rw [u_s, cz_cong (f := upd f i x) (g := f) i (fun j hj => u_n (by omega))]
      omega
    · rw [u_n (show n ≠ i by omega)]
      have := cz_upd f x (i := i) n (by omega)
      omega
theorem cz_free (f : Nat → Int32) : ∀ n, cz f n < n → ∃ i, i < n ∧ f i = 0
  | 0, h => by omega
  | n + 1, h => by
    rw [cz] at h
    by_cases e : f n = 0
    · exact ⟨n, by omega, e⟩
    · rw [if_neg e] at h
      obtain ⟨i, h1, h2⟩ := cz_free f n (by omega)
      exact ⟨i, by omega, h2⟩
theorem cz_full (f : Nat → Int32) : ∀ n, cz f n = n → ∀ i, i < n → ¬ f i = 0
  | 0, _, i, hi => by omega
  | n + 1, h, i, hi => by
    rw [cz] at h
    have h1 := cz_le f n
    by_cases e : f n = 0
    · rw [if_pos e] at h
      omega
    · rw [if_neg e] at h
      by_cases e2 : i = n
      · subst e2
        exact e
      · exact cz_full f n (by omega) i (by omega)
/-- sums of numbers -/
def sm (f : Nat → Nat) : Nat → Nat
  | 0 => 0
  | n + 1 => sm f n + f n
theorem sm_cong {f g : Nat → Nat} : ∀ n, (∀ i, i < n → f i = g i) → sm f n = sm g n
  | 0, _ => rfl
  | n + 1, h => by rw [sm, sm, sm_cong n (fun i hi => h i (by omega)), h n (by omega)]
theorem sm_one {f g : Nat → Nat} {k : Nat} : ∀ n, k < n → (∀ i, i < n → i ≠ k → f i = g i) → sm g n + f k = sm f n + g k
  | 0, h, _ => by omega
  | n + 1, h, e => by
    rw [sm, sm]
    by_cases q : k = n
    · subst q
      rw [sm_cong (f := g) (g := f) k (fun i hi => (e i (by omega) (by omega)).symm)]
      omega
    · have := sm_one (f := f) (g := g) n (by omega) (fun i hi => e i (by omega))
      rw [e n (by omega) (fun z => q z.symm)]
      omega
theorem sm_le {f : Nat → Nat} {c : Nat} : ∀ n, (∀ i, i < n → f i ≤ c) → sm f n ≤ n * c
  | 0, _ => by rw [sm]; omega
  | n + 1, h => by
    have h1 := sm_le n (fun i hi => h i (by omega))
    have h2 := h n (by omega)
    rw [sm, Nat.succ_mul]
    omega
/-- what a stone may have moved -/
def bnd (S : Nat → Int32) (k : Nat) : Nat := 200000 * tn (S (14 + 10 * k + 8)) + tn (S (14 + 10 * k + 7))
def BB (S : Nat → Int32) : Prop := ∀ d, d < 6 → -(sm (bnd S) 20 : Int) ≤ (S (8 + d)).toInt ∧ (S (8 + d)).toInt ≤ (sm (bnd S) 20 : Int)
/-- sums -/
def sI (f : Nat → Int32) : Nat → Int32
  | 0 => 0
  | n + 1 => sI f n + f n
theorem sI_cong {f g : Nat → Int32} : ∀ n, (∀ i, i < n → f i = g i) → sI f n = sI g n
  | 0, _ => rfl
  | n + 1, h => by rw [sI, sI, sI_cong n (fun i hi => h i (by omega)), h n (by omega)]
theorem sI_one {f g : Nat → Int32} {k : Nat} {x : Int32} (hx : g k = f k + x) : ∀ n, k < n → (∀ i, i < n → i ≠ k → f i = g i) → sI g n = sI f n + x
  | 0, h, _ => by omega
  | n + 1, h, e => by
    rw [sI, sI]
    by_cases q : k = n
    · subst q
      rw [hx, sI_cong (f := g) (g := f) k (fun i hi => (e i (by omega) (by omega)).symm), Int32.add_assoc]
    · rw [sI_one hx n (by omega) (fun i hi => e i (by omega)), e n (by omega) (fun z => q z.symm), Int32.add_assoc, Int32.add_comm x, Int32.add_assoc]
def kpS (S : Nat → Int32) (k : Nat) : Nat := tn (S (14 + 10 * k + 8))
def J1 (S : Nat → Int32) : Prop := sI (fun d => S (8 + d)) 6 = sI (fun k => S (14 + 10 * k + 7)) 20
def J2 (S : Nat → Int32) (x : Nat) : Prop := ∃ q, S 4 = nI q ∧ q + x ≤ sm (kpS S) 20
def J3 (S : Nat → Int32) : Prop := ∃ nm t, nm ≤ 10 ∧ t ≤ 2000 ∧ S 2 = nI nm ∧ S 3 = nI t ∧ ∀ m, m < nm → ¬ S (214 + 5 * m + 0) = S (214 + 5 * m + 1) ∧ ∃ x, x ≤ t + 90 ∧ S (214 + 5 * m + 2) = nI x
def BD (S : Nat → Int32) : Prop := BB S ∧ J1 S ∧ J2 S 0 ∧ J3 S
theorem J3_s {S S' : Nat → Int32} (h : J3 S) (h2 : S' 2 = S 2) (h3 : S' 3 = S 3) (hm : ∀ m, m < 10 → S' (214 + 5 * m + 0) = S (214 + 5 * m + 0) ∧ S' (214 + 5 * m + 1) = S (214 + 5 * m + 1) ∧ S' (214 + 5 * m + 2) = S (214 + 5 * m + 2)) : J3 S' := by
  obtain ⟨nm, t, a, b, c, d, e⟩ := h
  refine ⟨nm, t, a, b, h2.trans c, h3.trans d, fun m q => ?_⟩
  obtain ⟨z1, z2, z3⟩ := hm m (by omega)
  rw [z1, z2, z3]
  exact e m q
theorem J2_s {S S' : Nat → Int32} {x : Nat} (h : J2 S x) (h4 : S' 4 = S 4) (hk : ∀ k, k < 20 → S' (14 + 10 * k + 8) = S (14 + 10 * k + 8)) : J2 S' x := by
  obtain ⟨q, a, b⟩ := h
  refine ⟨q, h4.trans a, ?_⟩
  rw [sm_cong (f := kpS S') (g := kpS S) 20 (fun i hi => by unfold kpS; rw [hk i hi])]
  exact b
theorem J2_le {S : Nat → Int32} (h : J2 S 1) : J2 S 0 := by
  obtain ⟨q, a, b⟩ := h
  exact ⟨q, a, by omega⟩
theorem J1_s {S S' : Nat → Int32} (h : J1 S) (hd : ∀ d, d < 6 → S' (8 + d) = S (8 + d)) (hk : ∀ k, k < 20 → S' (14 + 10 * k + 7) = S (14 + 10 * k + 7)) : J1 S' := by
  unfold J1
  rw [sI_cong (f := fun d => S' (8 + d)) (g := fun d => S (8 + d)) 6 hd, sI_cong (f := fun k => S' (14 + 10 * k + 7)) (g := fun k => S (14 + 10 * k + 7)) 20 hk]
  exact h
/-- a stone at home, sold, or out -/
def stH (S : Nat → Int32) (nd nm k : Nat) : Prop := ∃ o c, o < nd ∧ c ≤ nm ∧ S (14 + 10 * k + 3) = nI o ∧ S (14 + 10 * k + 4) = nI o ∧ S (14 + 10 * k + 5) = -1 ∧ S (14 + 10 * k + 7) = 0 ∧ S (14 + 10 * k + 8) = nI c
def stS (S : Nat → Int32) (nm k : Nat) : Prop := ∃ q c, 1 ≤ q ∧ q ≤ 9999 ∧ c ≤ nm ∧ S (14 + 10 * k + 3) = -1 ∧ S (14 + 10 * k + 4) = -1 ∧ S (14 + 10 * k + 5) = -1 ∧ S (14 + 10 * k + 7) = nI q ∧ S (14 + 10 * k + 8) = nI c
def stO (S : Nat → Int32) (nd nm k : Nat) : Prop := ∃ o h m a c, o < nd ∧ h < nd ∧ o ≠ h ∧ m < nm ∧ a ≤ 99890 ∧ c + 1 ≤ nm ∧ S (14 + 10 * k + 3) = nI o ∧ S (14 + 10 * k + 4) = nI h ∧ S (14 + 10 * k + 5) = nI m ∧ S (14 + 10 * k + 6) = nI a ∧ S (14 + 10 * k + 7) = 0 ∧ S (14 + 10 * k + 8) = nI c ∧ S (214 + 5 * m + 0) = nI o ∧ S (214 + 5 * m + 1) = nI h
/-- the same stone -/
def eqK (v : V) (S : Nat → Int32) (k : Nat) : Prop := v 7 k = S (14 + 10 * k + 0) ∧ v 8 k = S (14 + 10 * k + 1) ∧ v 9 k = S (14 + 10 * k + 2) ∧ v 10 k = S (14 + 10 * k + 3) ∧ v 11 k = S (14 + 10 * k + 4) ∧ v 12 k = S (14 + 10 * k + 5) ∧ v 13 k = S (14 + 10 * k + 6) ∧ v 14 k = S (14 + 10 * k + 7) ∧ v 15 k = S (14 + 10 * k + 8)
def Rk (v : V) (S : Nat → Int32) (nd nm k : Nat) : Prop := eqK v S k ∧ okK S k ∧ (stH S nd nm k ∨ stS S nm k ∨ stO S nd nm k)
def R0 (S : Nat → Int32) (k : Nat) : Prop := S (14 + 10 * k + 6) = 0 ∧ S (14 + 10 * k + 7) = 0 ∧ S (14 + 10 * k + 8) = 0
def Rm (v : V) (S : Nat → Int32) (m : Nat) : Prop := v 17 m = S (214 + 5 * m + 0) ∧ v 18 m = S (214 + 5 * m + 1) ∧ v 19 m = S (214 + 5 * m + 2) ∧ v 20 m = S (214 + 5 * m + 3) ∧ v 21 m = S (214 + 5 * m + 4)
def Rg (v : V) (S : Nat → Int32) (nd ns nm t g e l : Nat) : Prop := nd ≤ 6 ∧ ns ≤ 20 ∧ nm ≤ 10 ∧ t ≤ 2000 ∧ g ≤ 30 ∧ e ≤ 100 ∧ v 0 4 = nI nd ∧ S 0 = nI nd ∧ v 6 0 = nI ns ∧ S 1 = nI ns ∧ v 16 0 = nI nm ∧ S 2 = nI nm ∧ v 0 5 = nI t ∧ S 3 = nI t ∧ S 4 = v 0 8 + nI l ∧ S 5 = nI (cz (v 5) 24) ∧ v 0 6 = nI g ∧ S 6 = nI g ∧ v 0 7 = nI e ∧ S 7 = nI e
def Rb (v : V) (S : Nat → Int32) (nd : Nat) : Prop := ∀ d, d < 6 → v 22 d = S (8 + d) ∧ (nd ≤ d → S (8 + d) = 0)
def Rn (v : V) (S : Nat → Int32) (nd ns nm t g e l : Nat) : Prop := Rg v S nd ns nm t g e l ∧ Rb v S nd ∧ (RP v S ∧ okT S) ∧ (∀ k, k < ns → Rk v S nd nm k) ∧ (∀ k, ns ≤ k → k < 20 → R0 S k) ∧ (∀ m, m < nm → Rm v S m) ∧ BD S
def R (v : V) (S : Nat → Int32) : Prop := ∃ nd ns nm t g e, Rn v S nd ns nm t g e 0
