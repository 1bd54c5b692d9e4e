/-! THE BEGINNING 2: the frame out of the tables and of what the Statement gives of the start -/
def litPl : List Nat := [9, 17, 26, 36, 47, 60, 73]
def litTm (i : Nat) : Term := .string RX4 (litIx.getD i 0)
def litFl : List Cond := flatC (Jvm.Cond.and given_1 narrow_1)
set_option maxRecDepth 20000 in
theorem lt_ex : ∀ i, i < 7 → litFl[litPl.getD i 0 + 0]? = some (Cond.exactly (litTm i) "java/lang/String") := by decide +kernel
set_option maxRecDepth 20000 in
theorem lt_co : ∀ i, i < 7 → litFl[litPl.getD i 0 + 1]? = some (Cond.eq (.field (litTm i) "java/lang/String" "coder" "B") (.int 0)) := by decide +kernel
set_option maxRecDepth 20000 in
theorem lt_ar : ∀ i, i < 7 → litFl[litPl.getD i 0 + 2]? = some (Cond.arrayOf (.field (litTm i) "java/lang/String" "value" "[B") .byte) := by decide +kernel
set_option maxRecDepth 20000 in
theorem lt_le : ∀ i, i < 7 → litFl[litPl.getD i 0 + 3]? = some (Cond.eq (.length (.field (litTm i) "java/lang/String" "value" "[B")) (.int (Int32.ofNat (litLen.getD i 0)))) := by decide +kernel
set_option maxRecDepth 20000 in
theorem lt_el : ∀ i, i < 7 → ∀ j, j < litLen.getD i 0 → litFl[litPl.getD i 0 + 4 + j]? = some (Cond.eq (.elem (.field (litTm i) "java/lang/String" "value" "[B") (.int (Int32.ofNat j))) (.int ((litByt.getD i []).getD j 0))) := by decide +kernel
set_option maxRecDepth 20000 in
theorem lt_ne : ∀ i, i < 7 → ∀ j, j < 7 → i < j → litFl[litPl.getD j 0 + 4 + litLen.getD j 0 + i]? = some (Cond.not (Cond.eq (litTm i) (litTm j))) := by decide +kernel
set_option maxRecDepth 20000 in
theorem lt_cs : litFl[4]? = some (Cond.eq (.static "java/lang/String" "COMPACT_STRINGS" "Z") (.int 1)) := by decide +kernel
set_option maxRecDepth 20000 in
theorem lt_pf : litFl[5]? = some (Cond.isRef (.static "jdk/internal/util/Preconditions" "SIOOBE_FORMATTER" "Ljava/util/function/BiFunction;")) := by decide +kernel
theorem lt_sm : ∀ i, i < 7 → litLen.getD i 0 < 2 ^ 31 := by decide +kernel
theorem lt_sr : ∀ i, i < 7 → litSr[i]? = some (Cond.stringRef RX4 (litIx.getD i 0) (litTx.getD i "")) := by decide +kernel
/-- the rows of ints and of chars, by their class -/
theorem arr_prim {args : Array Value} {s : State} {ty : FieldType} (hp : ty = .int ∨ ty = .char) (h : (Cond.arrayClass ty).before args s = true) : ∃ cA, ArrOfT s cA ty ∧ va_RA s cA ty := by
  obtain ⟨cA, kA, comp, h1, h2, h3⟩ := Cond.arrayClass_spec h
  refine ⟨cA, fun n z => ⟨fun k h => (by cases h), kA, h2, comp, h3⟩, ?_⟩
  rcases hp with rfl | rfl <;> exact h1
theorem arr_obj {args : Array Value} {s : State} {C : String} (h : (Cond.arrayOver (.object C)).before args s = true) : ∃ cA, ArrOfT s cA (.object C) ∧ va_RA s cA (.object C) := by
  obtain ⟨comp, c, k, h1, h2, h3, h4, h5⟩ := Cond.arrayOver_spec h
  exact ⟨c, fun n z => ⟨fun k h => (by cases h), k, h3, comp, h4⟩, k, comp, h3, h4, h1, h5⟩
theorem cls_all {args : Array Value} {s : State} (hts : ∀ w ∈ lw_tbl, w.before args s = true) : ∃ (dC : Nat → ClassId) (dI : Nat → Nat → Nat), ∀ (k : Nat) (q : vw_C), vwCl[k]? = some q → u_Kn s q.1 q.2.1 q.2.2 (dC k) (dI k) := by
  obtain ⟨c0, iS0, hK0⟩ := u_known (C := RX0) (T := TX0) (N := 3) (n := 3) hts inT_X0 (hts _ inT_n0)
  obtain ⟨c1, iS1, hK1⟩ := u_known (C := RX1) (T := TX1) (N := 9) (n := 9) hts inT_X1 (hts _ inT_n1)
  obtain ⟨c2, iS2, hK2⟩ := u_known (C := RX2) (T := TX2) (N := 6) (n := 6) hts inT_X2 (hts _ inT_n2)
  obtain ⟨c3, iS3, hK3⟩ := u_known (C := RX3) (T := TX3) (N := 4) (n := 4) hts inT_X3 (hts _ inT_n3)
  obtain ⟨c4, iS4, hK4⟩ := u_known (C := RX4) (T := TX4) (N := 8) (n := 8) hts inT_X4 (hts _ inT_n4)
  obtain ⟨c5, iS5, hK5⟩ := u_known (C := RX5) (T := TX5) (N := 10) (n := 10) hts inT_X5 (hts _ inT_n5)
  obtain ⟨c6, iS6, hK6⟩ := u_known (C := RX6) (T := TX6) (N := 7) (n := 7) hts inT_X6 (hts _ inT_n6)
  refine ⟨fun k => if k = 0 then c0 else if k = 1 then c1 else if k = 2 then c2 else if k = 3 then c3 else if k = 4 then c4 else if k = 5 then c5 else c6, fun k => if k = 0 then iS0 else if k = 1 then iS1 else if k = 2 then iS2 else if k = 3 then iS3 else if k = 4 then iS4 else if k = 5 then iS5 else iS6, ?_⟩
  intro k q hq
  match k, hq with
  | 0, hq => cases hq; exact hK0
  | 1, hq => cases hq; exact hK1
  | 2, hq => cases hq; exact hK2
  | 3, hq => cases hq; exact hK3
  | 4, hq => cases hq; exact hK4
  | 5, hq => cases hq; exact hK5
  | 6, hq => cases hq; exact hK6
  | k + 7, hq => simp [vwCl] at hq
theorem lit_all {args : Array Value} {s : State} {A : Nat → Prop} (hg : ∀ w ∈ litFl, w.before args s = true) (hA : ∀ a : Nat, a < s.heap.size → ¬ A a) : ∃ adK adV : Nat → Nat, vk_S 7 litLen litByt adK adV A s s.heap ∧ ∀ i : Nat, i < 7 → (litTm i).eval args s none [] s = some (.ref (adK i)) := by
  refine vk_Sof (tm := litTm) lt_sm (fun i hi => hg _ (List.mem_of_getElem? (lt_ex i hi))) (fun i hi => hg _ (List.mem_of_getElem? (lt_co i hi))) (fun i hi => hg _ (List.mem_of_getElem? (lt_ar i hi))) (fun i hi => hg _ (List.mem_of_getElem? (lt_le i hi))) (fun i hi j hj => hg _ (List.mem_of_getElem? (lt_el i hi j hj))) (fun i j hi hj hne => ?_) hA
  rcases Nat.lt_or_gt_of_ne hne with h | h
  · exact Or.inl (hg _ (List.mem_of_getElem? (lt_ne i hi j hj h)))
  · exact Or.inr (hg _ (List.mem_of_getElem? (lt_ne j hj i hi h)))
theorem law_frame {p : Program} {s : State} {m : MethodId} {meth : Method} {c : Code} {b L : Nat} {xs : Nat → Int32} (C0 : lw_At p s m meth c b L xs) : ∃ E : EE, Cx E p s m #[Value.ref b] meth c (fun q : Nat => s.heap.size ≤ q) cL_law 11 RL wsL_law (some .boolean) := by
  obtain ⟨hx, hb, hr, hml, hown, hts, hX, hbl, hlocks, hgv⟩ := C0
  have hg : ∀ w ∈ litFl, w.before #[Value.ref b] s = true := flat_of_before _ hgv
  have hA : ∀ a : Nat, a < s.heap.size → ¬ (fun q : Nat => s.heap.size ≤ q) a := fun a h => Nat.not_le.mpr h
  obtain ⟨dC, dI, hKc⟩ := cls_all hts
  obtain ⟨cI, hI1, hI2⟩ := arr_prim (ty := .int) (Or.inl rfl) (hts _ inT_ai)
  obtain ⟨cC, hC1, hC2⟩ := arr_prim (ty := .char) (Or.inr rfl) (hts _ inT_ac)
  obtain ⟨cQ, hQ1, hQ2⟩ := arr_obj (C := "GemMemos$Market") (hts _ inT_ao)
  obtain ⟨adK, adV, hS, hev⟩ := lit_all (A := fun q : Nat => s.heap.size ≤ q) hg hA
  refine ⟨((dC, dI), cI, cC, cQ, adK, adV), hx, hb, hml, hown, fun w h => hts w (inT_law w h), ⟨hKc, fun k q hq => ?_⟩, hr, hlocks, fun _ h => h, fun w h => va_Nw.of (nest_on w h) (hts w (inT_nest w h)), fun i hi => ?_, hS, ?_, ?_, ?_⟩
  · match k, hq with
    | 0, hq => cases hq; exact ⟨hI1, hI2⟩
    | 1, hq => cases hq; exact ⟨hC1, hC2⟩
    | 2, hq => cases hq; exact ⟨hQ1, hQ2⟩
    | k + 3, hq => simp [eT] at hq
  · exact vk_R.of (hts _ (inT_lit _ (List.mem_of_getElem? (lt_sr i hi)))) (hev i hi)
  · exact va_Zof (hts _ inT_cs) (hts _ inT_si) (va_eqi (hg _ (List.mem_of_getElem? lt_cs))) hA
  · exact va_Zqof (hts _ inT_pf) (hts _ inT_pi) (hg _ (List.mem_of_getElem? lt_pf)) hA
  · exact va_AO.of (hts _ inT_ao)
