/-! LAW FRAME: contracts that answer a long; the script's cell -/
def KJ (l : Launch) (E : EE) (y : MethodName) (ws : List Cond) (rm : Room) (av : List Value) (w0 : va_W) {S : Type} (post : Int64 → S → Prop) (w1 : S → va_W) : Prop :=
  ∀ sz : Nat, Met l y ws rm (va_Pc av (preW E w0 sz)) (va_Ql post (fun u t => va_P E.1 vwCl (w1 u) t.heap ∧ va_D (va_A w0 sz) (w1 u)) (va_A w0 sz)) 0 0 (va_A w0 sz)
abbrev qJ (E : EE) (A : Nat → Prop) {S : Type} (post : Int64 → S → Prop) (w1 : S → va_W) (below : List Frame) (args : Array Value) (s : State) : State → Prop :=
  MQ below (va_Ql post (fun u t => va_P E.1 vwCl (w1 u) t.heap ∧ va_D A (w1 u)) A) args s 0 0 A
section FRJ
variable {p : Program} {l : Launch} {e : Env} {R : Room} {s : State} {m : MethodId} {args : Array Value} {below : List Frame} {meth : Method} {c : Code} {H : Heap} {locs : List Loc} {cells slots : Nat} {Q : State → Prop}
variable {E : EE} {A : Nat → Prop} {cc : ByteArray} {nL : Nat} {own : String} {Ts : List Cond} {ret : Option FieldType} {pc : Nat} {ls : Array Slot} {rest st0 : List Value} {ws ws' : va_W}
set_option maxHeartbeats 1000000 in
theorem KJ.go {y : MethodName} {tw tw' : List Cond} {rm : Room} {av : List Value} {w0 : va_W} {S : Type} {post : Int64 → S → Prop} {w1 : S → va_W} {maxL : Nat} (hy : plainName y.cls = true) (hw : tw = Cond.code y cc maxL ret :: tw') (hlen : (lg_sl av).length ≤ maxL) (hown : y.cls = own)
    (body : ∀ (p : Program) (e : Env) (s : State) (m : MethodId) (below : List Frame) (meth : Method) (c : Code) (A : Nat → Prop) (ls : Array Slot), Cx E p s m av.toArray meth c A cc maxL own tw ret → mw E A s.heap s.heap [] w0 → lv_has ls maxL (lv_args 0 av) →
      W p l e rm s m av.toArray below meth c s.heap [] 0 0 (qJ E A post w1 below av.toArray s) (F0 m 0 ls [])) : KJ l E y tw rm av w0 post w1 := by
  intro sz
  refine Met.ofW (cc := cc) (maxL := maxL) (ret := ret) hy hw ?_
  intro p e s m args below meth c s₁ B hml hv
  obtain ⟨rfl, hsz, hP, hK, hD0, hN, hLR, hL⟩ := hv
  subst hsz
  have hts := atoms_spec (ws := tw) B.pre
  have hown' : s.vm.findClass own = some m.cls := by rw [← hown]; exact findClass_of_methodNamed B.named
  have hD := hD0.self (sz := s.heap.size)
  have hl := lv_entry av hlen
  rw [lg_entry_eq]
  have hA : ∀ q : Nat, s.heap.size ≤ q → va_A w0 s.heap.size q := fun q h => Or.inr h
  exact body p e s m below meth c (va_A w0 s.heap.size) _ ⟨B.exec, B.bytes, hml, hown', hts, hK, B.returns, B.notSynchronized, hA, hN, hLR, hL⟩ ⟨hP, hD, va_S.rf⟩ hl
theorem x_retj {S : Type} {post : Int64 → S → Prop} {w1 : S → va_W} {r : Int64} (C0 : Cx E p s m args meth c A cc nL own Ts (some .long)) (u : S) (hw : mw E A s.heap H locs (w1 u)) (hp : post r u) (hdg : decode cc pc = .ok (.lreturn, 1)) :
    W p l e R s m args below meth c H locs 0 0 (qJ E A post w1 below args s) (F0 m pc ls [.long r]) := by
  obtain ⟨hx, hb, -, -, -, -, hr, hlocks, -⟩ := C0
  exact W.lret (v := r) hx hb hr (fun t ht _ => ⟨⟨r, u, rfl, hp, by rw [ht]; exact hw.1, hw.2.1⟩, hw.2.2.F ht⟩) hw.2.2.2.2 hdg
theorem x_ldc2 {v : Int64} {index : Nat} (C0 : Cx E p s m args meth c A cc nL own Ts ret) (i : Nat) (hl : Ts[i]? = some (Cond.constantLong own index v)) (hdg : decode cc pc = .ok (.ldc2_w index, 3)) (k : W p l e R s m args below meth c H locs cells slots Q (F0 m (pc + 3) ls (.long v :: rest))) : W p l e R s m args below meth c H locs cells slots Q (F0 m pc ls rest) :=
  lv_ldc2 C0.1 C0.2.1 C0.2.2.2.1 (C0.2.2.2.2.1 _ (List.mem_of_getElem? hl)) hdg k
theorem x_aftj {w0 F : va_W} {S : Type} {post : Int64 → S → Prop} {w1 : S → va_W} {a : Array Value} (C0 : Cx E p s m args meth c A cc nL own Ts ret) (hw : mw E A s.heap H locs ws) (hp : ws.Perm (w0 ++ F))
    (hr : va_Run p l e R s m args below meth c H locs cells slots 0 0 (F0 m pc ls st0) rest (va_Ql post (fun u t => va_P E.1 vwCl (w1 u) t.heap ∧ va_D (va_A w0 H.size) (w1 u)) (va_A w0 H.size) a) (va_A w0 H.size))
    (kk : ∀ (r : Int64) (u : S) (H1 : Heap) (locs1 : List Loc), post r u → mw E A s.heap H1 locs1 (w1 u ++ F) → W p l e R s m args below meth c H1 locs1 cells slots Q (F0 m (pc + 3) ls (.long r :: rest))) : W p l e R s m args below meth c H locs cells slots Q (F0 m pc ls st0) := by
  have hfr := x_freeA C0 hw hp
  refine va_calll hr hw.2.2 (fun q _ h => hfr q h) hfr (fun r u t H1 locs1 ht hvm hpo hB hz hk hS => ?_)
  rw [ht] at hB
  exact kk r u H1 locs1 hpo (x_join C0 hw hp hk hB.1 hB.2 hS)
section RUNJ
variable {yc : MethodName} {wsc wsc' : List Cond} {rmc : Room} {w0 F : va_W} {b : Nat} {As : List Value} {index maxL n : Nat} {bytes : ByteArray} {retc : Option FieldType}
theorem x_cSj {S : Type} {post : Int64 → S → Prop} {w1 : S → va_W} (C0 : Cx E p s m args meth c A cc nL own Ts ret) (hw : mw E A s.heap H locs ws) (hp : ws.Perm (w0 ++ F)) (hls : ls.size = nL)
    (cal : KJ l E yc wsc rmc As w0 post w1) (n : Nat) (hT : GoodIn Ts (va_wsS own index yc wsc)) (hcode : wsc = Cond.code yc bytes maxL retc :: wsc') (hrc : rmc.cells = 0 ∧ rmc.slots = 0)
    (hd : yc.cls ≠ "java/lang/invoke/MethodHandle" ∧ yc.cls ≠ "java/lang/invoke/VarHandle" ∧ (parseMethodDescriptor yc.desc).map (fun d => d.parameters.length) = some n) (hR : rmc.frames + 1 ≤ R.frames ∧ 8 + (maxL + 11) + rmc.locals ≤ R.locals)
    (hn : As.length = n) (hst : st0 = As.reverse ++ rest) (hcat : (rest.map fun v => v.category).sum ≤ 8) (hdg : decode cc pc = .ok (.invokestatic index, 3)) (hf : cells ≤ R.cells ∧ slots ≤ R.slots)
    (kk : ∀ (r : Int64) (u : S) (H1 : Heap) (locs1 : List Loc), post r u → mw E A s.heap H1 locs1 (w1 u ++ F) → W p l e R s m args below meth c H1 locs1 cells slots Q (F0 m (pc + 3) ls (.long r :: rest))) : W p l e R s m args below meth c H locs cells slots Q (F0 m pc ls st0) :=
  x_aftj C0 hw hp (x_runS (Qc := fun sz => va_Ql post (fun u t => va_P E.1 vwCl (w1 u) t.heap ∧ va_D (va_A w0 sz) (w1 u)) (va_A w0 sz)) C0 hw hp hls cal n hT hcode hrc hd hR hn hst hcat hdg hf) kk
end RUNJ
/-- what the law reads of the script at a place -/
def lotV (xs : Nat → Int32) (L : Nat) (k : Int32) : Int32 := if k < nI L then xs (tn k) else (-573577877) * (k + 3019) + 2789
def preX (E : EE) (b L : Nat) (xs : Nat → Int32) (sz : Nat) (U : State) : Prop := preW E [] sz U ∧ va_X b L xs U U.heap ∧ b < sz
theorem x_blindX {av : List Value} {b L : Nat} {xs : Nat → Int32} {sz : Nat} : FrameBlind (va_Pc av (preX E b L xs sz)) := by
  intro a U g mk q
  obtain ⟨q0, q1, q2, q3⟩ := q
  have h := x_blind (av := av) a U g mk ⟨q0, q1⟩
  exact ⟨h.1, h.2, va_X.moved (u := U) (U := U.calling g mk a) (Vm.Alike.refl U.vm) q2, q3⟩
abbrev rmL_lot : Room := { frames := 0, cells := 0, slots := 0, locals := 0 }
set_option maxHeartbeats 1000000 in
theorem c_L_lot (l : Launch) (E : EE) {b L : Nat} {xs : Nat → Int32} {k : Int32} (hk : ¬ k < 0) (hL : L ≤ 260) (sz : Nat) : Met l yL_lot wsL_lot rmL_lot (va_Pc [.ref b, .int k] (preX E b L xs sz)) (va_Qi (S := Unit) (fun r _ => r = lotV xs L k) (fun _ t => va_P E.1 vwCl [] t.heap ∧ va_D (va_A [] sz) []) (va_A [] sz)) 0 0 (va_A [] sz) := by
  refine Met.ofW (cc := cL_lot) (maxL := 2) (ret := some .int) (by decide) rfl ?_
  intro p e s m args below meth c s₁ B hml hv
  obtain ⟨rfl, ⟨hsz, hP, hK, hD0, hN, hLR, hLi⟩, hX, hb0⟩ := hv
  subst hsz
  have hts := atoms_spec (ws := wsL_lot) B.pre
  have hown' : s.vm.findClass RL = some m.cls := findClass_of_methodNamed B.named
  have hD := hD0.self (sz := s.heap.size)
  have hl := lv_entry [Value.ref b, Value.int k] (n := 2) (Nat.le_of_ble_eq_true rfl)
  rw [lg_entry_eq]
  generalize (lg_sl ([Value.ref b, Value.int k]) ++ List.replicate (2 - (lg_sl ([Value.ref b, Value.int k])).length) Slot.unset).toArray = ls at hl ⊢
  have hA : ∀ q : Nat, s.heap.size ≤ q → va_A [] s.heap.size q := fun q h => Or.inr h
  have C0 : Cx E p s m [Value.ref b, Value.int k].toArray meth c (va_A [] s.heap.size) cL_lot 2 RL wsL_lot (some .int) := ⟨B.exec, B.bytes, hml, hown', hts, hK, B.returns, B.notSynchronized, hA, hN, hLR, hLi⟩
  have hw : mw E (va_A [] s.heap.size) s.heap s.heap [] [] := ⟨hP, hD, va_S.rf⟩
  have hbA : ¬ va_A [] s.heap.size b := fun h => by
    rcases wA_mem.mp h with ⟨x, hx, -⟩ | h
    · cases hx
    · omega
  have hx := C0.1
  have hb := C0.2.1
  replace hl : lv_has ls 2 [(0, .ref b), (1, .int k)] := hl
  refine lv_iload_n hx hb dL_lot_0 rfl (lv_at hl 1 rfl) ?_
  refine lv_aload_n hx hb dL_lot_1 rfl (lv_at hl 0 rfl) ?_
  refine va_slen hx hb hX hb0 hbA hw.2.2 dL_lot_2 ?_
  refine lv_icmp_ge (tgt := 12) hx hb dL_lot_3 (by decide) (fun c => ?_) (fun c => ?_)
  · refine x_ldc (v := (-573577877)) C0 1 rfl dL_lot_12 ?_
    refine lv_iload_n hx hb dL_lot_14 rfl (lv_at hl 1 rfl) ?_
    refine lv_sipush (v := 3019) hx hb dL_lot_15 (by decide) ?_
    refine lv_iadd hx hb dL_lot_18 ?_
    refine lv_imul hx hb dL_lot_19 ?_
    refine lv_sipush (v := 2789) hx hb dL_lot_20 (by decide) ?_
    refine lv_iadd hx hb dL_lot_23 ?_
    refine x_ret (S := Unit) (w1 := fun _ => []) C0 () hw ?_ dL_lot_24
    show _ = lotV xs L k
    unfold lotV
    rw [if_neg (show ¬ k < nI L from Int32.not_lt.mpr c)]
  · refine lv_aload_n hx hb dL_lot_6 rfl (lv_at hl 0 rfl) ?_
    refine lv_iload_n hx hb dL_lot_7 rfl (lv_at hl 1 rfl) ?_
    have hlt : k < nI L := Int32.not_le.mp c
    have hin : vp_in k L := by
      rcases pk_ix k (n := L) (by omega) with h | h | ⟨j, hj, rfl⟩
      · exact absurd h hk
      · exact absurd h c
      · exact vp_in_nI hj (by omega)
    refine va_sld hx hb hX hb0 hbA hw.2.2 hin dL_lot_8 ?_
    refine lv_goto (tgt := 24) hx hb dL_lot_9 (by decide) ?_
    refine x_ret (S := Unit) (w1 := fun _ => []) C0 () hw ?_ dL_lot_24
    show _ = lotV xs L k
    unfold lotV
    rw [if_pos hlt]
set_option maxHeartbeats 1000000 in
theorem x_lot {b L index : Nat} {xs : Nat → Int32} {k : Int32} (C0 : Cx E p s m args meth c A cc nL own Ts ret) (hw : mw E A s.heap H locs ws) (hX : va_X b L xs s s.heap) (hbl : b < s.heap.size) (hbA : ¬ A b) (hk : ¬ k < 0) (hL : L ≤ 260) (hls : ls.size = nL) (hT : GoodIn Ts (va_wsS own index yL_lot wsL_lot)) (hR : 0 + 1 ≤ R.frames ∧ 8 + (2 + 11) + 0 ≤ R.locals) (hcat : (rest.map fun v => v.category).sum ≤ 8) (hdg : decode cc pc = .ok (.invokestatic index, 3)) (hf : cells ≤ R.cells ∧ slots ≤ R.slots)
    (kk : ∀ (H1 : Heap) (locs1 : List Loc), mw E A s.heap H1 locs1 ws → W p l e R s m args below meth c H1 locs1 cells slots Q (F0 m (pc + 3) ls (.int (lotV xs L k) :: rest))) : W p l e R s m args below meth c H locs cells slots Q (F0 m pc ls (.int k :: .ref b :: rest)) := by
  have hXH : va_X b L xs s H := hX.kept (hw.2.2.2.1 b hbl hbA)
  refine x_aft (w0 := []) (F := ws) (S := Unit) (post := fun r _ => r = lotV xs L k) (w1 := fun _ => []) (rest := rest) (a := [Value.ref b, Value.int k].toArray) C0 hw (p_non ws) ?_ (fun r u H1 locs1 hr hw1 => ?_)
  · exact va_runS (As := [Value.ref b, Value.int k]) (rest := rest) ⟨C0.1, C0.2.1, C0.2.2.1, C0.2.2.2.1, C0.2.2.2.2.1⟩ (c_L_lot l E hk hL H.size) (va_cwS 2 C0.2.2.2.2.1 hT rfl rfl rfl (by decide +kernel) hR) ⟨x_blindX, fun _ hU hW => ⟨rfl, x_pre C0 hw (p_non ws) hU hW, by rw [hU]; exact hXH.moved hW.alike, Nat.lt_of_lt_of_le hbl hw.2.2.1⟩⟩ rfl rfl hls rfl (lv_room hcat) hdg hf
  · rw [show r = lotV xs L k from hr]
    exact kk H1 locs1 hw1
end FRJ
