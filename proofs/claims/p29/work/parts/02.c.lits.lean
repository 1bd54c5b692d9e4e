/-! LITERALS: rows over the text constants, and contracts that answer one -/
/-- a contract of a method that answers a literal -/
def KL (l : Launch) (E : EE) (y : MethodName) (ws : List Cond) (rm : Room) (av : List Value) (w0 : va_W) (post : Nat → Prop) : Prop :=
  ∀ sz : Nat, Met l y ws rm (va_Pc av (preW E w0 sz)) (va_Qr (S := Nat) post (fun u a t => a = E.2.2.2.2.1 u ∧ va_P E.1 vwCl w0 t.heap ∧ va_D (va_A w0 sz) w0) (va_A w0 sz)) 0 0 (va_A w0 sz)
abbrev qL (E : EE) (A : Nat → Prop) (w0 : va_W) (post : Nat → Prop) (below : List Frame) (args : Array Value) (s : State) : State → Prop :=
  MQ below (va_Qr (S := Nat) post (fun u a t => a = E.2.2.2.2.1 u ∧ va_P E.1 vwCl w0 t.heap ∧ va_D A w0) A) args s 0 0 A
section FRL
variable {p : Program} {l : Launch} {e : Env} {R : Room} {s : State} {m : MethodId} {args : Array Value} {below : List Frame} {meth : Method} {c : Code} {H : Heap} {locs : List Loc} {cells slots : Nat} {Q : State → Prop}
variable {E : EE} {A : Nat → Prop} {cc : ByteArray} {nL : Nat} {own : String} {Ts : List Cond} {ret : Option FieldType} {pc : Nat} {ls : Array Slot} {rest st0 : List Value} {ws ws' : va_W}
set_option maxHeartbeats 1000000 in
theorem KL.go {y : MethodName} {tw tw' : List Cond} {rm : Room} {av : List Value} {w0 : va_W} {post : Nat → Prop} {maxL : Nat} (hy : plainName y.cls = true) (hw : tw = Cond.code y cc maxL ret :: tw') (hlen : (lg_sl av).length ≤ maxL) (hown : y.cls = own)
    (body : ∀ (p : Program) (e : Env) (s : State) (m : MethodId) (below : List Frame) (meth : Method) (c : Code) (A : Nat → Prop) (ls : Array Slot), Cx E p s m av.toArray meth c A cc maxL own tw ret → mw E A s.heap s.heap [] w0 → lv_has ls maxL (lv_args 0 av) →
      W p l e rm s m av.toArray below meth c s.heap [] 0 0 (qL E A w0 post below av.toArray s) (F0 m 0 ls [])) : KL l E y tw rm av w0 post := by
  intro sz
  refine Met.ofW (cc := cc) (maxL := maxL) (ret := ret) hy hw ?_
  intro p e s m args below meth c s₁ B hml hv
  obtain ⟨rfl, hsz, hP, hK, hD0, hN, hLR, hL⟩ := hv
  subst hsz
  have hts := atoms_spec (ws := tw) B.pre
  have hown' : s.vm.findClass own = some m.cls := by rw [← hown]; exact findClass_of_methodNamed B.named
  have hD := hD0.self (sz := s.heap.size)
  have hl := lv_entry av hlen
  rw [lg_entry_eq]
  have hA : ∀ q : Nat, s.heap.size ≤ q → va_A w0 s.heap.size q := fun q h => Or.inr h
  exact body p e s m below meth c (va_A w0 s.heap.size) _ ⟨B.exec, B.bytes, hml, hown', hts, hK, B.returns, B.notSynchronized, hA, hN, hLR, hL⟩ ⟨hP, hD, va_S.rf⟩ hl
theorem x_retL {post : Nat → Prop} {w0 : va_W} {n : String} (C0 : Cx E p s m args meth c A cc nL own Ts (some (.object n))) (u : Nat) (hw : mw E A s.heap H locs w0) (hp : post u) (hdg : decode cc pc = .ok (.areturn, 1)) :
    W p l e R s m args below meth c H locs 0 0 (qL E A w0 post below args s) (F0 m pc ls [.ref (E.2.2.2.2.1 u)]) := by
  obtain ⟨hx, hb, -, -, -, -, hr, hlocks, -⟩ := C0
  exact W.aret (v := .ref (E.2.2.2.2.1 u)) hx hb hr (Or.inl ⟨_, rfl⟩) (Or.inr ⟨_, rfl⟩) (fun t ht _ => ⟨⟨u, _, rfl, hp, rfl, by rw [ht]; exact hw.1, hw.2.1⟩, hw.2.2.F ht⟩) hw.2.2.2.2 hdg
theorem x_lits (C0 : Cx E p s m args meth c A cc nL own Ts ret) {u : Nat} (hu : u < 7) : va_O "java/lang/String" (E.2.2.2.2.1 u) A s s.heap ∧ va_OF "java/lang/String" "coder" "B" (.int 0) (E.2.2.2.2.1 u) A s s.heap ∧ va_OF "java/lang/String" "value" "[B" (.ref (E.2.2.2.2.2 u)) (E.2.2.2.2.1 u) A s s.heap ∧ va_T .byte (E.2.2.2.2.2 u) (litLen.getD u 0) (fun j => .int ((litByt.getD u []).getD j 0)) A s s.heap :=
  C0.2.2.2.2.2.2.2.2.2.2.2.1.1 u hu
theorem x_litv {index : Nat} (C0 : Cx E p s m args meth c A cc nL own Ts ret) (hw : mw E A s.heap H locs ws) {u : Nat} (hu : u < 7) (i : Nat) (hl : Ts[i]? = some (Cond.fieldLink own index "java/lang/String" "value" "[B")) (hdg : decode cc pc = .ok (.getfield index, 3))
    (kk : W p l e R s m args below meth c H locs cells slots Q (F0 m (pc + 3) ls (.ref (E.2.2.2.2.2 u) :: rest))) : W p l e R s m args below meth c H locs cells slots Q (F0 m pc ls (.ref (E.2.2.2.2.1 u) :: rest)) :=
  vk_getf C0.1 C0.2.1 (x_lits C0 hu).2.2.1 hw.2.2 C0.2.2.2.1 (C0.2.2.2.2.1 _ (List.mem_of_getElem? hl)) (fun _ h => h) hdg kk
theorem x_litc {index : Nat} (C0 : Cx E p s m args meth c A cc nL own Ts ret) (hw : mw E A s.heap H locs ws) {u : Nat} (hu : u < 7) (i : Nat) (hl : Ts[i]? = some (Cond.fieldLink own index "java/lang/String" "coder" "B")) (hdg : decode cc pc = .ok (.getfield index, 3))
    (kk : W p l e R s m args below meth c H locs cells slots Q (F0 m (pc + 3) ls (.int 0 :: rest))) : W p l e R s m args below meth c H locs cells slots Q (F0 m pc ls (.ref (E.2.2.2.2.1 u) :: rest)) :=
  vk_getf C0.1 C0.2.1 (x_lits C0 hu).2.1 hw.2.2 C0.2.2.2.1 (C0.2.2.2.2.1 _ (List.mem_of_getElem? hl)) (fun _ h => h) hdg kk
theorem x_litlen (C0 : Cx E p s m args meth c A cc nL own Ts ret) (hw : mw E A s.heap H locs ws) {u : Nat} (hu : u < 7) (hdg : decode cc pc = .ok (.arraylength, 1))
    (kk : W p l e R s m args below meth c H locs cells slots Q (F0 m (pc + 1) ls (.int (nI (litLen.getD u 0)) :: rest))) : W p l e R s m args below meth c H locs cells slots Q (F0 m pc ls (.ref (E.2.2.2.2.2 u) :: rest)) :=
  va_tlen C0.1 C0.2.1 (x_lits C0 hu).2.2.2 hw.2.2 rfl hdg kk
theorem x_litald {i : Int32} (C0 : Cx E p s m args meth c A cc nL own Ts ret) (hw : mw E A s.heap H locs ws) {u : Nat} (hu : u < 7) (hi : vp_in i (litLen.getD u 0)) (hdg : decode cc pc = .ok (.baload, 1))
    (kk : W p l e R s m args below meth c H locs cells slots Q (F0 m (pc + 1) ls (.int ((litByt.getD u []).getD (tn i) 0) :: rest))) : W p l e R s m args below meth c H locs cells slots Q (F0 m pc ls (.int i :: .ref (E.2.2.2.2.2 u) :: rest)) :=
  va_tb C0.1 C0.2.1 (x_lits C0 hu).2.2.2 hw.2.2 hi rfl hdg kk
theorem x_gsC {index : Nat} (C0 : Cx E p s m args meth c A cc nL own Ts ret) (hw : mw E A s.heap H locs ws) (i : Nat) (hl : Ts[i]? = some (Cond.fieldLink own index "java/lang/String" "COMPACT_STRINGS" "Z")) (hdg : decode cc pc = .ok (.getstatic index, 3))
    (kk : W p l e R s m args below meth c H locs cells slots Q (F0 m (pc + 3) ls (.int 1 :: rest))) : W p l e R s m args below meth c H locs cells slots Q (F0 m pc ls rest) :=
  va_gets C0.1 C0.2.1 C0.2.2.2.2.2.2.2.2.2.2.2.2.1 hw.2.2 C0.2.2.2.1 (C0.2.2.2.2.1 _ (List.mem_of_getElem? hl)) (fun _ h => h) hdg kk
theorem x_gsF {index : Nat} (C0 : Cx E p s m args meth c A cc nL own Ts ret) (hw : mw E A s.heap H locs ws) (i : Nat) (hl : Ts[i]? = some (Cond.fieldLink own index "jdk/internal/util/Preconditions" "SIOOBE_FORMATTER" "Ljava/util/function/BiFunction;")) (hdg : decode cc pc = .ok (.getstatic index, 3))
    (kn : W p l e R s m args below meth c H locs cells slots Q (F0 m (pc + 3) ls (.null :: rest))) (kr : ∀ t : Nat, W p l e R s m args below meth c H locs cells slots Q (F0 m (pc + 3) ls (.ref t :: rest))) : W p l e R s m args below meth c H locs cells slots Q (F0 m pc ls rest) := by
  rcases C0.2.2.2.2.2.2.2.2.2.2.2.2.2.1 with hZ | ⟨t, hZ⟩
  · exact va_gets C0.1 C0.2.1 hZ hw.2.2 C0.2.2.2.1 (C0.2.2.2.2.1 _ (List.mem_of_getElem? hl)) (fun _ h => h) hdg kn
  · exact va_gets C0.1 C0.2.1 hZ hw.2.2 C0.2.2.2.1 (C0.2.2.2.2.1 _ (List.mem_of_getElem? hl)) (fun _ h => h) hdg (kr t)
theorem x_ldcS {index : Nat} (C0 : Cx E p s m args meth c A cc nL RX4 Ts ret) (u : Nat) (hu : u < 7) (hix : litIx.getD u 0 = index) (hdg : decode cc pc = .ok (.ldc index, 2))
    (k : W p l e R s m args below meth c H locs cells slots Q (F0 m (pc + 2) ls (.ref (E.2.2.2.2.1 u) :: rest))) : W p l e R s m args below meth c H locs cells slots Q (F0 m pc ls rest) := by
  subst hix
  exact va_ldcS C0.1 C0.2.1 C0.2.2.2.1 (C0.2.2.2.2.2.2.2.2.2.2.1 u hu) hdg k
section RUNL
variable {yc : MethodName} {wsc wsc' : List Cond} {rmc : Room} {w0 F : va_W} {Qc : Nat → Array Value → State → Outcome → State → Prop} {b : Nat} {As : List Value} {C : String} {T : u_T} {N index maxL n : Nat} {bytes : ByteArray} {retc : Option FieldType}
theorem x_cSv {S : Type} {post : S → Prop} {w1 : S → va_W} (C0 : Cx E p s m args meth c A cc nL own Ts ret) (hw : mw E A s.heap H locs ws) (hp : ws.Perm (w0 ++ F)) (hls : ls.size = nL)
    (cal : KV l E yc wsc rmc As w0 post w1) (n : Nat) (hT : GoodIn Ts (va_wsS own index yc wsc)) (hcode : wsc = Cond.code yc bytes maxL retc :: wsc') (hrc : rmc.cells = 0 ∧ rmc.slots = 0)
    (hd : yc.cls ≠ "java/lang/invoke/MethodHandle" ∧ yc.cls ≠ "java/lang/invoke/VarHandle" ∧ (parseMethodDescriptor yc.desc).map (fun d => d.parameters.length) = some n) (hR : rmc.frames + 1 ≤ R.frames ∧ 8 + (maxL + 11) + rmc.locals ≤ R.locals)
    (hn : As.length = n) (hst : st0 = As.reverse ++ rest) (hcat : (rest.map fun v => v.category).sum ≤ 8) (hdg : decode cc pc = .ok (.invokestatic index, 3)) (hf : cells ≤ R.cells ∧ slots ≤ R.slots)
    (kk : ∀ (u : S) (H1 : Heap) (locs1 : List Loc), post u → mw E A s.heap H1 locs1 (w1 u ++ F) → W p l e R s m args below meth c H1 locs1 cells slots Q (F0 m (pc + 3) ls rest)) : W p l e R s m args below meth c H locs cells slots Q (F0 m pc ls st0) :=
  x_aftv C0 hw hp (x_runS (Qc := fun sz => va_Qv post (fun u t => va_P E.1 vwCl (w1 u) t.heap ∧ va_D (va_A w0 sz) (w1 u)) (va_A w0 sz)) C0 hw hp hls cal n hT hcode hrc hd hR hn hst hcat hdg hf) kk
/-- a static method that answers a literal -/
theorem x_cSL {post : Nat → Prop} (C0 : Cx E p s m args meth c A cc nL own Ts ret) (hw : mw E A s.heap H locs ws) (hp : ws.Perm (w0 ++ F)) (hls : ls.size = nL)
    (cal : KL l E yc wsc rmc As w0 post) (n : Nat) (hT : GoodIn Ts (va_wsS own index yc wsc)) (hcode : wsc = Cond.code yc bytes maxL retc :: wsc') (hrc : rmc.cells = 0 ∧ rmc.slots = 0)
    (hd : yc.cls ≠ "java/lang/invoke/MethodHandle" ∧ yc.cls ≠ "java/lang/invoke/VarHandle" ∧ (parseMethodDescriptor yc.desc).map (fun d => d.parameters.length) = some n) (hR : rmc.frames + 1 ≤ R.frames ∧ 8 + (maxL + 11) + rmc.locals ≤ R.locals)
    (hn : As.length = n) (hst : st0 = As.reverse ++ rest) (hcat : (rest.map fun v => v.category).sum ≤ 8) (hdg : decode cc pc = .ok (.invokestatic index, 3)) (hf : cells ≤ R.cells ∧ slots ≤ R.slots)
    (kk : ∀ (u : Nat) (H1 : Heap) (locs1 : List Loc), post u → mw E A s.heap H1 locs1 (w0 ++ F) → W p l e R s m args below meth c H1 locs1 cells slots Q (F0 m (pc + 3) ls (.ref (E.2.2.2.2.1 u) :: rest))) : W p l e R s m args below meth c H locs cells slots Q (F0 m pc ls st0) := by
  have hfr := x_freeA C0 hw hp
  refine va_callr (x_runS (Qc := fun sz => va_Qr (S := Nat) post (fun u a t => a = E.2.2.2.2.1 u ∧ va_P E.1 vwCl w0 t.heap ∧ va_D (va_A w0 sz) w0) (va_A w0 sz)) C0 hw hp hls cal n hT hcode hrc hd hR hn hst hcat hdg hf) hw.2.2 (fun q _ h => hfr q h) hfr (fun u a t H1 locs1 ht hvm hpo hB hz hk hS => ?_)
  obtain ⟨rfl, hB1, hB2⟩ := hB
  rw [ht] at hB1
  exact kk u H1 locs1 hpo (x_join C0 hw hp hk hB1 hB2 hS)
/-- a method of a literal -/
theorem x_cVL {S : Type} {post : Int32 → S → Prop} {w1 : S → va_W} (C0 : Cx E p s m args meth c A cc nL own Ts ret) (hw : mw E A s.heap H locs ws) (hp : ws.Perm (w0 ++ F)) (hls : ls.size = nL) {u : Nat} (hu : u < 7)
    (cal : KI l E yc wsc rmc (.ref (E.2.2.2.2.1 u) :: As) w0 post w1) (n : Nat) (hT : GoodIn Ts (wsV own index "java/lang/String" yc wsc)) (hcode : wsc = Cond.code yc bytes maxL retc :: wsc') (hrc : rmc.cells = 0 ∧ rmc.slots = 0)
    (hd : yc.cls = "java/lang/String" ∧ yc.cls ≠ "java/lang/invoke/MethodHandle" ∧ yc.cls ≠ "java/lang/invoke/VarHandle" ∧ (parseMethodDescriptor yc.desc).map (fun d => d.parameters.length) = some n) (hR : rmc.frames + 1 ≤ R.frames ∧ 8 + (maxL + 11) + rmc.locals ≤ R.locals)
    (hn : As.length = n) (hst : st0 = As.reverse ++ .ref (E.2.2.2.2.1 u) :: rest) (hcat : (rest.map fun v => v.category).sum ≤ 8) (hdg : decode cc pc = .ok (.invokevirtual index, 3)) (hf : cells ≤ R.cells ∧ slots ≤ R.slots)
    (kk : ∀ (r : Int32) (u : S) (H1 : Heap) (locs1 : List Loc), post r u → mw E A s.heap H1 locs1 (w1 u ++ F) → W p l e R s m args below meth c H1 locs1 cells slots Q (F0 m (pc + 3) ls (.int r :: rest))) : W p l e R s m args below meth c H locs cells slots Q (F0 m pc ls st0) := by
  obtain ⟨cell, h1, h2, h3, -⟩ := (x_lits C0 hu).1.kept hw.2.2.2.1
  exact x_aft C0 hw hp (va_runV (As := As) (rest := rest) (Qc := va_Qi post (fun u t => va_P E.1 vwCl (w1 u) t.heap ∧ va_D (va_A w0 H.size) (w1 u)) (va_A w0 H.size)) ⟨C0.1, C0.2.1, C0.2.2.1, C0.2.2.2.1, C0.2.2.2.2.1⟩ (cal H.size) (cwV n C0.2.2.2.2.1 hT hcode hrc.1 hrc.2 hd hR) ⟨x_blind, ⟨cell, h1, h2, h3⟩, fun _ hU hW => ⟨rfl, x_pre C0 hw hp hU hW⟩⟩ rfl hn hls hst (lv_room hcat) hdg hf) kk
end RUNL
end FRL
