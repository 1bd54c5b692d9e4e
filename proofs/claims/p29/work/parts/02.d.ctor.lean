/-! MAKING: rows for constructors, and their contracts KN -/
def KN (l : Launch) (E : EE) (y : MethodName) (ws : List Cond) (rm : Room) (q : Nat) (w0 : va_W) (mc ms : Nat) {S : Type} (post : S → Prop) (w1 : S → va_W) : Prop :=
  ∀ sz : Nat, Met l y ws rm (va_Pc [.ref q] (preW E w0 sz)) (va_Qv post (fun u t => va_P E.1 vwCl (w1 u) t.heap ∧ va_D (va_A w0 sz) (w1 u)) (va_A w0 sz)) mc ms (va_A w0 sz)
abbrev qN (E : EE) (A : Nat → Prop) (mc ms : Nat) {S : Type} (post : S → Prop) (w1 : S → va_W) (below : List Frame) (args : Array Value) (s : State) : State → Prop :=
  MQ below (va_Qv post (fun u t => va_P E.1 vwCl (w1 u) t.heap ∧ va_D A (w1 u)) A) args s mc ms A
section FRN
variable {p : Program} {l : Launch} {e : Env} {R : Room} {s : State} {m : MethodId} {args : Array Value} {below : List Frame} {meth : Method} {c : Code} {H : Heap} {locs : List Loc} {cells slots : Nat} {Q : State → Prop}
variable {E : EE} {A : Nat → Prop} {cc : ByteArray} {nL : Nat} {own : String} {Ts : List Cond} {ret : Option FieldType} {pc : Nat} {ls : Array Slot} {rest st0 : List Value} {ws ws' : va_W}
set_option maxHeartbeats 1000000 in
theorem KN.go {y : MethodName} {tw tw' : List Cond} {rm : Room} {q : Nat} {w0 : va_W} {mc ms : Nat} {S : Type} {post : S → Prop} {w1 : S → va_W} {maxL : Nat} (hy : plainName y.cls = true) (hyn : y.name = "<init>") (hw : tw = Cond.code y cc maxL ret :: tw') (hlen : (lg_sl [Value.ref q]).length ≤ maxL) (hown : y.cls = own)
    (body : ∀ (p : Program) (e : Env) (s : State) (m : MethodId) (below : List Frame) (meth : Method) (c : Code) (A : Nat → Prop) (ls : Array Slot), meth.name = "<init>" → Cx E p s m [Value.ref q].toArray meth c A cc maxL own tw ret → mw E A s.heap s.heap [] w0 → lv_has ls maxL [(0, .ref q)] →
      W p l e rm s m [Value.ref q].toArray below meth c s.heap [] 0 0 (qN E A mc ms post w1 below [Value.ref q].toArray s) (F0 m 0 ls [])) : KN l E y tw rm q w0 mc ms post w1 := by
  intro sz
  refine Met.ofW (cc := cc) (maxL := maxL) (ret := ret) hy hw ?_
  intro p e s m args below meth c s₁ B hml hv
  obtain ⟨rfl, hsz, hP, hK, hD0, hN, hLR, hL⟩ := hv
  subst hsz
  have hts := atoms_spec (ws := tw) B.pre
  have hown' : s.vm.findClass own = some m.cls := by rw [← hown]; exact findClass_of_methodNamed B.named
  have hin : meth.name = "<init>" := by rw [← hyn]; exact (name_of_methodNamed B.named B.method).1
  have hD := hD0.self (sz := s.heap.size)
  have hl := lv_entry [Value.ref q] hlen
  rw [lg_entry_eq]
  have hA : ∀ q : Nat, s.heap.size ≤ q → va_A w0 s.heap.size q := fun q h => Or.inr h
  exact body p e s m below meth c (va_A w0 s.heap.size) _ hin ⟨B.exec, B.bytes, hml, hown', hts, hK, B.returns, B.notSynchronized, hA, hN, hLR, hL⟩ ⟨hP, hD, va_S.rf⟩ hl
theorem x_retN {mc ms : Nat} {S : Type} {post : S → Prop} {w1 : S → va_W} (C0 : Cx E p s m args meth c A cc nL own Ts none) (u : S) (hw : mw E A s.heap H locs (w1 u)) (hp : post u) (hc : cells ≤ mc) (hs : slots ≤ ms) (hdg : decode cc pc = .ok (.return_, 1)) :
    W p l e R s m args below meth c H locs cells slots (qN E A mc ms post w1 below args s) (F0 m pc ls []) := by
  obtain ⟨hx, hb, -, -, -, -, hr, hlocks, -⟩ := C0
  exact W.widen hc hs (W.vret hx hb hr (fun t ht _ => ⟨⟨u, rfl, hp, by rw [ht]; exact hw.1, hw.2.1⟩, hw.2.2.F ht⟩) hw.2.2.2.2 hdg)
theorem x_obj {index a : Nat} (C0 : Cx E p s m args meth c A cc nL own Ts ret) (hls : ls.size = nL) (i1 i2 i3 : Nat) (h1 : Ts[i1]? = some (.methodLink own index objectInit)) (h2 : Ts[i2]? = some (.instanceMethod objectInit)) (h3 : Ts[i3]? = some (.code objectInit ⟨#[0xb1]⟩ 1 none)) (hf : 1 ≤ R.frames) (hlo : (rest.map fun v => v.category).sum + 12 ≤ R.locals) (hdg : decode cc pc = .ok (.invokespecial index, 3))
    (kk : W p l e R s m args below meth c H locs cells slots Q (F0 m (pc + 3) ls rest)) : W p l e R s m args below meth c H locs cells slots Q (F0 m pc ls (.ref a :: rest)) := by
  obtain ⟨hx, hb, hml, hown, hts, -⟩ := C0
  exact W.objInit hx hb hown (hts _ (List.mem_of_getElem? h1)) (hts _ (List.mem_of_getElem? h2)) (hts _ (List.mem_of_getElem? h3)) rfl (by rw [hml]; exact hls) rfl hdg hf (by show 2 * 0 + _ + 12 ≤ _; omega) (W.eq (g2 := F0 m (pc + 3) ls rest) rfl kk)
theorem x_new {C : String} {T : u_T} {N index : Nat} (C0 : Cx E p s m args meth c A cc nL own Ts ret) (hw : mw E A s.heap H locs ws) (ci : Nat) (hin : ∀ w ∈ u_ws C T N, w ∈ Ts) (hc : vwCl[ci]? = some (C, T, N)) (ty0 : Nat → FieldType) (hty : ∀ k, k < N → parseFieldDescriptor (T k).2.2.1 = some (ty0 k)) (i1 i2 i3 : Nat) (h1 : Ts[i1]? = some (.classLink own index C)) (h2 : Ts[i2]? = some (.instantiable C N)) (h3 : Ts[i3]? = some (.initialized C)) {fs : List Value} (hfs : ∀ j, j < N → defaultValue (ty0 j) = vp_V fs j) (hcells : cells + 1 ≤ R.cells) (hslots : slots + N ≤ R.slots) (hdg : decode cc pc = .ok (.new index, 3))
    (kk : ∀ (q : Nat) (H1 : Heap), mw E A s.heap H1 locs (ws ++ [(q, .inr (ci, fs))]) → W p l e R s m args below meth c H1 locs (cells + 1) (slots + N) Q (F0 m (pc + 3) ls (.ref q :: rest))) : W p l e R s m args below meth c H locs cells slots Q (F0 m pc ls rest) := by
  obtain ⟨hx, hb, hml, hown, hts, hK, -, -, hA, -⟩ := C0
  exact va_new hx hb hts hin ty0 hty hown (hts _ (List.mem_of_getElem? h1)) (hts _ (List.mem_of_getElem? h2)) (hts _ (List.mem_of_getElem? h3)) hK hw.1 hw.2.1 hw.2.2 hA hc hfs hcells hslots hdg (fun q H1 a1 a2 a3 => kk q H1 ⟨a1, a2, a3⟩)
theorem x_newi {n : Int32} {N : Nat} (C0 : Cx E p s m args meth c A cc nL own Ts ret) (hw : mw E A s.heap H locs ws) (i : Nat) (hl : Ts[i]? = some (Cond.arrayClass .int)) (hn : n = nI N) (hN : Nat.blt N 65536 = true) (hcells : cells + 1 ≤ R.cells) (hslots : slots + N ≤ R.slots) (hdg : decode cc pc = .ok (.newarray .int, 2))
    (kk : ∀ (q : Nat) (H1 : Heap), mw E A s.heap H1 locs (ws ++ [(q, .inl (E.2.1, N, .inl (fun _ => 0)))]) → W p l e R s m args below meth c H1 locs (cells + 1) (slots + N) Q (F0 m (pc + 2) ls (.ref q :: rest))) : W p l e R s m args below meth c H locs cells slots Q (F0 m pc ls (.int n :: rest)) := by
  obtain ⟨hx, hb, hml, hown, hts, hK, -, -, hA, -⟩ := C0
  have hN' : N < 65536 := Nat.blt_eq.mp hN
  subst hn
  refine va_newa (atype := .int) (ty := .int) (a0 := (N, .inl (fun _ => 0))) hx hb (hts _ (List.mem_of_getElem? hl)) rfl hK hw.1 hw.2.1 hw.2.2 hA (fun cA => rfl) (nI_pos (by omega)) (nI_clamp (by omega)) (by show N * 4 ≤ 536870912; omega) hcells hslots hdg (fun q cA H1 hK1 a1 a2 a3 => ?_)
  have e1 : s.vm.findClass ("[" ++ FieldType.int.toString) = some cA := (hK1.2 3 (cA, .int) rfl).2
  have e2 : s.vm.findClass ("[" ++ FieldType.int.toString) = some E.2.1 := (hK.2 0 (E.2.1, .int) rfl).2
  have e : cA = E.2.1 := Option.some.inj (e1.symm.trans e2)
  subst e
  exact kk q H1 ⟨a1, a2, a3⟩
theorem x_newc {n : Int32} {N : Nat} (C0 : Cx E p s m args meth c A cc nL own Ts ret) (hw : mw E A s.heap H locs ws) (i : Nat) (hl : Ts[i]? = some (Cond.arrayClass .char)) (hn : n = nI N) (hN : Nat.blt N 65536 = true) (hcells : cells + 1 ≤ R.cells) (hslots : slots + N ≤ R.slots) (hdg : decode cc pc = .ok (.newarray .char, 2))
    (kk : ∀ (q : Nat) (H1 : Heap), mw E A s.heap H1 locs (ws ++ [(q, .inl (E.2.2.1, N, .inl (fun _ => 0)))]) → W p l e R s m args below meth c H1 locs (cells + 1) (slots + N) Q (F0 m (pc + 2) ls (.ref q :: rest))) : W p l e R s m args below meth c H locs cells slots Q (F0 m pc ls (.int n :: rest)) := by
  obtain ⟨hx, hb, hml, hown, hts, hK, -, -, hA, -⟩ := C0
  have hN' : N < 65536 := Nat.blt_eq.mp hN
  subst hn
  refine va_newa (atype := .char) (ty := .char) (a0 := (N, .inl (fun _ => 0))) hx hb (hts _ (List.mem_of_getElem? hl)) rfl hK hw.1 hw.2.1 hw.2.2 hA (fun cA => rfl) (nI_pos (by omega)) (nI_clamp (by omega)) (by show N * 2 ≤ 536870912; omega) hcells hslots hdg (fun q cA H1 hK1 a1 a2 a3 => ?_)
  have e1 : s.vm.findClass ("[" ++ FieldType.char.toString) = some cA := (hK1.2 3 (cA, .char) rfl).2
  have e2 : s.vm.findClass ("[" ++ FieldType.char.toString) = some E.2.2.1 := (hK.2 1 (E.2.2.1, .char) rfl).2
  have e : cA = E.2.2.1 := Option.some.inj (e1.symm.trans e2)
  subst e
  exact kk q H1 ⟨a1, a2, a3⟩
theorem x_newq {n : Int32} {N index : Nat} (C0 : Cx E p s m args meth c A cc nL own Ts ret) (hw : mw E A s.heap H locs ws) (i : Nat) (hl : Ts[i]? = some (Cond.classLink own index "GemMemos$Market")) (hn : n = nI N) (hN : Nat.blt N 65536 = true) (hcells : cells + 1 ≤ R.cells) (hslots : slots + N ≤ R.slots) (hdg : decode cc pc = .ok (.anewarray index, 3))
    (kk : ∀ (q : Nat) (H1 : Heap), mw E A s.heap H1 locs (ws ++ [(q, .inl (E.2.2.2.1, N, .inr (.inr (.inr (.inr (fun _ => none))))))]) → W p l e R s m args below meth c H1 locs (cells + 1) (slots + N) Q (F0 m (pc + 3) ls (.ref q :: rest))) : W p l e R s m args below meth c H locs cells slots Q (F0 m pc ls (.int n :: rest)) := by
  obtain ⟨hx, hb, hml, hown, hts, hK, -, -, hA, -, -, hL⟩ := C0
  have hN' : N < 65536 := Nat.blt_eq.mp hN
  subst hn
  refine va_newq (C := "GemMemos$Market") (N' := N) hx hb hown (hts _ (List.mem_of_getElem? hl)) hL.2.2.2 hK hw.1 hw.2.1 hw.2.2 hA (nI_pos (by omega)) (nI_clamp (by omega)) (by omega) hcells hslots hdg (fun q cA H1 hK1 a1 a2 a3 => ?_)
  have e1 : s.vm.findClass ("[" ++ (FieldType.object "GemMemos$Market").toString) = some cA := (hK1.2 3 (cA, .object "GemMemos$Market") rfl).2.choose_spec.choose_spec.2.2.2
  have e2 : s.vm.findClass ("[" ++ (FieldType.object "GemMemos$Market").toString) = some E.2.2.2.1 := (hK.2 2 (E.2.2.2.1, .object "GemMemos$Market") rfl).2.choose_spec.choose_spec.2.2.2
  have e : cA = E.2.2.2.1 := Option.some.inj (e1.symm.trans e2)
  subst e
  exact kk q H1 ⟨a1, a2, a3⟩
theorem x_putF {C : String} {T : u_T} {N index : Nat} (C0 : Cx E p s m args meth c A cc nL own Ts ret) (hin2 : meth.name = "<init>") (hw : mw E A s.heap H locs ws) (ci : Nat) (hin : ∀ w ∈ u_ws C T N, w ∈ Ts) (hc : vwCl[ci]? = some (C, T, N)) (ty0 : Nat → FieldType) (hty : ∀ k, k < N → parseFieldDescriptor (T k).2.2.1 = some (ty0 k)) (hnm : ∀ a, a < N → ∀ b, b < N → a ≠ b → (T a).2.1 ≠ (T b).2.1) (q0 : Nat) {a : Nat} {fs : List Value} (he : ws[q0]? = some (a, .inr (ci, fs))) (k : Nat) (hk : k < N) (i : Nat) (hl : Ts[i]? = some (Cond.fieldLink own index (T k).1 (T k).2.1 (T k).2.2.1)) (hfin : (T k).2.2.2 = true) (hdecl : (T k).1 = own) {v : Value} (hn : narrow (ty0 k) v = v) (hfit : fits (ty0 k) v = true) (hlen : k < fs.length) (hset : ws.set q0 (a, .inr (ci, fs.set k v)) = ws') (hdg : decode cc pc = .ok (.putfield index, 3))
    (kk : ∀ (H1 : Heap) (locs1 : List Loc), mw E A s.heap H1 locs1 ws' → W p l e R s m args below meth c H1 locs1 cells slots Q (F0 m (pc + 3) ls rest)) : W p l e R s m args below meth c H locs cells slots Q (F0 m pc ls (v :: .ref a :: rest)) := by
  subst hset
  exact va_putF C0.1 C0.2.1 C0.2.2.2.2.1 hin ty0 hty hnm C0.2.2.2.1 C0.2.2.2.2.2.1 hw.1 hw.2.1 hw.2.2 q0 he hc k hk (C0.2.2.2.2.1 _ (List.mem_of_getElem? hl)) (fun _ h => h) hfin hin2 hdecl (hty k hk) hn hfit hlen hdg (fun H1 locs1 h1 h2 h3 => kk H1 locs1 ⟨h1, h2, h3⟩)
theorem x_astq {i : Int32} (C0 : Cx E p s m args meth c A cc nL own Ts ret) (hw : mw E A s.heap H locs ws) (q0 qk : Nat) {a n v : Nat} {vs : List Value} {f : Nat → Option Nat} (ha : ws[q0]? = some (a, .inl (E.2.2.2.1, n, .inr (.inr (.inr (.inr f)))))) (hv : ws[qk]? = some (v, .inr (1, vs))) (hi : vp_in i n) (hset : ws.set q0 (a, .inl (E.2.2.2.1, n, .inr (.inr (.inr (.inr (va_up f (tn i) (some v))))))) = ws') (hdg : decode cc pc = .ok (.aastore, 1))
    (kk : ∀ (H1 : Heap) (locs1 : List Loc), mw E A s.heap H1 locs1 ws' → W p l e R s m args below meth c H1 locs1 cells slots Q (F0 m (pc + 1) ls rest)) : W p l e R s m args below meth c H locs cells slots Q (F0 m pc ls (.ref v :: .int i :: .ref a :: rest)) := by
  subst hset
  exact va_astq (r := (RX1, TX1, 9)) C0.1 C0.2.1 C0.2.2.2.2.2.1 hw.1 hw.2.1 hw.2.2 q0 2 qk 1 ha rfl hv rfl hi hdg (fun H1 locs1 h1 h2 h3 => kk H1 locs1 ⟨h1, h2, h3⟩)
section RUNN
variable {yc : MethodName} {wsc wsc' : List Cond} {rmc : Room} {w0 F : va_W} {b : Nat} {index maxL mc ms : Nat} {bytes : ByteArray} {S : Type} {post : S → Prop} {w1 : S → va_W} {a : Array Value}
theorem x_aftN (C0 : Cx E p s m args meth c A cc nL own Ts ret) (hw : mw E A s.heap H locs ws) (hp : ws.Perm (w0 ++ F))
    (hr : va_Run p l e R s m args below meth c H locs cells slots mc ms (F0 m pc ls st0) rest (va_Qv post (fun u t => va_P E.1 vwCl (w1 u) t.heap ∧ va_D (va_A w0 H.size) (w1 u)) (va_A w0 H.size) a) (va_A w0 H.size))
    (kk : ∀ (u : S) (H1 : Heap) (locs1 : List Loc), post u → mw E A s.heap H1 locs1 (w1 u ++ F) → W p l e R s m args below meth c H1 locs1 (cells + mc) (slots + ms) Q (F0 m (pc + 3) ls rest)) : W p l e R s m args below meth c H locs cells slots Q (F0 m pc ls st0) := by
  have hfr := x_freeA C0 hw hp
  refine va_callv hr hw.2.2 (fun q _ h => hfr q h) hfr (fun u t H1 locs1 ht hvm hpo hB hz hk hS => ?_)
  rw [ht] at hB
  exact kk u H1 locs1 hpo (x_join C0 hw hp hk hB.1 hB.2 hS)
theorem x_cI (C0 : Cx E p s m args meth c A cc nL own Ts ret) (hw : mw E A s.heap H locs ws) (hp : ws.Perm (w0 ++ F)) (hls : ls.size = nL)
    (cal : KN l E yc wsc rmc b w0 mc ms post w1) (hT : GoodIn Ts wsc) (hcode : wsc = Cond.code yc bytes maxL none :: wsc') (hrc : rmc.cells = mc ∧ rmc.slots = ms) (i1 i2 i3 : Nat) (h1 : Ts[i1]? = some (Cond.initialized yc.cls)) (h2 : Ts[i2]? = some (Cond.methodLink own index yc)) (h3 : Ts[i3]? = some (Cond.instanceMethod yc)) (hyn : yc.name = "<init>")
    (hd : yc.cls ≠ "java/lang/invoke/MethodHandle" ∧ yc.cls ≠ "java/lang/invoke/VarHandle" ∧ (parseMethodDescriptor yc.desc).map (fun d => d.parameters.length) = some 0) (hR : rmc.frames + 1 ≤ R.frames ∧ 8 + (maxL + 11) + rmc.locals ≤ R.locals)
    (hst : st0 = .ref b :: rest) (hcat : (rest.map fun v => v.category).sum ≤ 8) (hdg : decode cc pc = .ok (.invokespecial index, 3)) (hf : cells + mc ≤ R.cells ∧ slots + ms ≤ R.slots)
    (kk : ∀ (u : S) (H1 : Heap) (locs1 : List Loc), post u → mw E A s.heap H1 locs1 (w1 u ++ F) → W p l e R s m args below meth c H1 locs1 (cells + mc) (slots + ms) Q (F0 m (pc + 3) ls rest)) : W p l e R s m args below meth c H locs cells slots Q (F0 m pc ls st0) :=
  x_aftN C0 hw hp (va_runI (As := []) (rest := rest) ⟨C0.1, C0.2.1, C0.2.2.1, C0.2.2.2.1, C0.2.2.2.2.1⟩ (cal H.size) (cwI 0 C0.2.2.2.2.1 hT hcode hrc.1 hrc.2 (C0.2.2.2.2.1 _ (List.mem_of_getElem? h1)) (C0.2.2.2.2.1 _ (List.mem_of_getElem? h2)) (C0.2.2.2.2.1 _ (List.mem_of_getElem? h3)) hyn hd hR) ⟨x_blind, fun _ hU hW => ⟨rfl, x_pre C0 hw hp hU hW⟩⟩ rfl rfl hls hst (lv_room hcat) hdg hf) kk
theorem x_cIN {host : String} (C0 : Cx E p s m args meth c A cc nL own Ts ret) (hw : mw E A s.heap H locs ws) (hp : ws.Perm (w0 ++ F)) (hls : ls.size = nL)
    (cal : KN l E yc wsc rmc b w0 mc ms post w1) (hT : GoodIn Ts wsc) (hcode : wsc = Cond.code yc bytes maxL none :: wsc') (hrc : rmc.cells = mc ∧ rmc.slots = ms) (i1 i2 i3 : Nat) (h1 : Ts[i1]? = some (Cond.initialized yc.cls)) (h2 : nestWords[i2]? = some (.methodLinkNest own index yc host)) (h3 : Ts[i3]? = some (Cond.instanceMethod yc)) (hyn : yc.name = "<init>")
    (hd : yc.cls ≠ "java/lang/invoke/MethodHandle" ∧ yc.cls ≠ "java/lang/invoke/VarHandle" ∧ (parseMethodDescriptor yc.desc).map (fun d => d.parameters.length) = some 0) (hR : rmc.frames + 1 ≤ R.frames ∧ 8 + (maxL + 11) + rmc.locals ≤ R.locals)
    (hst : st0 = .ref b :: rest) (hcat : (rest.map fun v => v.category).sum ≤ 8) (hdg : decode cc pc = .ok (.invokespecial index, 3)) (hf : cells + mc ≤ R.cells ∧ slots + ms ≤ R.slots)
    (kk : ∀ (u : S) (H1 : Heap) (locs1 : List Loc), post u → mw E A s.heap H1 locs1 (w1 u ++ F) → W p l e R s m args below meth c H1 locs1 (cells + mc) (slots + ms) Q (F0 m (pc + 3) ls rest)) : W p l e R s m args below meth c H locs cells slots Q (F0 m pc ls st0) :=
  x_aftN C0 hw hp (va_runIN (As := []) (rest := rest) (host := host) ⟨C0.1, C0.2.1, C0.2.2.1, C0.2.2.2.1, C0.2.2.2.2.1⟩ (cal H.size) ⟨va_cnB 0 C0.2.2.2.2.1 hT hcode hrc.1 hrc.2 (C0.2.2.2.2.2.2.2.2.2.1 _ (List.mem_of_getElem? h2)) (C0.2.2.2.2.1 _ (List.mem_of_getElem? h1)) hd hR, hyn, C0.2.2.2.2.1 _ (List.mem_of_getElem? h3)⟩ ⟨x_blind, fun _ hU hW => ⟨rfl, x_pre C0 hw hp hU hW⟩⟩ rfl rfl hls hst (lv_room hcat) hdg hf) kk
end RUNN
end FRN
/-- a fresh market, a fresh reference, a fresh script -/
def iM : V := fun p => bif Nat.beq p 0 then (fun k => bif Nat.beq k 6 then 3 else bif Nat.beq k 7 then 10 else 0) else fun _ => 0
def z0 : V := fun _ _ => 0
def iS : V := fun p => bif Nat.beq p 0 then (fun k => bif Nat.beq k 5 then -1 else 0) else fun _ => 0
def iR : V := fun p => bif Nat.beq p 1 then upd (upd (fun _ => 0) 6 3) 7 10 else fun _ => 0
/-- addresses out of a list -/
def adr (l : List Nat) : Nat → Nat := fun k => l.getD k 0
def c3 (E : EE) (a : Nat → Nat) : va_W := [(a 0, .inr (3, [.ref (a 1), .ref (a 2), .ref (a 3), .ref (a 4)])), (a 1, .inl (E.2.1, 24, .inl (fun _ => 0))), (a 2, .inl (E.2.1, 24, .inl (fun _ => 0))), (a 3, .inl (E.2.1, 24, .inl (fun _ => 0))), (a 4, .inl (E.2.1, 24, .inl (fun _ => 0)))]
def c5 (E : EE) (a : Nat → Nat) : va_W := [(a 0, .inr (5, [.int 0, .ref (a 1), .ref (a 2), .ref (a 3), .ref (a 4), .ref (a 5), .ref (a 6), .ref (a 7), .ref (a 8), .ref (a 9)])), (a 1, .inl (E.2.1, 20, .inl (fun _ => 0))), (a 2, .inl (E.2.1, 20, .inl (fun _ => 0))), (a 3, .inl (E.2.1, 20, .inl (fun _ => 0))), (a 4, .inl (E.2.1, 20, .inl (fun _ => 0))), (a 5, .inl (E.2.1, 20, .inl (fun _ => 0))), (a 6, .inl (E.2.1, 20, .inl (fun _ => 0))), (a 7, .inl (E.2.1, 20, .inl (fun _ => 0))), (a 8, .inl (E.2.1, 20, .inl (fun _ => 0))), (a 9, .inl (E.2.1, 20, .inl (fun _ => 0)))]
def c2 (E : EE) (a : Nat → Nat) : va_W := [(a 0, .inr (2, [.int 0, .ref (a 1), .ref (a 2), .ref (a 3), .ref (a 4), .ref (a 5)])), (a 1, .inl (E.2.1, 10, .inl (fun _ => 0))), (a 2, .inl (E.2.1, 10, .inl (fun _ => 0))), (a 3, .inl (E.2.1, 10, .inl (fun _ => 0))), (a 4, .inl (E.2.1, 10, .inl (fun _ => 0))), (a 5, .inl (E.2.1, 10, .inl (fun _ => 0)))]
