/-! FRAME: worlds as values, one context for a walk, contracts KI / KV, rows over them -/
abbrev V : Type := Nat → Nat → Int32
abbrev tn (x : Int32) : Nat := x.toNatClampNeg
/-- one place of one array changed -/
def st (v : V) (p k : Nat) (x : Int32) : V := fun q => bif Nat.beq q p then upd (v q) k x else v q
/-- one field of one object changed -/
def sc (v : V) (p k : Nat) (x : Int32) : V := fun q => bif Nat.beq q p then (fun j => bif Nat.beq j k then x else v q j) else v q
/-- a whole array changed -/
def sa (v : V) (p : Nat) (f : Nat → Int32) : V := fun q => bif Nat.beq q p then f else v q
def bI (b : Bool) : Int32 := bif b then 1 else 0
theorem beq_t (a : Nat) : Nat.beq a a = true := Nat.beq_refl a
theorem beq_f {a b : Nat} (h : a ≠ b) : Nat.beq a b = false := by
  cases hc : Nat.beq a b with
  | false => rfl
  | true => exact absurd (Nat.eq_of_beq_eq_true hc) h
theorem st_eq (v : V) (p k : Nat) (x : Int32) (q j : Nat) : st v p k x q j = if q = p ∧ j = k then x else v q j := by
  unfold st
  by_cases h : q = p
  · subst h
    rw [beq_t]
    show upd (v q) k x j = _
    unfold upd
    by_cases h2 : j = k <;> simp [h2]
  · rw [beq_f h]
    simp [h]
theorem sc_eqn (v : V) (p k : Nat) (x : Int32) (q j : Nat) : sc v p k x q j = if q = p ∧ j = k then x else v q j := by
  unfold sc
  by_cases h : q = p
  · subst h
    rw [beq_t]
    by_cases h2 : j = k
    · subst h2
      simp
    · simp [h2, beq_f h2]
  · rw [beq_f h]
    simp [h]
theorem sa_eqn (v : V) (p : Nat) (f : Nat → Int32) (q j : Nat) : sa v p f q j = if q = p then f j else v q j := by
  unfold sa
  by_cases h : q = p
  · subst h
    simp
  · rw [beq_f h]
    simp [h]
theorem sc_st (v : V) (p k : Nat) (x : Int32) : sc v p k x = st v p k x := by
  funext q j
  rw [sc_eqn, st_eq]
/-- the kinds: objects' layouts, the rows of int, char, Market; the literals' cells -/
abbrev EE : Type := va_G × ClassId × ClassId × ClassId × (Nat → Nat) × (Nat → Nat)
def eT (E : EE) : List (ClassId × FieldType) := [(E.2.1, .int), (E.2.2.1, .char), (E.2.2.2.1, .object "GemMemos$Market")]
/-! worlds as sets of cells -/
theorem wP_mem {D : va_G} {cl : List vw_C} {ws : va_W} {H : Heap} : va_P D cl ws H ↔ ∀ q ∈ ws, va_at D cl q H := by
  constructor
  · intro h q hq
    obtain ⟨k, hk⟩ := List.getElem?_of_mem hq
    exact h k q hk
  · intro h k q hk
    exact h q (List.mem_of_getElem? hk)
theorem wD_mem {A : Nat → Prop} {ws : va_W} : va_D A ws ↔ ws.Pairwise (fun p q => p.1 ≠ q.1) ∧ ∀ q ∈ ws, A q.1 := by
  constructor
  · intro h
    refine ⟨?_, fun q hq => ?_⟩
    · rw [List.pairwise_iff_getElem]
      intro i j hi hj hij e
      have := h.1 i j ws[i] ws[j] (List.getElem?_eq_getElem hi) (List.getElem?_eq_getElem hj) e
      omega
    · obtain ⟨k, hk⟩ := List.getElem?_of_mem hq
      exact h.2 k q hk
  · intro h
    refine ⟨fun i j p q hi hj e => ?_, fun k q hk => h.2 q (List.mem_of_getElem? hk)⟩
    obtain ⟨hi1, hi2⟩ := List.getElem?_eq_some_iff.mp hi
    obtain ⟨hj1, hj2⟩ := List.getElem?_eq_some_iff.mp hj
    have hp := List.pairwise_iff_getElem.mp h.1
    rcases Nat.lt_trichotomy i j with hl | hl | hl
    · exact absurd (by rw [hi2, hj2]; exact e) (hp i j hi1 hj1 hl)
    · exact hl
    · exact absurd (by rw [hi2, hj2]; exact e.symm) (hp j i hj1 hi1 hl)
theorem wA_mem {ws : va_W} {sz q : Nat} : va_A ws sz q ↔ (∃ x ∈ ws, x.1 = q) ∨ sz ≤ q := by
  constructor
  · rintro (⟨k, e, h⟩ | h)
    · exact Or.inl ⟨(q, e), List.mem_of_getElem? h, rfl⟩
    · exact Or.inr h
  · rintro (⟨x, h, rfl⟩ | h)
    · obtain ⟨k, hk⟩ := List.getElem?_of_mem h
      exact Or.inl ⟨k, x.2, hk⟩
    · exact Or.inr h
/-- the world of a walk: its cells hold ws, they are apart, nothing else has changed -/
def mw (E : EE) (A : Nat → Prop) (H0 H : Heap) (locs : List Loc) (ws : va_W) : Prop := va_P E.1 vwCl ws H ∧ va_D A ws ∧ va_S A H0 H locs
theorem mw.perm {E : EE} {A : Nat → Prop} {H0 H : Heap} {locs : List Loc} {ws ws' : va_W} (h : mw E A H0 H locs ws) (hp : ws.Perm ws') : mw E A H0 H locs ws' := by
  refine ⟨wP_mem.mpr fun q hq => wP_mem.mp h.1 q (hp.mem_iff.mpr hq), wD_mem.mpr ?_, h.2.2⟩
  obtain ⟨h1, h2⟩ := wD_mem.mp h.2.1
  exact ⟨hp.pairwise h1 (fun e => e.symm), fun q hq => h2 q (hp.mem_iff.mpr hq)⟩
/-- the words of the tables about hidden members of nest mates -/
def nestOK (U : State) : Prop := ∀ w ∈ nestWords, va_Nw w U
theorem nestOK.warm {s U : State} (hW : s.WarmedH U.vm) (h : nestOK s) : nestOK U := by
  intro w hw
  have h1 := h w hw
  have h2 : (∃ a i b n d h, w = .fieldLinkNest a i b n d h) ∨ ∃ a i x h, w = .methodLinkNest a i x h := by
    have h3 : nestWords.all (fun w => match w with | .fieldLinkNest _ _ _ _ _ _ => true | .methodLinkNest _ _ _ _ => true | _ => false) = true := by rfl
    have h4 := List.all_eq_true.mp h3 w hw
    revert h4
    cases w <;> simp
  rcases h2 with ⟨a, i, b, n, d, h, rfl⟩ | ⟨a, i, x, h, rfl⟩
  · exact va_Nw.warmF hW h1
  · exact va_Nw.warmM hW h1
/-- the literals: which, their bytes -/
def litN : Nat := 7
/-- what the literals are: outside of what may change -/
def litOK (E : EE) (A : Nat → Prop) (U : State) (H : Heap) : Prop := vk_S litN litLen litByt E.2.2.2.2.1 E.2.2.2.2.2 A U H ∧ va_Z "java/lang/String" "COMPACT_STRINGS" "Z" (.int 1) A U H ∧ va_Zq "jdk/internal/util/Preconditions" "SIOOBE_FORMATTER" "Ljava/util/function/BiFunction;" A U H ∧ va_AO "GemMemos$Market" U
theorem litOK.moved {E : EE} {A : Nat → Prop} {u U : State} {H : Heap} (hvm : u.vm.Alike U.vm) (h : litOK E A u H) : litOK E A U H := ⟨vk_S.moved hvm h.1, va_Z.moved hvm h.2.1, va_Zq.moved hvm h.2.2.1, va_AO.moved hvm h.2.2.2⟩
theorem litOK.kept {E : EE} {A : Nat → Prop} {U : State} {H H1 : Heap} (h : litOK E A U H) (hq : ∀ a : Nat, a < H.size → ¬ A a → H1[a]? = H[a]?) : litOK E A U H1 := ⟨h.1.kept hq, h.2.1.kept hq, h.2.2.1.kept hq, h.2.2.2⟩
theorem litOK.narrow {E : EE} {A B : Nat → Prop} {U : State} {H : Heap} (h : litOK E A U H) (hAB : ∀ q, B q → A q) : litOK E B U H := ⟨h.1.narrow hAB, h.2.1.narrow hAB, h.2.2.1.narrow hAB, h.2.2.2⟩
def litR (E : EE) (U : State) : Prop := ∀ i, i < litN → vk_R RX4 (litIx.getD i 0) (litTx.getD i "") (E.2.2.2.2.1 i) U
theorem litR.warm {E : EE} {s U : State} (hW : s.WarmedH U.vm) (h : litR E s) : litR E U := fun i hi => (h i hi).warm hW
/-- what a walk stands on -/
def Cx (E : EE) (p : Program) (s : State) (m : MethodId) (args : Array Value) (meth : Method) (c : Code) (A : Nat → Prop) (cc : ByteArray) (nL : Nat) (own : String) (Ts : List Cond) (ret : Option FieldType) : Prop :=
  p.tables.exec = Jvm.exec ∧ c.code = cc ∧ c.maxLocals = nL ∧ s.vm.findClass own = some m.cls ∧ (∀ w ∈ Ts, w.before args s = true) ∧ va_K E.1 vwCl (eT E) s ∧ meth.sig.returnType = ret ∧ meth.locks = false ∧ (∀ q : Nat, s.heap.size ≤ q → A q) ∧ nestOK s ∧ litR E s ∧ litOK E A s s.heap
/-- a callee's start, seen from a state -/
def preW (E : EE) (w0 : va_W) (sz : Nat) (U : State) : Prop := U.heap.size = sz ∧ va_P E.1 vwCl w0 U.heap ∧ va_K E.1 vwCl (eT E) U ∧ va_D (fun _ => True) w0 ∧ nestOK U ∧ litR E U ∧ litOK E (va_A w0 sz) U U.heap
/-- a contract of a method that answers an int -/
def KI (l : Launch) (E : EE) (y : MethodName) (ws : List Cond) (rm : Room) (av : List Value) (w0 : va_W) {S : Type} (post : Int32 → S → Prop) (w1 : S → va_W) : Prop :=
  ∀ sz : Nat, Met l y ws rm (va_Pc av (preW E w0 sz)) (va_Qi post (fun u t => va_P E.1 vwCl (w1 u) t.heap ∧ va_D (va_A w0 sz) (w1 u)) (va_A w0 sz)) 0 0 (va_A w0 sz)
/-- a contract of a method without an answer -/
def KV (l : Launch) (E : EE) (y : MethodName) (ws : List Cond) (rm : Room) (av : List Value) (w0 : va_W) {S : Type} (post : S → Prop) (w1 : S → va_W) : Prop :=
  ∀ sz : Nat, Met l y ws rm (va_Pc av (preW E w0 sz)) (va_Qv post (fun u t => va_P E.1 vwCl (w1 u) t.heap ∧ va_D (va_A w0 sz) (w1 u)) (va_A w0 sz)) 0 0 (va_A w0 sz)
abbrev qI (E : EE) (A : Nat → Prop) {S : Type} (post : Int32 → S → Prop) (w1 : S → va_W) (below : List Frame) (args : Array Value) (s : State) : State → Prop :=
  MQ below (va_Qi post (fun u t => va_P E.1 vwCl (w1 u) t.heap ∧ va_D A (w1 u)) A) args s 0 0 A
abbrev qV (E : EE) (A : Nat → Prop) {S : Type} (post : S → Prop) (w1 : S → va_W) (below : List Frame) (args : Array Value) (s : State) : State → Prop :=
  MQ below (va_Qv post (fun u t => va_P E.1 vwCl (w1 u) t.heap ∧ va_D A (w1 u)) A) args s 0 0 A
section FR
variable {p : Program} {l : Launch} {e : Env} {R : Room} {s : State} {m : MethodId} {args : Array Value} {below : List Frame} {meth : Method} {c : Code} {H : Heap} {locs : List Loc} {cells slots : Nat} {Q : State → Prop}
variable {E : EE} {A : Nat → Prop} {cc : ByteArray} {nL : Nat} {own : String} {Ts : List Cond} {ret : Option FieldType} {pc : Nat} {ls : Array Slot} {rest st0 : List Value} {ws ws' : va_W}
set_option maxHeartbeats 1000000 in
theorem KI.go {y : MethodName} {tw tw' : List Cond} {rm : Room} {av : List Value} {w0 : va_W} {S : Type} {post : Int32 → S → Prop} {w1 : S → va_W} {maxL : Nat} (hy : plainName y.cls = true) (hw : tw = Cond.code y cc maxL ret :: tw') (hlen : (lg_sl av).length ≤ maxL) (hown : y.cls = own)
    (body : ∀ (p : Program) (e : Env) (s : State) (m : MethodId) (below : List Frame) (meth : Method) (c : Code) (A : Nat → Prop) (ls : Array Slot), Cx E p s m av.toArray meth c A cc maxL own tw ret → mw E A s.heap s.heap [] w0 → lv_has ls maxL (lv_args 0 av) →
      W p l e rm s m av.toArray below meth c s.heap [] 0 0 (qI E A post w1 below av.toArray s) (F0 m 0 ls [])) : KI l E y tw rm av w0 post w1 := by
  intro sz
  refine Met.ofW (cc := cc) (maxL := maxL) (ret := ret) hy hw ?_
  intro p e s m args below meth c s₁ B hml hv
  obtain ⟨rfl, hsz, hP, hK, hD0, hN, hLR, hL⟩ := hv
  subst hsz
  have hts := atoms_spec (ws := tw) B.pre
  have hown' : s.vm.findClass own = some m.cls := by rw [← hown]; exact findClass_of_methodNamed B.named
  have hD := hD0.self (sz := s.heap.size)
  have hl := lv_entry av hlen
  rw [lg_entry_eq]
  have hA : ∀ q : Nat, s.heap.size ≤ q → va_A w0 s.heap.size q := fun q h => Or.inr h
  exact body p e s m below meth c (va_A w0 s.heap.size) _ ⟨B.exec, B.bytes, hml, hown', hts, hK, B.returns, B.notSynchronized, hA, hN, hLR, hL⟩ ⟨hP, hD, va_S.rf⟩ hl
set_option maxHeartbeats 1000000 in
theorem KI.goF {y : MethodName} {tw tw' : List Cond} {rm : Room} {av : List Value} {w0 : va_W} {S : Type} {post : Int32 → S → Prop} {w1 : S → va_W} {maxL : Nat} (hy : plainFor y = true) (hw : tw = Cond.code y cc maxL ret :: tw') (hlen : (lg_sl av).length ≤ maxL) (hown : y.cls = own)
    (body : ∀ (p : Program) (e : Env) (s : State) (m : MethodId) (below : List Frame) (meth : Method) (c : Code) (A : Nat → Prop) (ls : Array Slot), Cx E p s m av.toArray meth c A cc maxL own tw ret → mw E A s.heap s.heap [] w0 → lv_has ls maxL (lv_args 0 av) →
      W p l e rm s m av.toArray below meth c s.heap [] 0 0 (qI E A post w1 below av.toArray s) (F0 m 0 ls [])) : KI l E y tw rm av w0 post w1 := by
  intro sz
  refine va_MetF (cc := cc) (maxL := maxL) (ret := ret) hy hw ?_
  intro p e s m args below meth c s₁ B hml hv
  obtain ⟨rfl, hsz, hP, hK, hD0, hN, hLR, hL⟩ := hv
  subst hsz
  have hts := atoms_spec (ws := tw) B.pre
  have hown' : s.vm.findClass own = some m.cls := by rw [← hown]; exact findClass_of_methodNamed B.named
  have hD := hD0.self (sz := s.heap.size)
  have hl := lv_entry av hlen
  rw [lg_entry_eq]
  have hA : ∀ q : Nat, s.heap.size ≤ q → va_A w0 s.heap.size q := fun q h => Or.inr h
  exact body p e s m below meth c (va_A w0 s.heap.size) _ ⟨B.exec, B.bytes, hml, hown', hts, hK, B.returns, B.notSynchronized, hA, hN, hLR, hL⟩ ⟨hP, hD, va_S.rf⟩ hl
set_option maxHeartbeats 1000000 in
theorem KV.go {y : MethodName} {tw tw' : List Cond} {rm : Room} {av : List Value} {w0 : va_W} {S : Type} {post : S → Prop} {w1 : S → va_W} {maxL : Nat} (hy : plainName y.cls = true) (hw : tw = Cond.code y cc maxL ret :: tw') (hlen : (lg_sl av).length ≤ maxL) (hown : y.cls = own)
    (body : ∀ (p : Program) (e : Env) (s : State) (m : MethodId) (below : List Frame) (meth : Method) (c : Code) (A : Nat → Prop) (ls : Array Slot), Cx E p s m av.toArray meth c A cc maxL own tw ret → mw E A s.heap s.heap [] w0 → lv_has ls maxL (lv_args 0 av) →
      W p l e rm s m av.toArray below meth c s.heap [] 0 0 (qV E A post w1 below av.toArray s) (F0 m 0 ls [])) : KV l E y tw rm av w0 post w1 := by
  intro sz
  refine Met.ofW (cc := cc) (maxL := maxL) (ret := ret) hy hw ?_
  intro p e s m args below meth c s₁ B hml hv
  obtain ⟨rfl, hsz, hP, hK, hD0, hN, hLR, hL⟩ := hv
  subst hsz
  have hts := atoms_spec (ws := tw) B.pre
  have hown' : s.vm.findClass own = some m.cls := by rw [← hown]; exact findClass_of_methodNamed B.named
  have hD := hD0.self (sz := s.heap.size)
  have hl := lv_entry av hlen
  rw [lg_entry_eq]
  have hA : ∀ q : Nat, s.heap.size ≤ q → va_A w0 s.heap.size q := fun q h => Or.inr h
  exact body p e s m below meth c (va_A w0 s.heap.size) _ ⟨B.exec, B.bytes, hml, hown', hts, hK, B.returns, B.notSynchronized, hA, hN, hLR, hL⟩ ⟨hP, hD, va_S.rf⟩ hl
theorem x_ret {S : Type} {post : Int32 → S → Prop} {w1 : S → va_W} {r : Int32} (C0 : Cx E p s m args meth c A cc nL own Ts (some .int)) (u : S) (hw : mw E A s.heap H locs (w1 u)) (hp : post r u) (hdg : decode cc pc = .ok (.ireturn, 1)) :
    W p l e R s m args below meth c H locs 0 0 (qI E A post w1 below args s) (F0 m pc ls [.int r]) := by
  obtain ⟨hx, hb, -, -, -, -, hr, hlocks, -⟩ := C0
  exact W.iret (v := r) hx hb hr (fun t ht _ => ⟨⟨r, u, rfl, hp, by rw [ht]; exact hw.1, hw.2.1⟩, hw.2.2.F ht⟩) hw.2.2.2.2 hdg
theorem x_retz {S : Type} {post : Int32 → S → Prop} {w1 : S → va_W} {r : Int32} {ty : FieldType} (C0 : Cx E p s m args meth c A cc nL own Ts (some ty)) (hn : narrow ty (.int r) = .int r) (u : S) (hw : mw E A s.heap H locs (w1 u)) (hp : post r u) (hdg : decode cc pc = .ok (.ireturn, 1)) :
    W p l e R s m args below meth c H locs 0 0 (qI E A post w1 below args s) (F0 m pc ls [.int r]) := by
  obtain ⟨hx, hb, -, -, -, -, hr, hlocks, -⟩ := C0
  exact W.zret (v := r) hx hb hr hn (fun t ht _ => ⟨⟨r, u, rfl, hp, by rw [ht]; exact hw.1, hw.2.1⟩, hw.2.2.F ht⟩) hw.2.2.2.2 hdg
theorem x_retv {S : Type} {post : S → Prop} {w1 : S → va_W} (C0 : Cx E p s m args meth c A cc nL own Ts none) (u : S) (hw : mw E A s.heap H locs (w1 u)) (hp : post u) (hdg : decode cc pc = .ok (.return_, 1)) :
    W p l e R s m args below meth c H locs 0 0 (qV E A post w1 below args s) (F0 m pc ls []) := by
  obtain ⟨hx, hb, -, -, -, -, hr, hlocks, -⟩ := C0
  exact W.vret hx hb hr (fun t ht _ => ⟨⟨u, rfl, hp, by rw [ht]; exact hw.1, hw.2.1⟩, hw.2.2.F ht⟩) hw.2.2.2.2 hdg
theorem x_get {C : String} {T : u_T} {N index : Nat} (C0 : Cx E p s m args meth c A cc nL own Ts ret) (hw : mw E A s.heap H locs ws) (ci : Nat) (hin : ∀ w ∈ u_ws C T N, w ∈ Ts) (hc : vwCl[ci]? = some (C, T, N)) (q0 : Nat) {a : Nat} {fs : List Value} (he : ws[q0]? = some (a, .inr (ci, fs))) (k : Nat) (hk : k < N) (i : Nat) (hl : Ts[i]? = some (Cond.fieldLink own index (T k).1 (T k).2.1 (T k).2.2.1)) {v : Value} (hv : fs[k]? = some v) (hdg : decode cc pc = .ok (.getfield index, 3))
    (kk : W p l e R s m args below meth c H locs cells slots Q (F0 m (pc + 3) ls (v :: rest))) : W p l e R s m args below meth c H locs cells slots Q (F0 m pc ls (.ref a :: rest)) :=
  va_get C0.1 C0.2.1 C0.2.2.2.2.1 hin C0.2.2.2.1 C0.2.2.2.2.2.1 hw.1 q0 he hc k hk (C0.2.2.2.2.1 _ (List.mem_of_getElem? hl)) (fun _ h => h) hv hdg kk
theorem x_getN {C host : String} {T : u_T} {N index : Nat} (C0 : Cx E p s m args meth c A cc nL own Ts ret) (hw : mw E A s.heap H locs ws) (ci : Nat) (hin : ∀ w ∈ u_ws C T N, w ∈ Ts) (hc : vwCl[ci]? = some (C, T, N)) (q0 : Nat) {a : Nat} {fs : List Value} (he : ws[q0]? = some (a, .inr (ci, fs))) (k : Nat) (hk : k < N) (i : Nat) (hl : nestWords[i]? = some (Cond.fieldLinkNest own index (T k).1 (T k).2.1 (T k).2.2.1 host)) {v : Value} (hv : fs[k]? = some v) (hdg : decode cc pc = .ok (.getfield index, 3))
    (kk : W p l e R s m args below meth c H locs cells slots Q (F0 m (pc + 3) ls (v :: rest))) : W p l e R s m args below meth c H locs cells slots Q (F0 m pc ls (.ref a :: rest)) :=
  va_getN C0.1 C0.2.1 C0.2.2.2.2.1 hin C0.2.2.2.1 C0.2.2.2.2.2.1 hw.1 q0 he hc k hk (va_Nw.use rfl (C0.2.2.2.2.2.2.2.2.2.1 _ (List.mem_of_getElem? hl))) (fun _ h => h) hv hdg kk
theorem x_put {C : String} {T : u_T} {N index : Nat} (C0 : Cx E p s m args meth c A cc nL own Ts ret) (hw : mw E A s.heap H locs ws) (ci : Nat) (hin : ∀ w ∈ u_ws C T N, w ∈ Ts) (hc : vwCl[ci]? = some (C, T, N)) (ty0 : Nat → FieldType) (hty : ∀ k, k < N → parseFieldDescriptor (T k).2.2.1 = some (ty0 k)) (hnm : ∀ a, a < N → ∀ b, b < N → a ≠ b → (T a).2.1 ≠ (T b).2.1) (q0 : Nat) {a : Nat} {fs : List Value} (he : ws[q0]? = some (a, .inr (ci, fs))) (k : Nat) (hk : k < N) (i : Nat) (hl : Ts[i]? = some (Cond.fieldLink own index (T k).1 (T k).2.1 (T k).2.2.1)) (hfin : (T k).2.2.2 = false) {v : Value} (hn : narrow (ty0 k) v = v) (hfit : fits (ty0 k) v = true) (hlen : k < fs.length) (hset : ws.set q0 (a, .inr (ci, fs.set k v)) = ws') (hdg : decode cc pc = .ok (.putfield index, 3))
    (kk : ∀ (H1 : Heap) (locs1 : List Loc), mw E A s.heap H1 locs1 ws' → W p l e R s m args below meth c H1 locs1 cells slots Q (F0 m (pc + 3) ls rest)) : W p l e R s m args below meth c H locs cells slots Q (F0 m pc ls (v :: .ref a :: rest)) := by
  subst hset
  exact va_put C0.1 C0.2.1 C0.2.2.2.2.1 hin ty0 hty hnm C0.2.2.2.1 C0.2.2.2.2.2.1 hw.1 hw.2.1 hw.2.2 q0 he hc k hk (C0.2.2.2.2.1 _ (List.mem_of_getElem? hl)) (fun _ h => h) hfin (hty k hk) hn hfit hlen hdg (fun H1 locs1 h1 h2 h3 => kk H1 locs1 ⟨h1, h2, h3⟩)
theorem x_putN {C host : String} {T : u_T} {N index : Nat} (C0 : Cx E p s m args meth c A cc nL own Ts ret) (hw : mw E A s.heap H locs ws) (ci : Nat) (hin : ∀ w ∈ u_ws C T N, w ∈ Ts) (hc : vwCl[ci]? = some (C, T, N)) (ty0 : Nat → FieldType) (hty : ∀ k, k < N → parseFieldDescriptor (T k).2.2.1 = some (ty0 k)) (hnm : ∀ a, a < N → ∀ b, b < N → a ≠ b → (T a).2.1 ≠ (T b).2.1) (q0 : Nat) {a : Nat} {fs : List Value} (he : ws[q0]? = some (a, .inr (ci, fs))) (k : Nat) (hk : k < N) (i : Nat) (hl : nestWords[i]? = some (Cond.fieldLinkNest own index (T k).1 (T k).2.1 (T k).2.2.1 host)) (hfin : (T k).2.2.2 = false) {v : Value} (hn : narrow (ty0 k) v = v) (hfit : fits (ty0 k) v = true) (hlen : k < fs.length) (hset : ws.set q0 (a, .inr (ci, fs.set k v)) = ws') (hdg : decode cc pc = .ok (.putfield index, 3))
    (kk : ∀ (H1 : Heap) (locs1 : List Loc), mw E A s.heap H1 locs1 ws' → W p l e R s m args below meth c H1 locs1 cells slots Q (F0 m (pc + 3) ls rest)) : W p l e R s m args below meth c H locs cells slots Q (F0 m pc ls (v :: .ref a :: rest)) := by
  subst hset
  exact va_putN C0.1 C0.2.1 C0.2.2.2.2.1 hin ty0 hty hnm C0.2.2.2.1 C0.2.2.2.2.2.1 hw.1 hw.2.1 hw.2.2 q0 he hc k hk (va_Nw.use rfl (C0.2.2.2.2.2.2.2.2.2.1 _ (List.mem_of_getElem? hl))) (fun _ h => h) hfin (hty k hk) hn hfit hlen hdg (fun H1 locs1 h1 h2 h3 => kk H1 locs1 ⟨h1, h2, h3⟩)
theorem x_ald {i : Int32} (C0 : Cx E p s m args meth c A cc nL own Ts ret) (hw : mw E A s.heap H locs ws) (q0 : Nat) {a n : Nat} {f : Nat → Int32} (ha : ws[q0]? = some (a, .inl (E.2.1, n, .inl f))) (hi : vp_in i n) (hdg : decode cc pc = .ok (.iaload, 1))
    (kk : W p l e R s m args below meth c H locs cells slots Q (F0 m (pc + 1) ls (.int (f (tn i)) :: rest))) : W p l e R s m args below meth c H locs cells slots Q (F0 m pc ls (.int i :: .ref a :: rest)) :=
  va_iald (n := n) C0.1 C0.2.1 C0.2.2.2.2.2.1 hw.1 q0 0 ha rfl hi hdg kk
theorem x_ald' {i : Int32} (C0 : Cx E p s m args meth c A cc nL own Ts ret) (hw : mw E A s.heap H locs ws) (q0 : Nat) {a n : Nat} {f : Nat → Int32} (ha : ws[q0]? = some (a, .inl (E.2.2.1, n, .inl f))) (hi : vp_in i n) (hdg : decode cc pc = .ok (.caload, 1))
    (kk : W p l e R s m args below meth c H locs cells slots Q (F0 m (pc + 1) ls (.int (f (tn i)) :: rest))) : W p l e R s m args below meth c H locs cells slots Q (F0 m pc ls (.int i :: .ref a :: rest)) :=
  va_cald (n := n) C0.1 C0.2.1 C0.2.2.2.2.2.1 hw.1 q0 1 ha rfl hi hdg kk
theorem x_ast {i x : Int32} (C0 : Cx E p s m args meth c A cc nL own Ts ret) (hw : mw E A s.heap H locs ws) (q0 : Nat) {a n : Nat} {f : Nat → Int32} (ha : ws[q0]? = some (a, .inl (E.2.1, n, .inl f))) (hi : vp_in i n) (hset : ws.set q0 (a, .inl (E.2.1, n, .inl (upd f (tn i) x))) = ws') (hdg : decode cc pc = .ok (.iastore, 1))
    (kk : ∀ (H1 : Heap) (locs1 : List Loc), mw E A s.heap H1 locs1 ws' → W p l e R s m args below meth c H1 locs1 cells slots Q (F0 m (pc + 1) ls rest)) : W p l e R s m args below meth c H locs cells slots Q (F0 m pc ls (.int x :: .int i :: .ref a :: rest)) := by
  subst hset
  exact va_iast (n := n) C0.1 C0.2.1 C0.2.2.2.2.2.1 hw.1 hw.2.1 hw.2.2 q0 0 ha rfl hi hdg (fun H1 locs1 h1 h2 h3 => kk H1 locs1 ⟨h1, h2, h3⟩)
theorem x_ast' {i x : Int32} (C0 : Cx E p s m args meth c A cc nL own Ts ret) (hw : mw E A s.heap H locs ws) (q0 : Nat) {a n : Nat} {f : Nat → Int32} (ha : ws[q0]? = some (a, .inl (E.2.2.1, n, .inl f))) (hi : vp_in i n) (hset : ws.set q0 (a, .inl (E.2.2.1, n, .inl (upd f (tn i) (vp_nar .char x)))) = ws') (hdg : decode cc pc = .ok (.castore, 1))
    (kk : ∀ (H1 : Heap) (locs1 : List Loc), mw E A s.heap H1 locs1 ws' → W p l e R s m args below meth c H1 locs1 cells slots Q (F0 m (pc + 1) ls rest)) : W p l e R s m args below meth c H locs cells slots Q (F0 m pc ls (.int x :: .int i :: .ref a :: rest)) := by
  subst hset
  exact va_cast (n := n) C0.1 C0.2.1 C0.2.2.2.2.2.1 hw.1 hw.2.1 hw.2.2 q0 1 ha rfl hi hdg (fun H1 locs1 h1 h2 h3 => kk H1 locs1 ⟨h1, h2, h3⟩)
theorem x_alen {v : Int32} (C0 : Cx E p s m args meth c A cc nL own Ts ret) (hw : mw E A s.heap H locs ws) (q0 : Nat) {a n : Nat} {f : Nat → Int32} (ha : ws[q0]? = some (a, .inl (E.2.1, n, .inl f))) (hv : nI n = v) (hdg : decode cc pc = .ok (.arraylength, 1))
    (kk : W p l e R s m args below meth c H locs cells slots Q (F0 m (pc + 1) ls (.int v :: rest))) : W p l e R s m args below meth c H locs cells slots Q (F0 m pc ls (.ref a :: rest)) :=
  va_alen C0.1 C0.2.1 C0.2.2.2.2.2.1 hw.1 q0 0 ha (ty := .int) rfl hv hdg kk
theorem x_ldc {v : Int32} {index : Nat} (C0 : Cx E p s m args meth c A cc nL own Ts ret) (i : Nat) (hl : Ts[i]? = some (Cond.constant own index v)) (hdg : decode cc pc = .ok (.ldc index, 2)) (k : W p l e R s m args below meth c H locs cells slots Q (F0 m (pc + 2) ls (.int v :: rest))) : W p l e R s m args below meth c H locs cells slots Q (F0 m pc ls rest) :=
  lv_ldc C0.1 C0.2.1 C0.2.2.2.1 (C0.2.2.2.2.1 _ (List.mem_of_getElem? hl)) hdg k
theorem x_ldcw {v : Int32} {index : Nat} (C0 : Cx E p s m args meth c A cc nL own Ts ret) (i : Nat) (hl : Ts[i]? = some (Cond.constant own index v)) (hdg : decode cc pc = .ok (.ldc_w index, 3)) (k : W p l e R s m args below meth c H locs cells slots Q (F0 m (pc + 3) ls (.int v :: rest))) : W p l e R s m args below meth c H locs cells slots Q (F0 m pc ls rest) :=
  lv_ldcw C0.1 C0.2.1 C0.2.2.2.1 (C0.2.2.2.2.1 _ (List.mem_of_getElem? hl)) hdg k
theorem x_abs {x : Int32} {index : Nat} (C0 : Cx E p s m args meth c A cc nL own Ts ret) (hls : ls.size = nL) (i : Nat) (hl : Ts[i]? = some (Cond.methodLink own index Lib.Math.abs.name)) (h1 : Ts[i + 1]? = some (Cond.static Lib.Math.abs.name)) (h2 : Ts[i + 2]? = some (Cond.initialized "java/lang/Math")) (h3 : Ts[i + 3]? = some (Cond.code Lib.Math.abs.name Lib.Math.abs.code 1 (some .int)))
    (hf : 1 ≤ R.frames) (hlo : (rest.map fun v => v.category).sum + 13 ≤ R.locals) (hcs : cells ≤ R.cells ∧ slots ≤ R.slots) (hdg : decode cc pc = .ok (.invokestatic index, 3)) (k : W p l e R s m args below meth c H locs cells slots Q (F0 m (pc + 3) ls (.int (if 0 ≤ x then x else 0 - x) :: rest))) : W p l e R s m args below meth c H locs cells slots Q (F0 m pc ls (.int x :: rest)) := by
  obtain ⟨hx, hb, hml, hown, hts, -⟩ := C0
  exact va_mabs hx hb (hml.trans hls.symm) hown (hts _ (List.mem_of_getElem? hl)) (hts _ (List.mem_of_getElem? h1)) (hts _ (List.mem_of_getElem? h2)) (hts _ (List.mem_of_getElem? h3)) hf hlo hcs.1 hcs.2 hdg k
theorem x_max {x y : Int32} {index : Nat} (C0 : Cx E p s m args meth c A cc nL own Ts ret) (hls : ls.size = nL) (i : Nat) (hl : Ts[i]? = some (Cond.methodLink own index Lib.Math.max.name)) (h1 : Ts[i + 1]? = some (Cond.static Lib.Math.max.name)) (h2 : Ts[i + 2]? = some (Cond.initialized "java/lang/Math")) (h3 : Ts[i + 3]? = some (Cond.code Lib.Math.max.name Lib.Math.max.code 2 (some .int)))
    (hf : 1 ≤ R.frames) (hlo : (rest.map fun v => v.category).sum + 13 ≤ R.locals) (hcs : cells ≤ R.cells ∧ slots ≤ R.slots) (hdg : decode cc pc = .ok (.invokestatic index, 3)) (k : W p l e R s m args below meth c H locs cells slots Q (F0 m (pc + 3) ls (.int (if x < y then y else x) :: rest))) : W p l e R s m args below meth c H locs cells slots Q (F0 m pc ls (.int y :: .int x :: rest)) := by
  obtain ⟨hx, hb, hml, hown, hts, -⟩ := C0
  exact va_mmax hx hb (hml.trans hls.symm) hown (hts _ (List.mem_of_getElem? hl)) (hts _ (List.mem_of_getElem? h1)) (hts _ (List.mem_of_getElem? h2)) (hts _ (List.mem_of_getElem? h3)) hf hlo hcs.1 hcs.2 hdg k
theorem x_copy {n : Int32} {N index : Nat} (C0 : Cx E p s m args meth c A cc nL own Ts ret) (hw : mw E A s.heap H locs ws) (hls : ls.size = nL) (i : Nat) (hl : Ts[i]? = some (Cond.methodLink own index arraycopyName)) (i1 i2 i3 : Nat) (hl1 : Ts[i1]? = some (Cond.native arraycopyName)) (hl2 : Ts[i2]? = some (Cond.static arraycopyName)) (hl3 : Ts[i3]? = some (Cond.initialized "java/lang/System"))
    (q0 q1 : Nat) {a0 a : Nat} {f g : Nat → Int32} (ha0 : ws[q0]? = some (a0, .inl (E.2.1, N, .inl f))) (ha1 : ws[q1]? = some (a, .inl (E.2.1, N, .inl g))) (hn : n = nI N) (hN : Nat.blt N 2147483648 = true) (hset : ws.set q1 (a, .inl (E.2.1, N, .inl (va_cpy f g 0 0 N))) = ws')
    (hf : 1 ≤ R.frames) (hlo : (rest.map fun v => v.category).sum + 18 ≤ R.locals) (hdg : decode cc pc = .ok (.invokestatic index, 3))
    (kk : ∀ (H1 : Heap) (locs1 : List Loc), mw E A s.heap H1 locs1 ws' → W p l e R s m args below meth c H1 locs1 cells slots Q (F0 m (pc + 3) ls rest)) : W p l e R s m args below meth c H locs cells slots Q (F0 m pc ls (.int n :: .int 0 :: .ref a :: .int 0 :: .ref a0 :: rest)) := by
  subst hset
  subst hn
  have hN' : N < 2147483648 := Nat.blt_eq.mp hN
  have hc : (nI N).toNatClampNeg = N := nI_clamp (by omega)
  have hz : (0 : Int32).toNatClampNeg = 0 := by decide
  obtain ⟨hx, hb, hml, hown, hts, hK, -⟩ := C0
  refine va_copyi hx hb (hml.trans hls.symm) hown (hts _ (List.mem_of_getElem? hl)) (hts _ (List.mem_of_getElem? hl1)) (hts _ (List.mem_of_getElem? hl2)) (hts _ (List.mem_of_getElem? hl3)) hK hw.1 hw.2.1 hw.2.2 q0 q1 0 0 ha0 ha1 rfl (ty := .int) rfl rfl (by decide) (by decide) (nI_pos (by omega)) (by rw [hc, hz]; omega) (by rw [hc, hz]; omega) (fun _ _ => rfl) hf hlo hdg (fun H1 locs1 h1 h2 h3 => kk H1 locs1 ?_)
  rw [hc, hz] at h1 h2
  exact ⟨h1, h2, h3⟩
/-- a switch: at a number of its table -/
theorem x_tabIn {x : Int32} {dflt lo hi : Int} {offs : Array Int} {len : Nat} {off : Int} {tgt : Nat} (C0 : Cx E p s m args meth c A cc nL own Ts ret) (v : Int32) (hv : x = v) (hdg : decode cc pc = .ok (.tableswitch dflt lo hi offs, len)) (h1 : ¬ v.toInt < lo) (h2 : ¬ hi < v.toInt) (ho : offs[(v.toInt - lo).toNat]? = some off) (ht : (pc : Int) + off = (tgt : Int))
    (k : W p l e R s m args below meth c H locs cells slots Q (F0 m tgt ls rest)) : W p l e R s m args below meth c H locs cells slots Q (F0 m pc ls (.int x :: rest)) := by
  subst hv
  exact lv_tableIn C0.1 C0.2.1 hdg h1 h2 ho ht k
theorem ne_toInt {x k : Int32} {z : Int} (hk : k.toInt = z) (h : ¬ x = k) : x.toInt ≠ z := fun e => h (Int32.toInt_inj.mp (e.trans hk.symm))
theorem in4 {i : Int32} (h : vp_in i 4) : i = 0 ∨ i = 1 ∨ i = 2 ∨ i = 3 := by
  obtain ⟨j, hj, rfl⟩ := vp_in_of h (by decide)
  rcases (show j = 0 ∨ j = 1 ∨ j = 2 ∨ j = 3 by omega) with rfl | rfl | rfl | rfl
  · exact Or.inl rfl
  · exact Or.inr (Or.inl rfl)
  · exact Or.inr (Or.inr (Or.inl rfl))
  · exact Or.inr (Or.inr (Or.inr rfl))
theorem x_aldq {i : Int32} {v : Nat} (C0 : Cx E p s m args meth c A cc nL own Ts ret) (hw : mw E A s.heap H locs ws) (q0 : Nat) {a n : Nat} {f : Nat → Option Nat} (ha : ws[q0]? = some (a, .inl (E.2.2.2.1, n, .inr (.inr (.inr (.inr f)))))) (hi : vp_in i n) (hv : va_rf (f (tn i)) = .ref v) (hdg : decode cc pc = .ok (.aaload, 1))
    (kk : W p l e R s m args below meth c H locs cells slots Q (F0 m (pc + 1) ls (.ref v :: rest))) : W p l e R s m args below meth c H locs cells slots Q (F0 m pc ls (.int i :: .ref a :: rest)) := by
  refine va_aldq (n := n) (C := "GemMemos$Market") C0.1 C0.2.1 C0.2.2.2.2.2.1 hw.1 q0 2 ha rfl hi hdg ?_
  rw [show va_rf (f i.toNatClampNeg) = .ref v from hv]
  exact kk
/-- another number on top, the same -/
theorem x_as {x y : Int32} (h : x = y) (k : W p l e R s m args below meth c H locs cells slots Q (F0 m pc ls (.int y :: rest))) : W p l e R s m args below meth c H locs cells slots Q (F0 m pc ls (.int x :: rest)) := by rw [h]; exact k
theorem x_pre {w0 F : va_W} (C0 : Cx E p s m args meth c A cc nL own Ts ret) (hw : mw E A s.heap H locs ws) (hp : ws.Perm (w0 ++ F)) {U : State} (hU : U.heap = H) (hW : s.WarmedH U.vm) : preW E w0 H.size U := by
  obtain ⟨-, -, -, -, -, hK, -, -, hA, hN, hLR, hL⟩ := C0
  have hm := hw.perm hp
  refine ⟨by rw [hU], by rw [hU]; exact wP_mem.mpr fun q hq => wP_mem.mp hm.1 q (List.mem_append_left _ hq), va_K.moved hW.alike hK, wD_mem.mpr ⟨(List.pairwise_append.mp (wD_mem.mp hm.2.1).1).1, fun _ _ => trivial⟩, hN.warm hW, hLR.warm hW, ?_⟩
  have h1 : litOK E A U H := litOK.moved hW.alike (litOK.kept hL (fun a ha hn => hw.2.2.2.1 a ha hn))
  rw [hU]
  refine litOK.narrow h1 (fun q hq => ?_)
  rcases wA_mem.mp hq with ⟨x, hx, rfl⟩ | hq
  · exact (wD_mem.mp hm.2.1).2 x (List.mem_append_left _ hx)
  · exact hA q (Nat.le_trans hw.2.2.1 hq)
theorem x_blind {av : List Value} {w0 : va_W} {sz : Nat} : FrameBlind (va_Pc av (preW E w0 sz)) := by
  intro a U g mk q
  obtain ⟨q0, q1, q2, q3, q4, q5, q6, q7⟩ := q
  refine ⟨q0, q1, q2, va_K.moved (u := U) (U := U.calling g mk a) (Vm.Alike.refl U.vm) q3, q4, ?_, ?_, ?_⟩
  · exact fun w hw => by
      have h2 : (∃ a i b n d h, w = .fieldLinkNest a i b n d h) ∨ ∃ a i x h, w = .methodLinkNest a i x h := by
        have h3 : nestWords.all (fun w => match w with | .fieldLinkNest _ _ _ _ _ _ => true | .methodLinkNest _ _ _ _ => true | _ => false) = true := by rfl
        have h4 := List.all_eq_true.mp h3 w hw
        revert h4
        cases w <;> simp
      rcases h2 with ⟨a, i, b, n, d, h, rfl⟩ | ⟨a, i, x, h, rfl⟩ <;> exact va_Nw.same rfl rfl (q5 _ hw)
  · exact fun i hi => (q6 i hi).same rfl
  · exact litOK.moved (u := U) (U := U.calling g mk a) (Vm.Alike.refl U.vm) q7
theorem x_freeA {w0 F : va_W} (C0 : Cx E p s m args meth c A cc nL own Ts ret) (hw : mw E A s.heap H locs ws) (hp : ws.Perm (w0 ++ F)) : ∀ q, va_A w0 H.size q → A q := by
  intro q hq
  rcases wA_mem.mp hq with ⟨x, hx, rfl⟩ | hq
  · exact (wD_mem.mp (hw.perm hp).2.1).2 x (List.mem_append_left _ hx)
  · exact C0.2.2.2.2.2.2.2.2.1 q (Nat.le_trans hw.2.2.1 hq)
theorem x_join {w0 F w9 : va_W} {H1 : Heap} {locs1 : List Loc} (C0 : Cx E p s m args meth c A cc nL own Ts ret) (hw : mw E A s.heap H locs ws) (hp : ws.Perm (w0 ++ F)) (hk : ∀ q : Nat, q < H.size → ¬ va_A w0 H.size q → H1[q]? = H[q]?) (hP1 : va_P E.1 vwCl w9 H1) (hD1 : va_D (va_A w0 H.size) w9) (hS : va_S A s.heap H1 locs1) : mw E A s.heap H1 locs1 (w9 ++ F) := by
  have hm := hw.perm hp
  have hfr := x_freeA C0 hw hp
  obtain ⟨d1, d2⟩ := wD_mem.mp hm.2.1
  obtain ⟨e1, e2⟩ := wD_mem.mp hD1
  obtain ⟨p1, p2, p3⟩ := List.pairwise_append.mp d1
  have hF : ∀ q ∈ F, q.1 < H.size ∧ ¬ va_A w0 H.size q.1 := by
    intro q hq
    have hl := (wP_mem.mp hm.1 q (List.mem_append_right _ hq)).lt
    refine ⟨hl, fun h => ?_⟩
    rcases wA_mem.mp h with ⟨x, hx, hxq⟩ | h
    · exact p3 x hx q hq hxq
    · omega
  refine ⟨wP_mem.mpr fun q hq => ?_, wD_mem.mpr ⟨List.pairwise_append.mpr ⟨e1, p2, fun x hx y hy hxy => ?_⟩, fun q hq => ?_⟩, hS⟩
  · rcases List.mem_append.mp hq with h | h
    · exact wP_mem.mp hP1 q h
    · exact (wP_mem.mp hm.1 q (List.mem_append_right _ h)).kept (hk q.1 (hF q h).1 (hF q h).2)
  · exact (hF y hy).2 (hxy ▸ e2 x hx)
  · rcases List.mem_append.mp hq with h | h
    · exact hfr q.1 (e2 q h)
    · exact d2 q (List.mem_append_right _ h)
/-- behind a call that answers an int -/
theorem x_aft {w0 F : va_W} {S : Type} {post : Int32 → S → Prop} {w1 : S → va_W} {a : Array Value} (C0 : Cx E p s m args meth c A cc nL own Ts ret) (hw : mw E A s.heap H locs ws) (hp : ws.Perm (w0 ++ F))
    (hr : va_Run p l e R s m args below meth c H locs cells slots 0 0 (F0 m pc ls st0) rest (va_Qi post (fun u t => va_P E.1 vwCl (w1 u) t.heap ∧ va_D (va_A w0 H.size) (w1 u)) (va_A w0 H.size) a) (va_A w0 H.size))
    (kk : ∀ (r : Int32) (u : S) (H1 : Heap) (locs1 : List Loc), post r u → mw E A s.heap H1 locs1 (w1 u ++ F) → W p l e R s m args below meth c H1 locs1 cells slots Q (F0 m (pc + 3) ls (.int r :: rest))) : W p l e R s m args below meth c H locs cells slots Q (F0 m pc ls st0) := by
  have hfr := x_freeA C0 hw hp
  refine va_calli hr hw.2.2 (fun q _ h => hfr q h) hfr (fun r u t H1 locs1 ht hvm hpo hB hz hk hS => ?_)
  rw [ht] at hB
  exact kk r u H1 locs1 hpo (x_join C0 hw hp hk hB.1 hB.2 hS)
theorem x_aftv {w0 F : va_W} {S : Type} {post : S → Prop} {w1 : S → va_W} {a : Array Value} (C0 : Cx E p s m args meth c A cc nL own Ts ret) (hw : mw E A s.heap H locs ws) (hp : ws.Perm (w0 ++ F))
    (hr : va_Run p l e R s m args below meth c H locs cells slots 0 0 (F0 m pc ls st0) rest (va_Qv post (fun u t => va_P E.1 vwCl (w1 u) t.heap ∧ va_D (va_A w0 H.size) (w1 u)) (va_A w0 H.size) a) (va_A w0 H.size))
    (kk : ∀ (u : S) (H1 : Heap) (locs1 : List Loc), post u → mw E A s.heap H1 locs1 (w1 u ++ F) → W p l e R s m args below meth c H1 locs1 cells slots Q (F0 m (pc + 3) ls rest)) : W p l e R s m args below meth c H locs cells slots Q (F0 m pc ls st0) := by
  have hfr := x_freeA C0 hw hp
  refine va_callv hr hw.2.2 (fun q _ h => hfr q h) hfr (fun u t H1 locs1 ht hvm hpo hB hz hk hS => ?_)
  rw [ht] at hB
  exact kk u H1 locs1 hpo (x_join C0 hw hp hk hB.1 hB.2 hS)
section RUN
variable {yc : MethodName} {wsc wsc' : List Cond} {rmc : Room} {w0 F : va_W} {Qc : Nat → Array Value → State → Outcome → State → Prop} {b : Nat} {As : List Value} {C : String} {T : u_T} {N index maxL n : Nat} {bytes : ByteArray} {retc : Option FieldType}
/-- a call of a method of an object -/
theorem x_runV (C0 : Cx E p s m args meth c A cc nL own Ts ret) (hw : mw E A s.heap H locs ws) (hp : ws.Perm (w0 ++ F)) (hls : ls.size = nL) (q0 ci : Nat) {fs : List Value} (he : ws[q0]? = some (b, .inr (ci, fs))) (hc : vwCl[ci]? = some (C, T, N))
    (cal : ∀ sz : Nat, Met l yc wsc rmc (va_Pc (.ref b :: As) (preW E w0 sz)) (Qc sz) 0 0 (va_A w0 sz)) (n : Nat) (hT : GoodIn Ts (wsV own index C yc wsc)) (hcode : wsc = Cond.code yc bytes maxL retc :: wsc') (hrc : rmc.cells = 0 ∧ rmc.slots = 0)
    (hd : yc.cls = C ∧ yc.cls ≠ "java/lang/invoke/MethodHandle" ∧ yc.cls ≠ "java/lang/invoke/VarHandle" ∧ (parseMethodDescriptor yc.desc).map (fun d => d.parameters.length) = some n) (hR : rmc.frames + 1 ≤ R.frames ∧ 8 + (maxL + 11) + rmc.locals ≤ R.locals)
    (hn : As.length = n) (hst : st0 = As.reverse ++ .ref b :: rest) (hcat : (rest.map fun v => v.category).sum ≤ 8) (hdg : decode cc pc = .ok (.invokevirtual index, 3)) (hf : cells ≤ R.cells ∧ slots ≤ R.slots) :
    va_Run p l e R s m args below meth c H locs cells slots 0 0 (F0 m pc ls st0) rest (Qc H.size (Value.ref b :: As).toArray) (va_A w0 H.size) :=
  va_runV (As := As) (rest := rest) ⟨C0.1, C0.2.1, C0.2.2.1, C0.2.2.2.1, C0.2.2.2.2.1⟩ (cal H.size) (cwV n C0.2.2.2.2.1 hT hcode hrc.1 hrc.2 hd hR) ⟨x_blind, va_recv C0.2.2.2.2.2.1 hw.1 hc he, fun _ hU hW => ⟨rfl, x_pre C0 hw hp hU hW⟩⟩ rfl hn hls hst (lv_room hcat) hdg hf
/-- a call of a method without an object -/
theorem x_runS (C0 : Cx E p s m args meth c A cc nL own Ts ret) (hw : mw E A s.heap H locs ws) (hp : ws.Perm (w0 ++ F)) (hls : ls.size = nL)
    (cal : ∀ sz : Nat, Met l yc wsc rmc (va_Pc As (preW E w0 sz)) (Qc sz) 0 0 (va_A w0 sz)) (n : Nat) (hT : GoodIn Ts (va_wsS own index yc wsc)) (hcode : wsc = Cond.code yc bytes maxL retc :: wsc') (hrc : rmc.cells = 0 ∧ rmc.slots = 0)
    (hd : yc.cls ≠ "java/lang/invoke/MethodHandle" ∧ yc.cls ≠ "java/lang/invoke/VarHandle" ∧ (parseMethodDescriptor yc.desc).map (fun d => d.parameters.length) = some n) (hR : rmc.frames + 1 ≤ R.frames ∧ 8 + (maxL + 11) + rmc.locals ≤ R.locals)
    (hn : As.length = n) (hst : st0 = As.reverse ++ rest) (hcat : (rest.map fun v => v.category).sum ≤ 8) (hdg : decode cc pc = .ok (.invokestatic index, 3)) (hf : cells ≤ R.cells ∧ slots ≤ R.slots) :
    va_Run p l e R s m args below meth c H locs cells slots 0 0 (F0 m pc ls st0) rest (Qc H.size As.toArray) (va_A w0 H.size) :=
  va_runS (As := As) (rest := rest) ⟨C0.1, C0.2.1, C0.2.2.1, C0.2.2.2.1, C0.2.2.2.2.1⟩ (cal H.size) (va_cwS n C0.2.2.2.2.1 hT hcode hrc.1 hrc.2 hd hR) ⟨x_blind, fun _ hU hW => ⟨rfl, x_pre C0 hw hp hU hW⟩⟩ rfl hn hls hst (lv_room hcat) hdg hf
/-- the same, of a nest mate's -/
theorem x_runSN {host : String} (C0 : Cx E p s m args meth c A cc nL own Ts ret) (hw : mw E A s.heap H locs ws) (hp : ws.Perm (w0 ++ F)) (hls : ls.size = nL)
    (cal : ∀ sz : Nat, Met l yc wsc rmc (va_Pc As (preW E w0 sz)) (Qc sz) 0 0 (va_A w0 sz)) (n : Nat) (hT : GoodIn Ts wsc) (hcode : wsc = Cond.code yc bytes maxL retc :: wsc') (hrc : rmc.cells = 0 ∧ rmc.slots = 0) (i : Nat) (hl : nestWords[i]? = some (.methodLinkNest own index yc host)) (i2 : Nat) (hini : Ts[i2]? = some (Cond.initialized yc.cls)) (i3 : Nat) (hsta : Ts[i3]? = some (Cond.static yc))
    (hd : yc.cls ≠ "java/lang/invoke/MethodHandle" ∧ yc.cls ≠ "java/lang/invoke/VarHandle" ∧ (parseMethodDescriptor yc.desc).map (fun d => d.parameters.length) = some n) (hR : rmc.frames + 1 ≤ R.frames ∧ 8 + (maxL + 11) + rmc.locals ≤ R.locals)
    (hn : As.length = n) (hst : st0 = As.reverse ++ rest) (hcat : (rest.map fun v => v.category).sum ≤ 8) (hdg : decode cc pc = .ok (.invokestatic index, 3)) (hf : cells ≤ R.cells ∧ slots ≤ R.slots) :
    va_Run p l e R s m args below meth c H locs cells slots 0 0 (F0 m pc ls st0) rest (Qc H.size As.toArray) (va_A w0 H.size) :=
  va_runSN (As := As) (rest := rest) (host := host) ⟨C0.1, C0.2.1, C0.2.2.1, C0.2.2.2.1, C0.2.2.2.2.1⟩ (cal H.size) ⟨va_cnB n C0.2.2.2.2.1 hT hcode hrc.1 hrc.2 (C0.2.2.2.2.2.2.2.2.2.1 _ (List.mem_of_getElem? hl)) (C0.2.2.2.2.1 _ (List.mem_of_getElem? hini)) hd hR, C0.2.2.2.2.1 _ (List.mem_of_getElem? hsta), trivial⟩ ⟨x_blind, fun _ hU hW => ⟨rfl, x_pre C0 hw hp hU hW⟩⟩ rfl hn hls hst (lv_room hcat) hdg hf
theorem x_cV {S : Type} {post : Int32 → S → Prop} {w1 : S → va_W} (C0 : Cx E p s m args meth c A cc nL own Ts ret) (hw : mw E A s.heap H locs ws) (hp : ws.Perm (w0 ++ F)) (hls : ls.size = nL) (q0 ci : Nat) {fs : List Value} (he : ws[q0]? = some (b, .inr (ci, fs))) (hc : vwCl[ci]? = some (C, T, N))
    (cal : KI l E yc wsc rmc (.ref b :: As) w0 post w1) (n : Nat) (hT : GoodIn Ts (wsV own index C yc wsc)) (hcode : wsc = Cond.code yc bytes maxL retc :: wsc') (hrc : rmc.cells = 0 ∧ rmc.slots = 0)
    (hd : yc.cls = C ∧ yc.cls ≠ "java/lang/invoke/MethodHandle" ∧ yc.cls ≠ "java/lang/invoke/VarHandle" ∧ (parseMethodDescriptor yc.desc).map (fun d => d.parameters.length) = some n) (hR : rmc.frames + 1 ≤ R.frames ∧ 8 + (maxL + 11) + rmc.locals ≤ R.locals)
    (hn : As.length = n) (hst : st0 = As.reverse ++ .ref b :: rest) (hcat : (rest.map fun v => v.category).sum ≤ 8) (hdg : decode cc pc = .ok (.invokevirtual index, 3)) (hf : cells ≤ R.cells ∧ slots ≤ R.slots)
    (kk : ∀ (r : Int32) (u : S) (H1 : Heap) (locs1 : List Loc), post r u → mw E A s.heap H1 locs1 (w1 u ++ F) → W p l e R s m args below meth c H1 locs1 cells slots Q (F0 m (pc + 3) ls (.int r :: rest))) : W p l e R s m args below meth c H locs cells slots Q (F0 m pc ls st0) :=
  x_aft C0 hw hp (x_runV (Qc := fun sz => va_Qi post (fun u t => va_P E.1 vwCl (w1 u) t.heap ∧ va_D (va_A w0 sz) (w1 u)) (va_A w0 sz)) C0 hw hp hls q0 ci he hc cal n hT hcode hrc hd hR hn hst hcat hdg hf) kk
theorem x_cVv {S : Type} {post : S → Prop} {w1 : S → va_W} (C0 : Cx E p s m args meth c A cc nL own Ts ret) (hw : mw E A s.heap H locs ws) (hp : ws.Perm (w0 ++ F)) (hls : ls.size = nL) (q0 ci : Nat) {fs : List Value} (he : ws[q0]? = some (b, .inr (ci, fs))) (hc : vwCl[ci]? = some (C, T, N))
    (cal : KV l E yc wsc rmc (.ref b :: As) w0 post w1) (n : Nat) (hT : GoodIn Ts (wsV own index C yc wsc)) (hcode : wsc = Cond.code yc bytes maxL retc :: wsc') (hrc : rmc.cells = 0 ∧ rmc.slots = 0)
    (hd : yc.cls = C ∧ yc.cls ≠ "java/lang/invoke/MethodHandle" ∧ yc.cls ≠ "java/lang/invoke/VarHandle" ∧ (parseMethodDescriptor yc.desc).map (fun d => d.parameters.length) = some n) (hR : rmc.frames + 1 ≤ R.frames ∧ 8 + (maxL + 11) + rmc.locals ≤ R.locals)
    (hn : As.length = n) (hst : st0 = As.reverse ++ .ref b :: rest) (hcat : (rest.map fun v => v.category).sum ≤ 8) (hdg : decode cc pc = .ok (.invokevirtual index, 3)) (hf : cells ≤ R.cells ∧ slots ≤ R.slots)
    (kk : ∀ (u : S) (H1 : Heap) (locs1 : List Loc), post u → mw E A s.heap H1 locs1 (w1 u ++ F) → W p l e R s m args below meth c H1 locs1 cells slots Q (F0 m (pc + 3) ls rest)) : W p l e R s m args below meth c H locs cells slots Q (F0 m pc ls st0) :=
  x_aftv C0 hw hp (x_runV (Qc := fun sz => va_Qv post (fun u t => va_P E.1 vwCl (w1 u) t.heap ∧ va_D (va_A w0 sz) (w1 u)) (va_A w0 sz)) C0 hw hp hls q0 ci he hc cal n hT hcode hrc hd hR hn hst hcat hdg hf) kk
theorem x_cS {S : Type} {post : Int32 → S → Prop} {w1 : S → va_W} (C0 : Cx E p s m args meth c A cc nL own Ts ret) (hw : mw E A s.heap H locs ws) (hp : ws.Perm (w0 ++ F)) (hls : ls.size = nL)
    (cal : KI l E yc wsc rmc As w0 post w1) (n : Nat) (hT : GoodIn Ts (va_wsS own index yc wsc)) (hcode : wsc = Cond.code yc bytes maxL retc :: wsc') (hrc : rmc.cells = 0 ∧ rmc.slots = 0)
    (hd : yc.cls ≠ "java/lang/invoke/MethodHandle" ∧ yc.cls ≠ "java/lang/invoke/VarHandle" ∧ (parseMethodDescriptor yc.desc).map (fun d => d.parameters.length) = some n) (hR : rmc.frames + 1 ≤ R.frames ∧ 8 + (maxL + 11) + rmc.locals ≤ R.locals)
    (hn : As.length = n) (hst : st0 = As.reverse ++ rest) (hcat : (rest.map fun v => v.category).sum ≤ 8) (hdg : decode cc pc = .ok (.invokestatic index, 3)) (hf : cells ≤ R.cells ∧ slots ≤ R.slots)
    (kk : ∀ (r : Int32) (u : S) (H1 : Heap) (locs1 : List Loc), post r u → mw E A s.heap H1 locs1 (w1 u ++ F) → W p l e R s m args below meth c H1 locs1 cells slots Q (F0 m (pc + 3) ls (.int r :: rest))) : W p l e R s m args below meth c H locs cells slots Q (F0 m pc ls st0) :=
  x_aft C0 hw hp (x_runS (Qc := fun sz => va_Qi post (fun u t => va_P E.1 vwCl (w1 u) t.heap ∧ va_D (va_A w0 sz) (w1 u)) (va_A w0 sz)) C0 hw hp hls cal n hT hcode hrc hd hR hn hst hcat hdg hf) kk
theorem x_cSN {host : String} {S : Type} {post : Int32 → S → Prop} {w1 : S → va_W} (C0 : Cx E p s m args meth c A cc nL own Ts ret) (hw : mw E A s.heap H locs ws) (hp : ws.Perm (w0 ++ F)) (hls : ls.size = nL)
    (cal : KI l E yc wsc rmc As w0 post w1) (n : Nat) (hT : GoodIn Ts wsc) (hcode : wsc = Cond.code yc bytes maxL retc :: wsc') (hrc : rmc.cells = 0 ∧ rmc.slots = 0) (i : Nat) (hl : nestWords[i]? = some (.methodLinkNest own index yc host)) (i2 : Nat) (hini : Ts[i2]? = some (Cond.initialized yc.cls)) (i3 : Nat) (hsta : Ts[i3]? = some (Cond.static yc))
    (hd : yc.cls ≠ "java/lang/invoke/MethodHandle" ∧ yc.cls ≠ "java/lang/invoke/VarHandle" ∧ (parseMethodDescriptor yc.desc).map (fun d => d.parameters.length) = some n) (hR : rmc.frames + 1 ≤ R.frames ∧ 8 + (maxL + 11) + rmc.locals ≤ R.locals)
    (hn : As.length = n) (hst : st0 = As.reverse ++ rest) (hcat : (rest.map fun v => v.category).sum ≤ 8) (hdg : decode cc pc = .ok (.invokestatic index, 3)) (hf : cells ≤ R.cells ∧ slots ≤ R.slots)
    (kk : ∀ (r : Int32) (u : S) (H1 : Heap) (locs1 : List Loc), post r u → mw E A s.heap H1 locs1 (w1 u ++ F) → W p l e R s m args below meth c H1 locs1 cells slots Q (F0 m (pc + 3) ls (.int r :: rest))) : W p l e R s m args below meth c H locs cells slots Q (F0 m pc ls st0) :=
  x_aft C0 hw hp (x_runSN (Qc := fun sz => va_Qi post (fun u t => va_P E.1 vwCl (w1 u) t.heap ∧ va_D (va_A w0 sz) (w1 u)) (va_A w0 sz)) C0 hw hp hls cal n hT hcode hrc i hl i2 hini i3 hsta hd hR hn hst hcat hdg hf) kk
end RUN
theorem p_nil (w : va_W) : w.Perm (w ++ []) := by rw [List.append_nil]
theorem p_non (w : va_W) : w.Perm (([] : va_W) ++ w) := List.Perm.refl _
theorem p_pk {α : Type} : ∀ (l : List α) (i : Nat) (x : α), l[i]? = some x → l.Perm (x :: l.eraseIdx i)
  | [], _, _, h => by simp at h
  | a :: l, 0, x, h => by
    simp at h
    subst h
    exact List.Perm.refl _
  | a :: l, i + 1, x, h => by
    have h2 := p_pk l i x (by simpa using h)
    show (a :: l).Perm (x :: a :: l.eraseIdx i)
    exact (List.Perm.cons a h2).trans (List.Perm.swap x a _)
theorem p_fl {cs ds rs : List va_W} (h : cs.Perm (ds ++ rs)) : cs.flatten.Perm (ds.flatten ++ rs.flatten) := by
  rw [← List.flatten_append]
  exact h.flatten
theorem p_fl1 {cs rs : List va_W} {d : va_W} (h : cs.Perm (d :: rs)) : cs.flatten.Perm (d ++ rs.flatten) := h.flatten
theorem p_bk {cs ds rs : List va_W} (h : cs.Perm (ds ++ rs)) : (ds.flatten ++ rs.flatten).Perm cs.flatten := (p_fl h).symm
theorem p_bk1 {cs rs : List va_W} {d : va_W} (h : cs.Perm (d :: rs)) : (d ++ rs.flatten).Perm cs.flatten := (p_fl1 h).symm
end FR
/-- the cells of a market -/
def cM (E : EE) (a : Nat → Nat) (v : V) : va_W := [
  (a 0, .inr (1, [.ref (a 1), .ref (a 6), .ref (a 16), .ref (a 22), .int (v 0 4), .int (v 0 5), .int (v 0 6), .int (v 0 7), .int (v 0 8)])),
  (a 1, .inr (3, [.ref (a 2), .ref (a 3), .ref (a 4), .ref (a 5)])),
  (a 2, .inl (E.2.1, 24, .inl (v 2))), (a 3, .inl (E.2.1, 24, .inl (v 3))), (a 4, .inl (E.2.1, 24, .inl (v 4))), (a 5, .inl (E.2.1, 24, .inl (v 5))),
  (a 6, .inr (5, [.int (v 6 0), .ref (a 7), .ref (a 8), .ref (a 9), .ref (a 10), .ref (a 11), .ref (a 12), .ref (a 13), .ref (a 14), .ref (a 15)])),
  (a 7, .inl (E.2.1, 20, .inl (v 7))), (a 8, .inl (E.2.1, 20, .inl (v 8))), (a 9, .inl (E.2.1, 20, .inl (v 9))), (a 10, .inl (E.2.1, 20, .inl (v 10))), (a 11, .inl (E.2.1, 20, .inl (v 11))), (a 12, .inl (E.2.1, 20, .inl (v 12))), (a 13, .inl (E.2.1, 20, .inl (v 13))), (a 14, .inl (E.2.1, 20, .inl (v 14))), (a 15, .inl (E.2.1, 20, .inl (v 15))),
  (a 16, .inr (2, [.int (v 16 0), .ref (a 17), .ref (a 18), .ref (a 19), .ref (a 20), .ref (a 21)])),
  (a 17, .inl (E.2.1, 10, .inl (v 17))), (a 18, .inl (E.2.1, 10, .inl (v 18))), (a 19, .inl (E.2.1, 10, .inl (v 19))), (a 20, .inl (E.2.1, 10, .inl (v 20))), (a 21, .inl (E.2.1, 10, .inl (v 21))),
  (a 22, .inl (E.2.1, 6, .inl (v 22)))]
/-- the cells of the reference -/
def cR (E : EE) (a : Nat → Nat) (v : V) : va_W := [
  (a 0, .inr (7, [.ref (a 1), .ref (a 2), .ref (a 3), .int (v 0 3), .ref (a 4), .int (v 0 5), .ref (a 5), .int (v 0 7), .int (v 0 8), .int (v 0 9), .int (v 0 10), .int (v 0 11), .ref (a 6)])),
  (a 1, .inl (E.2.1, 664, .inl (v 1))), (a 2, .inl (E.2.1, 664, .inl (v 2))), (a 3, .inl (E.2.1, 664, .inl (v 3))), (a 4, .inl (E.2.1, 2656, .inl (v 4))), (a 5, .inl (E.2.1, 60, .inl (v 5))), (a 6, .inl (E.2.1, 4, .inl (v 6)))]
/-- the cells of a script -/
def cS (E : EE) (a : Nat → Nat) (v : V) : va_W := [
  (a 0, .inr (4, [.ref (a 1), .int (v 0 1), .int (v 0 2), .ref (a 2), .int (v 0 4), .int (v 0 5), .int (v 0 6), .int (v 0 7)])),
  (a 1, .inl (E.2.2.1, 60, .inl (v 1))), (a 2, .inl (E.2.1, 4, .inl (v 2)))]
/-- which market a place of the history holds -/
def hRow (b0 b1 b2 b3 : Nat) : Nat → Option Nat := va_up (va_up (va_up (va_up (fun _ => none) 0 (some b0)) 1 (some b1)) 2 (some b2)) 3 (some b3)
/-- the cells of the history, but for its markets -/
def cH (E : EE) (a : Nat → Nat) (b0 b1 b2 b3 : Nat) (v : V) : va_W := [
  (a 0, .inr (0, [.ref (a 1), .int (v 0 1), .int (v 0 2)])),
  (a 1, .inl (E.2.2.2.1, 4, .inr (.inr (.inr (.inr (hRow b0 b1 b2 b3))))))]
/-- the outermost cell -/
def cG (a : Nat → Nat) (b0 b1 b2 b3 b4 b5 : Nat) (v : V) : va_W := [
  (a 0, .inr (6, [.ref b0, .ref b1, .ref b2, .ref b3, .ref b4, .ref b5, .int (v 0 6)]))]
