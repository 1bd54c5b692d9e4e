abbrev rmX7_price : Room := { frames := 2, cells := 0, slots := 0, locals := 50 }
set_option maxRecDepth 100000 in
set_option maxHeartbeats 4000000 in
theorem c_X7_price (l : Launch) (E : EE) (aR : Nat → Nat) {v : V}  {p1 : Int32} {post : Int32 → V → Prop} (h : s_X7_price v p1 post) : KI l E yX7_price wsX7_price rmX7_price [.ref (aR 0), .int p1] (cR E aR v) post (fun u => cR E aR u) := by
  unfold s_X7_price at h
  refine KI.go (cc := cX7_price) (ret := (some .int)) (maxL := 3) (own := RX7) (by decide) rfl (Nat.le_of_ble_eq_true rfl) rfl (fun p e s m below meth c A ls C0 hw hl => ?_)
  have hx := C0.1
  have hb := C0.2.1
  replace hl : lv_has ls 3 [(0, .ref (aR 0)), (1, .int p1)] := hl
  refine lv_aload_n hx hb dX7_price_0 rfl (lv_at hl 0 rfl) ?_
  refine lv_aload_n hx hb dX7_price_1 rfl (lv_at hl 0 rfl) ?_
  refine lv_iload_n hx hb dX7_price_2 rfl (lv_at hl 1 rfl) ?_
  refine x_cV (As := [.int p1]) (rest := [.ref (aR 0)]) (F := []) C0 hw (p_nil _) hl.1 0 7 rfl rfl (c_X7_sieve l E aR h) 1 gX7_price_X7_sieve rfl ⟨rfl, rfl⟩ (by decide +kernel) ⟨Nat.le_of_ble_eq_true rfl, Nat.le_of_ble_eq_true rfl⟩ rfl rfl (Nat.le_of_ble_eq_true rfl) dX7_price_3 ⟨Nat.zero_le _, Nat.zero_le _⟩ (fun r_1 v_2 H locs h (hw : mw E A s.heap H locs (cR E aR v_2)) => ?_)
  refine lv_aload_n hx hb dX7_price_6 rfl (lv_at hl 0 rfl) ?_
  refine lv_iload_n hx hb dX7_price_7 rfl (lv_at hl 1 rfl) ?_
  refine lv_iconst (v := 1) hx hb dX7_price_8 (by decide) ?_
  refine x_cV (As := [.int p1, .int 1]) (rest := [.int r_1, .ref (aR 0)]) (F := []) C0 hw (p_nil _) hl.1 0 7 rfl rfl (c_X7_ofStone l E aR h) 2 gX7_price_X7_ofStone rfl ⟨rfl, rfl⟩ (by decide +kernel) ⟨Nat.le_of_ble_eq_true rfl, Nat.le_of_ble_eq_true rfl⟩ rfl rfl (Nat.le_of_ble_eq_true rfl) dX7_price_9 ⟨Nat.zero_le _, Nat.zero_le _⟩ (fun r_3 v_4 H locs h (hw : mw E A s.heap H locs (cR E aR v_4)) => ?_)
  refine lv_aload_n hx hb dX7_price_12 rfl (lv_at hl 0 rfl) ?_
  refine lv_iload_n hx hb dX7_price_13 rfl (lv_at hl 1 rfl) ?_
  refine lv_iconst (v := 2) hx hb dX7_price_14 (by decide) ?_
  refine x_cV (As := [.int p1, .int 2]) (rest := [.int r_3, .int r_1, .ref (aR 0)]) (F := []) C0 hw (p_nil _) hl.1 0 7 rfl rfl (c_X7_ofStone l E aR h) 2 gX7_price_X7_ofStone rfl ⟨rfl, rfl⟩ (by decide +kernel) ⟨Nat.le_of_ble_eq_true rfl, Nat.le_of_ble_eq_true rfl⟩ rfl rfl (Nat.le_of_ble_eq_true rfl) dX7_price_15 ⟨Nat.zero_le _, Nat.zero_le _⟩ (fun r_5 v_6 H locs h (hw : mw E A s.heap H locs (cR E aR v_6)) => ?_)
  refine x_cV (As := [.int r_1, .int r_3, .int r_5]) (rest := []) (F := []) C0 hw (p_nil _) hl.1 0 7 rfl rfl (c_X7_rateFor l E aR h) 3 gX7_price_X7_rateFor rfl ⟨rfl, rfl⟩ (by decide +kernel) ⟨Nat.le_of_ble_eq_true rfl, Nat.le_of_ble_eq_true rfl⟩ rfl rfl (Nat.le_of_ble_eq_true rfl) dX7_price_18 ⟨Nat.zero_le _, Nat.zero_le _⟩ (fun r_7 v_8 H locs h (hw : mw E A s.heap H locs (cR E aR v_8)) => ?_)
  refine lv_istore_n (lv' := [(2, .int r_7), (0, .ref (aR 0)), (1, .int p1)]) hx hb dX7_price_21 rfl hl (by decide) rfl (fun ls hl => ?_)
  refine lv_iload_n hx hb dX7_price_22 rfl (lv_at hl 0 rfl) ?_
  refine lv_if_ne (tgt := 30) hx hb dX7_price_23 (by decide) (fun c_11 => ?_) (fun c_11 => ?_)
  · replace h := h.1 c_11
    refine lv_aload_n hx hb dX7_price_30 rfl (lv_at hl 1 rfl) ?_
    refine lv_iload_n hx hb dX7_price_31 rfl (lv_at hl 2 rfl) ?_
    refine lv_iconst (v := 0) hx hb dX7_price_32 (by decide) ?_
    refine x_cV (As := [.int p1, .int 0]) (rest := []) (F := []) C0 hw (p_nil _) hl.1 0 7 rfl rfl (c_X7_ofStone l E aR h) 2 gX7_price_X7_ofStone rfl ⟨rfl, rfl⟩ (by decide +kernel) ⟨Nat.le_of_ble_eq_true rfl, Nat.le_of_ble_eq_true rfl⟩ rfl rfl (Nat.le_of_ble_eq_true rfl) dX7_price_33 ⟨Nat.zero_le _, Nat.zero_le _⟩ (fun r_9 v_10 H locs h (hw : mw E A s.heap H locs (cR E aR v_10)) => ?_)
    refine lv_iload_n hx hb dX7_price_36 rfl (lv_at hl 0 rfl) ?_
    refine lv_imul hx hb dX7_price_37 ?_
    refine lv_bipush (v := 100) hx hb dX7_price_38 (by decide) ?_
    refine lv_idiv hx hb dX7_price_40 (by decide) ?_
    exact x_ret C0 v_10 hw h dX7_price_41
  · replace h := h.2 c_11
    refine lv_iconst (v := (-1)) hx hb dX7_price_26 (by decide) ?_
    refine lv_goto (tgt := 41) hx hb dX7_price_27 (by decide) ?_
    exact x_ret C0 v_8 hw h dX7_price_41

abbrev rmX7_outBy : Room := { frames := 1, cells := 0, slots := 0, locals := 22 }
set_option maxRecDepth 100000 in
set_option maxHeartbeats 4000000 in
theorem w_X7_outBy_4 {p : Program} {l : Launch} {e : Env} {s : State} {m : MethodId} {below : List Frame} {meth : Method} {c : Code} {E : EE} {A : Nat → Prop} {aR : Nat → Nat} {args : Array Value} (C0 : Cx E p s m args meth c A cX7_outBy 4 RX7 wsX7_outBy (some .int)) {post : Int32 → V → Prop}  {f1 : Int32} {k0 : Int32 → Int32 → V → Prop} : ∀ (n : Nat) (x2 : Int32) (x3 : Int32) (v : V), sl_X7_outBy_4 post f1 k0 n x2 x3 v → ∀ (H : Heap) (locs : List Loc) (ls : Array Slot), mw E A s.heap H locs (cR E aR v) → lv_has ls 4 [(0, .ref (aR 0)), (1, .int f1), (2, .int x2), (3, .int x3)] → (∀ (x2 : Int32) (x3 : Int32) (v : V) (H : Heap) (locs : List Loc) (ls : Array Slot), k0 x2 x3 v → mw E A s.heap H locs (cR E aR v) → lv_has ls 4 [(0, .ref (aR 0)), (1, .int f1), (2, .int x2), (3, .int x3)] → W p l e rmX7_outBy s m args below meth c H locs 0 0 (qI E A post (fun u => cR E aR u) below args s) (F0 m 40 ls [])) → W p l e rmX7_outBy s m args below meth c H locs 0 0 (qI E A post (fun u => cR E aR u) below args s) (F0 m 4 ls []) := by
  have hx := C0.1
  have hb := C0.2.1
  have hiX7 : ∀ w ∈ wsX70, w ∈ wsX7_outBy := fun w h => List.mem_cons_of_mem _ (List.mem_append_right _ h)
  intro n
  induction n with
  | zero => intro x2 x3 v h; exact False.elim h
  | succ n ih =>
    intro x2 x3 v h H locs ls hw hl hk0
    replace h : sb_X7_outBy_4 post f1 k0 (sl_X7_outBy_4 post f1 k0 n) x2 x3 v := h
    unfold sb_X7_outBy_4 at h
    refine lv_iload_n hx hb dX7_outBy_4 rfl (lv_at hl 3 rfl) ?_
    refine lv_aload_n hx hb dX7_outBy_5 rfl (lv_at hl 0 rfl) ?_
    refine x_get C0 hw 7 hiX7 rfl 0 rfl 0 (by decide) 1 rfl rfl dX7_outBy_6 ?_
    refine lv_iconst (v := 1) hx hb dX7_outBy_9 (by decide) ?_
    refine x_ald C0 hw 1 rfl (vp_in_nI (n := 1) (by decide) (by decide)) dX7_outBy_10 ?_
    refine lv_icmp_ge (tgt := 40) hx hb dX7_outBy_11 (by decide) (fun c_4 => ?_) (fun c_4 => ?_)
    · replace h := h.1 c_4
      exact hk0 _ _ _ _ _ _ h hw (lv_sub hl [0, 1, 2, 3] rfl)
    · replace h := h.2 c_4
      refine lv_iload_n hx hb dX7_outBy_14 rfl (lv_at hl 2 rfl) ?_
      refine lv_aload_n hx hb dX7_outBy_15 rfl (lv_at hl 0 rfl) ?_
      refine lv_iload_n hx hb dX7_outBy_16 rfl (lv_at hl 3 rfl) ?_
      refine lv_iconst (v := 5) hx hb dX7_outBy_17 (by decide) ?_
      refine x_cV (As := [.int x3, .int 5]) (rest := [.int x2]) (F := []) C0 hw (p_nil _) hl.1 0 7 rfl rfl (c_X7_ofStone l E aR h) 2 gX7_outBy_X7_ofStone rfl ⟨rfl, rfl⟩ (by decide +kernel) ⟨Nat.le_of_ble_eq_true rfl, Nat.le_of_ble_eq_true rfl⟩ rfl rfl (Nat.le_of_ble_eq_true rfl) dX7_outBy_18 ⟨Nat.zero_le _, Nat.zero_le _⟩ (fun r_1 v_2 H locs h (hw : mw E A s.heap H locs (cR E aR v_2)) => ?_)
      refine lv_iload_n hx hb dX7_outBy_21 rfl (lv_at hl 1 rfl) ?_
      refine lv_icmp_ne (tgt := 31) hx hb dX7_outBy_22 (by decide) (fun c_3 => ?_) (fun c_3 => ?_)
      · replace h := h.1 c_3
        refine lv_iconst (v := 0) hx hb dX7_outBy_31 (by decide) ?_
        refine lv_ior hx hb dX7_outBy_32 ?_
        refine lv_istore_n (lv' := [(2, .int (x2 ||| 0)), (0, .ref (aR 0)), (1, .int f1), (3, .int x3)]) hx hb dX7_outBy_33 rfl hl (by decide) rfl (fun ls hl => ?_)
        refine lv_iinc (v := (x3 + 1)) (lv' := [(3, .int (x3 + 1)), (2, .int (x2 ||| 0)), (0, .ref (aR 0)), (1, .int f1)]) hx hb dX7_outBy_34 hl (k := 3) rfl rfl (by decide) rfl (fun ls hl => ?_)
        refine lv_goto (tgt := 4) hx hb dX7_outBy_37 (by decide) ?_
        exact ih _ _ _ h _ _ _ hw (lv_sub hl [2, 3, 1, 0] rfl) hk0
      · replace h := h.2 c_3
        refine lv_iconst (v := 1) hx hb dX7_outBy_25 (by decide) ?_
        refine lv_iload_n hx hb dX7_outBy_26 rfl (lv_at hl 3 rfl) ?_
        refine lv_ishl hx hb dX7_outBy_27 ?_
        refine lv_goto (tgt := 32) hx hb dX7_outBy_28 (by decide) ?_
        refine lv_ior hx hb dX7_outBy_32 ?_
        refine lv_istore_n (lv' := [(2, .int (x2 ||| (1 <<< (x3 &&& 31)))), (0, .ref (aR 0)), (1, .int f1), (3, .int x3)]) hx hb dX7_outBy_33 rfl hl (by decide) rfl (fun ls hl => ?_)
        refine lv_iinc (v := (x3 + 1)) (lv' := [(3, .int (x3 + 1)), (2, .int (x2 ||| (1 <<< (x3 &&& 31)))), (0, .ref (aR 0)), (1, .int f1)]) hx hb dX7_outBy_34 hl (k := 3) rfl rfl (by decide) rfl (fun ls hl => ?_)
        refine lv_goto (tgt := 4) hx hb dX7_outBy_37 (by decide) ?_
        exact ih _ _ _ h _ _ _ hw (lv_sub hl [2, 3, 1, 0] rfl) hk0
set_option maxRecDepth 100000 in
set_option maxHeartbeats 4000000 in
theorem c_X7_outBy (l : Launch) (E : EE) (aR : Nat → Nat) {v : V}  {p1 : Int32} {post : Int32 → V → Prop} (h : s_X7_outBy v p1 post) : KI l E yX7_outBy wsX7_outBy rmX7_outBy [.ref (aR 0), .int p1] (cR E aR v) post (fun u => cR E aR u) := by
  unfold s_X7_outBy at h
  refine KI.go (cc := cX7_outBy) (ret := (some .int)) (maxL := 4) (own := RX7) (by decide) rfl (Nat.le_of_ble_eq_true rfl) rfl (fun p e s m below meth c A ls C0 hw hl => ?_)
  have hx := C0.1
  have hb := C0.2.1
  have hiX7 : ∀ w ∈ wsX70, w ∈ wsX7_outBy := fun w h => List.mem_cons_of_mem _ (List.mem_append_right _ h)
  replace hl : lv_has ls 4 [(0, .ref (aR 0)), (1, .int p1)] := hl
  refine lv_iconst (v := 0) hx hb dX7_outBy_0 (by decide) ?_
  refine lv_istore_n (lv' := [(2, .int 0), (0, .ref (aR 0)), (1, .int p1)]) hx hb dX7_outBy_1 rfl hl (by decide) rfl (fun ls hl => ?_)
  refine lv_iconst (v := 0) hx hb dX7_outBy_2 (by decide) ?_
  refine lv_istore_n (lv' := [(3, .int 0), (2, .int 0), (0, .ref (aR 0)), (1, .int p1)]) hx hb dX7_outBy_3 rfl hl (by decide) rfl (fun ls hl => ?_)
  obtain ⟨n_5, h⟩ := h
  refine w_X7_outBy_4 C0 _ _ _ _ h _ _ _ hw (lv_sub hl [2, 3, 1, 0] rfl) ?_
  · intro x2_6 x3_7 v_8 H locs ls h hw hl
    refine lv_iload_n hx hb dX7_outBy_40 rfl (lv_at hl 2 rfl) ?_
    exact x_ret C0 v_8 hw h dX7_outBy_41

abbrev rmX7_ones : Room := { frames := 0, cells := 0, slots := 0, locals := 0 }
set_option maxRecDepth 100000 in
set_option maxHeartbeats 4000000 in
theorem w_X7_ones_4 {p : Program} {l : Launch} {e : Env} {s : State} {m : MethodId} {below : List Frame} {meth : Method} {c : Code} {E : EE} {A : Nat → Prop}  {args : Array Value} (C0 : Cx E p s m args meth c A cX7_ones 3 RX7 wsX7_ones (some .int)) {post : Int32 → Prop}  {f0 : Int32} {k0 : Int32 → Int32 → Prop} : ∀ (n : Nat) (x1 : Int32) (x2 : Int32) , sl_X7_ones_4 post f0 k0 n x1 x2 → ∀ (H : Heap) (locs : List Loc) (ls : Array Slot), mw E A s.heap H locs ([] : va_W) → lv_has ls 3 [(0, .int f0), (1, .int x1), (2, .int x2)] → (∀ (x1 : Int32) (x2 : Int32)  (H : Heap) (locs : List Loc) (ls : Array Slot), k0 x1 x2 → mw E A s.heap H locs ([] : va_W) → lv_has ls 3 [(0, .int f0), (1, .int x1), (2, .int x2)] → W p l e rmX7_ones s m args below meth c H locs 0 0 (qI E A (fun r (_ : Unit) => post r) (fun (_ : Unit) => ([] : va_W)) below args s) (F0 m 24 ls [])) → W p l e rmX7_ones s m args below meth c H locs 0 0 (qI E A (fun r (_ : Unit) => post r) (fun (_ : Unit) => ([] : va_W)) below args s) (F0 m 4 ls []) := by
  have hx := C0.1
  have hb := C0.2.1
  intro n
  induction n with
  | zero => intro x1 x2 h; exact False.elim h
  | succ n ih =>
    intro x1 x2 h H locs ls hw hl hk0
    replace h : sb_X7_ones_4 post f0 k0 (sl_X7_ones_4 post f0 k0 n) x1 x2 := h
    unfold sb_X7_ones_4 at h
    refine lv_iload_n hx hb dX7_ones_4 rfl (lv_at hl 2 rfl) ?_
    refine lv_bipush (v := 20) hx hb dX7_ones_5 (by decide) ?_
    refine lv_icmp_ge (tgt := 24) hx hb dX7_ones_7 (by decide) (fun c_1 => ?_) (fun c_1 => ?_)
    · replace h := h.1 c_1
      exact hk0 _ _ _ _ _ h hw (lv_sub hl [0, 1, 2] rfl)
    · replace h := h.2 c_1
      refine lv_iload_n hx hb dX7_ones_10 rfl (lv_at hl 1 rfl) ?_
      refine lv_iload_n hx hb dX7_ones_11 rfl (lv_at hl 0 rfl) ?_
      refine lv_iload_n hx hb dX7_ones_12 rfl (lv_at hl 2 rfl) ?_
      refine lv_ishr hx hb dX7_ones_13 ?_
      refine lv_iconst (v := 1) hx hb dX7_ones_14 (by decide) ?_
      refine lv_iand hx hb dX7_ones_15 ?_
      refine lv_iadd hx hb dX7_ones_16 ?_
      refine lv_istore_n (lv' := [(1, .int (x1 + ((f0 >>> (x2 &&& 31)) &&& 1))), (0, .int f0), (2, .int x2)]) hx hb dX7_ones_17 rfl hl (by decide) rfl (fun ls hl => ?_)
      refine lv_iinc (v := (x2 + 1)) (lv' := [(2, .int (x2 + 1)), (1, .int (x1 + ((f0 >>> (x2 &&& 31)) &&& 1))), (0, .int f0)]) hx hb dX7_ones_18 hl (k := 2) rfl rfl (by decide) rfl (fun ls hl => ?_)
      refine lv_goto (tgt := 4) hx hb dX7_ones_21 (by decide) ?_
      exact ih _ _ h _ _ _ hw (lv_sub hl [2, 1, 0] rfl) hk0
set_option maxRecDepth 100000 in
set_option maxHeartbeats 4000000 in
theorem c_X7_ones (l : Launch) (E : EE)    {p0 : Int32} {post : Int32 → Prop} (h : s_X7_ones p0 post) : KI l E yX7_ones wsX7_ones rmX7_ones [.int p0] ([] : va_W) (S := Unit) (fun r (_ : Unit) => post r) (fun (_ : Unit) => ([] : va_W)) := by
  unfold s_X7_ones at h
  refine KI.go (cc := cX7_ones) (ret := (some .int)) (maxL := 3) (own := RX7) (by decide) rfl (Nat.le_of_ble_eq_true rfl) rfl (fun p e s m below meth c A ls C0 hw hl => ?_)
  have hx := C0.1
  have hb := C0.2.1
  replace hl : lv_has ls 3 [(0, .int p0)] := hl
  refine lv_iconst (v := 0) hx hb dX7_ones_0 (by decide) ?_
  refine lv_istore_n (lv' := [(1, .int 0), (0, .int p0)]) hx hb dX7_ones_1 rfl hl (by decide) rfl (fun ls hl => ?_)
  refine lv_iconst (v := 0) hx hb dX7_ones_2 (by decide) ?_
  refine lv_istore_n (lv' := [(2, .int 0), (1, .int 0), (0, .int p0)]) hx hb dX7_ones_3 rfl hl (by decide) rfl (fun ls hl => ?_)
  obtain ⟨n_2, h⟩ := h
  refine w_X7_ones_4 C0 _ _ _ h _ _ _ hw (lv_sub hl [2, 1, 0] rfl) ?_
  · intro x1_3 x2_4 H locs ls h hw hl
    refine lv_iload_n hx hb dX7_ones_24 rfl (lv_at hl 1 rfl) ?_
    exact x_ret C0 () hw h dX7_ones_25

abbrev rmX7_mayLend : Room := { frames := 3, cells := 0, slots := 0, locals := 72 }
set_option maxRecDepth 100000 in
set_option maxHeartbeats 4000000 in
theorem w_X7_mayLend_5 {p : Program} {l : Launch} {e : Env} {s : State} {m : MethodId} {below : List Frame} {meth : Method} {c : Code} {E : EE} {A : Nat → Prop} {aR : Nat → Nat} {args : Array Value} (C0 : Cx E p s m args meth c A cX7_mayLend 6 RX7 wsX7_mayLend (some .boolean)) {post : Int32 → V → Prop}  {f1 : Int32} {f2 : Int32} {k0 : Int32 → Int32 → V → Prop} : ∀ (n : Nat) (x3 : Int32) (x4 : Int32) (v : V), sl_X7_mayLend_5 post f1 f2 k0 n x3 x4 v → ∀ (H : Heap) (locs : List Loc) (ls : Array Slot), mw E A s.heap H locs (cR E aR v) → lv_has ls 6 [(0, .ref (aR 0)), (1, .int f1), (2, .int f2), (3, .int x3), (4, .int x4)] → (∀ (x3 : Int32) (x4 : Int32) (v : V) (H : Heap) (locs : List Loc) (ls : Array Slot), k0 x3 x4 v → mw E A s.heap H locs (cR E aR v) → lv_has ls 6 [(0, .ref (aR 0)), (1, .int f1), (2, .int f2), (3, .int x3), (4, .int x4)] → W p l e rmX7_mayLend s m args below meth c H locs 0 0 (qI E A post (fun u => cR E aR u) below args s) (F0 m 93 ls [])) → W p l e rmX7_mayLend s m args below meth c H locs 0 0 (qI E A post (fun u => cR E aR u) below args s) (F0 m 5 ls []) := by
  have hx := C0.1
  have hb := C0.2.1
  have hiX7 : ∀ w ∈ wsX70, w ∈ wsX7_mayLend := fun w h => List.mem_cons_of_mem _ (List.mem_append_right _ h)
  intro n
  induction n with
  | zero => intro x3 x4 v h; exact False.elim h
  | succ n ih =>
    intro x3 x4 v h H locs ls hw hl hk0
    replace h : sb_X7_mayLend_5 post f1 f2 k0 (sl_X7_mayLend_5 post f1 f2 k0 n) x3 x4 v := h
    unfold sb_X7_mayLend_5 at h
    refine lv_iload hx hb dX7_mayLend_5 (lv_at hl 4 rfl) ?_
    refine lv_aload_n hx hb dX7_mayLend_7 rfl (lv_at hl 0 rfl) ?_
    refine x_get C0 hw 7 hiX7 rfl 0 rfl 0 (by decide) 1 rfl rfl dX7_mayLend_8 ?_
    refine lv_iconst (v := 1) hx hb dX7_mayLend_11 (by decide) ?_
    refine x_ald C0 hw 1 rfl (vp_in_nI (n := 1) (by decide) (by decide)) dX7_mayLend_12 ?_
    refine lv_icmp_ge (tgt := 93) hx hb dX7_mayLend_13 (by decide) (fun c_23 => ?_) (fun c_23 => ?_)
    · replace h := h.1 c_23
      exact hk0 _ _ _ _ _ _ h hw (lv_sub hl [0, 1, 2, 3, 4] rfl)
    · replace h := h.2 c_23
      refine lv_aload_n hx hb dX7_mayLend_16 rfl (lv_at hl 0 rfl) ?_
      refine lv_iload hx hb dX7_mayLend_17 (lv_at hl 4 rfl) ?_
      refine lv_iconst (v := 3) hx hb dX7_mayLend_19 (by decide) ?_
      refine x_cV (As := [.int x4, .int 3]) (rest := []) (F := []) C0 hw (p_nil _) hl.1 0 7 rfl rfl (c_X7_ofStone l E aR h) 2 gX7_mayLend_X7_ofStone rfl ⟨rfl, rfl⟩ (by decide +kernel) ⟨Nat.le_of_ble_eq_true rfl, Nat.le_of_ble_eq_true rfl⟩ rfl rfl (Nat.le_of_ble_eq_true rfl) dX7_mayLend_20 ⟨Nat.zero_le _, Nat.zero_le _⟩ (fun r_1 v_2 H locs h (hw : mw E A s.heap H locs (cR E aR v_2)) => ?_)
      refine lv_iload_n hx hb dX7_mayLend_23 rfl (lv_at hl 1 rfl) ?_
      refine lv_icmp_ne (tgt := 60) hx hb dX7_mayLend_24 (by decide) (fun c_22 => ?_) (fun c_22 => ?_)
      · replace h := h.1 c_22
        refine lv_iconst (v := 0) hx hb dX7_mayLend_60 (by decide) ?_
        refine lv_istore (lv' := [(5, .int 0), (0, .ref (aR 0)), (1, .int f1), (2, .int f2), (3, .int x3), (4, .int x4)]) hx hb dX7_mayLend_61 hl (by decide) rfl (fun ls hl => ?_)
        refine lv_iload_n hx hb dX7_mayLend_63 rfl (lv_at hl 4 rfl) ?_
        refine lv_if_eq (tgt := 85) hx hb dX7_mayLend_64 (by decide) (fun c_4 => ?_) (fun c_4 => ?_)
        · replace h := h.1 c_4
          refine lv_iconst (v := 0) hx hb dX7_mayLend_85 (by decide) ?_
          refine lv_istore_n (lv' := [(3, .int 0), (5, .int 0), (0, .ref (aR 0)), (1, .int f1), (2, .int f2), (4, .int x4)]) hx hb dX7_mayLend_86 rfl hl (by decide) rfl (fun ls hl => ?_)
          refine lv_iinc (v := (x4 + 1)) (lv' := [(4, .int (x4 + 1)), (3, .int 0), (5, .int 0), (0, .ref (aR 0)), (1, .int f1), (2, .int f2)]) hx hb dX7_mayLend_87 hl (k := 5) rfl rfl (by decide) rfl (fun ls hl => ?_)
          refine lv_goto (tgt := 5) hx hb dX7_mayLend_90 (by decide) ?_
          exact ih _ _ _ h _ _ _ hw (lv_sub hl [3, 4, 5, 1, 0] rfl) hk0
        · replace h := h.2 c_4
          refine lv_iload_n hx hb dX7_mayLend_67 rfl (lv_at hl 3 rfl) ?_
          refine lv_iload hx hb dX7_mayLend_68 (lv_at hl 5 rfl) ?_
          refine lv_ishr hx hb dX7_mayLend_70 ?_
          refine lv_iconst (v := 1) hx hb dX7_mayLend_71 (by decide) ?_
          refine lv_iand hx hb dX7_mayLend_72 ?_
          refine lv_if_eq (tgt := 81) hx hb dX7_mayLend_73 (by decide) (fun c_3 => ?_) (fun c_3 => ?_)
          · replace h := h.1 c_3
            refine lv_iconst (v := 1) hx hb dX7_mayLend_81 (by decide) ?_
            refine lv_goto (tgt := 86) hx hb dX7_mayLend_82 (by decide) ?_
            refine lv_istore_n (lv' := [(3, .int 1), (5, .int 0), (0, .ref (aR 0)), (1, .int f1), (2, .int f2), (4, .int x4)]) hx hb dX7_mayLend_86 rfl hl (by decide) rfl (fun ls hl => ?_)
            refine lv_iinc (v := (x4 + 1)) (lv' := [(4, .int (x4 + 1)), (3, .int 1), (5, .int 0), (0, .ref (aR 0)), (1, .int f1), (2, .int f2)]) hx hb dX7_mayLend_87 hl (k := 5) rfl rfl (by decide) rfl (fun ls hl => ?_)
            refine lv_goto (tgt := 5) hx hb dX7_mayLend_90 (by decide) ?_
            exact ih _ _ _ h _ _ _ hw (lv_sub hl [3, 4, 5, 1, 0] rfl) hk0
          · replace h := h.2 c_3
            refine lv_iload hx hb dX7_mayLend_76 (lv_at hl 0 rfl) ?_
            refine lv_if_eq (tgt := 85) hx hb dX7_mayLend_78 (by decide) (fun _ => ?_) (fun c => absurd (by decide) c)
            refine lv_iconst (v := 0) hx hb dX7_mayLend_85 (by decide) ?_
            refine lv_istore_n (lv' := [(3, .int 0), (5, .int 0), (0, .ref (aR 0)), (1, .int f1), (2, .int f2), (4, .int x4)]) hx hb dX7_mayLend_86 rfl hl (by decide) rfl (fun ls hl => ?_)
            refine lv_iinc (v := (x4 + 1)) (lv' := [(4, .int (x4 + 1)), (3, .int 0), (5, .int 0), (0, .ref (aR 0)), (1, .int f1), (2, .int f2)]) hx hb dX7_mayLend_87 hl (k := 5) rfl rfl (by decide) rfl (fun ls hl => ?_)
            refine lv_goto (tgt := 5) hx hb dX7_mayLend_90 (by decide) ?_
            exact ih _ _ _ h _ _ _ hw (lv_sub hl [3, 4, 5, 1, 0] rfl) hk0
      · replace h := h.2 c_22
        refine lv_aload_n hx hb dX7_mayLend_27 rfl (lv_at hl 0 rfl) ?_
        refine lv_iload hx hb dX7_mayLend_28 (lv_at hl 4 rfl) ?_
        refine lv_iconst (v := 4) hx hb dX7_mayLend_30 (by decide) ?_
        refine x_cV (As := [.int x4, .int 4]) (rest := []) (F := []) C0 hw (p_nil _) hl.1 0 7 rfl rfl (c_X7_ofStone l E aR h) 2 gX7_mayLend_X7_ofStone rfl ⟨rfl, rfl⟩ (by decide +kernel) ⟨Nat.le_of_ble_eq_true rfl, Nat.le_of_ble_eq_true rfl⟩ rfl rfl (Nat.le_of_ble_eq_true rfl) dX7_mayLend_31 ⟨Nat.zero_le _, Nat.zero_le _⟩ (fun r_5 v_6 H locs h (hw : mw E A s.heap H locs (cR E aR v_6)) => ?_)
        refine lv_iload_n hx hb dX7_mayLend_34 rfl (lv_at hl 1 rfl) ?_
        refine lv_icmp_ne (tgt := 60) hx hb dX7_mayLend_35 (by decide) (fun c_21 => ?_) (fun c_21 => ?_)
        · replace h := h.1 c_21
          refine lv_iconst (v := 0) hx hb dX7_mayLend_60 (by decide) ?_
          refine lv_istore (lv' := [(5, .int 0), (0, .ref (aR 0)), (1, .int f1), (2, .int f2), (3, .int x3), (4, .int x4)]) hx hb dX7_mayLend_61 hl (by decide) rfl (fun ls hl => ?_)
          refine lv_iload_n hx hb dX7_mayLend_63 rfl (lv_at hl 4 rfl) ?_
          refine lv_if_eq (tgt := 85) hx hb dX7_mayLend_64 (by decide) (fun c_8 => ?_) (fun c_8 => ?_)
          · replace h := h.1 c_8
            refine lv_iconst (v := 0) hx hb dX7_mayLend_85 (by decide) ?_
            refine lv_istore_n (lv' := [(3, .int 0), (5, .int 0), (0, .ref (aR 0)), (1, .int f1), (2, .int f2), (4, .int x4)]) hx hb dX7_mayLend_86 rfl hl (by decide) rfl (fun ls hl => ?_)
            refine lv_iinc (v := (x4 + 1)) (lv' := [(4, .int (x4 + 1)), (3, .int 0), (5, .int 0), (0, .ref (aR 0)), (1, .int f1), (2, .int f2)]) hx hb dX7_mayLend_87 hl (k := 5) rfl rfl (by decide) rfl (fun ls hl => ?_)
            refine lv_goto (tgt := 5) hx hb dX7_mayLend_90 (by decide) ?_
            exact ih _ _ _ h _ _ _ hw (lv_sub hl [3, 4, 5, 1, 0] rfl) hk0
          · replace h := h.2 c_8
            refine lv_iload_n hx hb dX7_mayLend_67 rfl (lv_at hl 3 rfl) ?_
            refine lv_iload hx hb dX7_mayLend_68 (lv_at hl 5 rfl) ?_
            refine lv_ishr hx hb dX7_mayLend_70 ?_
            refine lv_iconst (v := 1) hx hb dX7_mayLend_71 (by decide) ?_
            refine lv_iand hx hb dX7_mayLend_72 ?_
            refine lv_if_eq (tgt := 81) hx hb dX7_mayLend_73 (by decide) (fun c_7 => ?_) (fun c_7 => ?_)
            · replace h := h.1 c_7
              refine lv_iconst (v := 1) hx hb dX7_mayLend_81 (by decide) ?_
              refine lv_goto (tgt := 86) hx hb dX7_mayLend_82 (by decide) ?_
              refine lv_istore_n (lv' := [(3, .int 1), (5, .int 0), (0, .ref (aR 0)), (1, .int f1), (2, .int f2), (4, .int x4)]) hx hb dX7_mayLend_86 rfl hl (by decide) rfl (fun ls hl => ?_)
              refine lv_iinc (v := (x4 + 1)) (lv' := [(4, .int (x4 + 1)), (3, .int 1), (5, .int 0), (0, .ref (aR 0)), (1, .int f1), (2, .int f2)]) hx hb dX7_mayLend_87 hl (k := 5) rfl rfl (by decide) rfl (fun ls hl => ?_)
              refine lv_goto (tgt := 5) hx hb dX7_mayLend_90 (by decide) ?_
              exact ih _ _ _ h _ _ _ hw (lv_sub hl [3, 4, 5, 1, 0] rfl) hk0
            · replace h := h.2 c_7
              refine lv_iload hx hb dX7_mayLend_76 (lv_at hl 0 rfl) ?_
              refine lv_if_eq (tgt := 85) hx hb dX7_mayLend_78 (by decide) (fun _ => ?_) (fun c => absurd (by decide) c)
              refine lv_iconst (v := 0) hx hb dX7_mayLend_85 (by decide) ?_
              refine lv_istore_n (lv' := [(3, .int 0), (5, .int 0), (0, .ref (aR 0)), (1, .int f1), (2, .int f2), (4, .int x4)]) hx hb dX7_mayLend_86 rfl hl (by decide) rfl (fun ls hl => ?_)
              refine lv_iinc (v := (x4 + 1)) (lv' := [(4, .int (x4 + 1)), (3, .int 0), (5, .int 0), (0, .ref (aR 0)), (1, .int f1), (2, .int f2)]) hx hb dX7_mayLend_87 hl (k := 5) rfl rfl (by decide) rfl (fun ls hl => ?_)
              refine lv_goto (tgt := 5) hx hb dX7_mayLend_90 (by decide) ?_
              exact ih _ _ _ h _ _ _ hw (lv_sub hl [3, 4, 5, 1, 0] rfl) hk0
        · replace h := h.2 c_21
          refine lv_aload_n hx hb dX7_mayLend_38 rfl (lv_at hl 0 rfl) ?_
          refine lv_iload hx hb dX7_mayLend_39 (lv_at hl 4 rfl) ?_
          refine x_cV (As := [.int x4]) (rest := []) (F := []) C0 hw (p_nil _) hl.1 0 7 rfl rfl (c_X7_isOut l E aR h) 1 gX7_mayLend_X7_isOut rfl ⟨rfl, rfl⟩ (by decide +kernel) ⟨Nat.le_of_ble_eq_true rfl, Nat.le_of_ble_eq_true rfl⟩ rfl rfl (Nat.le_of_ble_eq_true rfl) dX7_mayLend_41 ⟨Nat.zero_le _, Nat.zero_le _⟩ (fun r_9 v_10 H locs h (hw : mw E A s.heap H locs (cR E aR v_10)) => ?_)
          refine lv_if_ne (tgt := 60) hx hb dX7_mayLend_44 (by decide) (fun c_20 => ?_) (fun c_20 => ?_)
          · replace h := h.1 c_20
            refine lv_iconst (v := 0) hx hb dX7_mayLend_60 (by decide) ?_
            refine lv_istore (lv' := [(5, .int 0), (0, .ref (aR 0)), (1, .int f1), (2, .int f2), (3, .int x3), (4, .int x4)]) hx hb dX7_mayLend_61 hl (by decide) rfl (fun ls hl => ?_)
            refine lv_iload_n hx hb dX7_mayLend_63 rfl (lv_at hl 4 rfl) ?_
            refine lv_if_eq (tgt := 85) hx hb dX7_mayLend_64 (by decide) (fun c_12 => ?_) (fun c_12 => ?_)
            · replace h := h.1 c_12
              refine lv_iconst (v := 0) hx hb dX7_mayLend_85 (by decide) ?_
              refine lv_istore_n (lv' := [(3, .int 0), (5, .int 0), (0, .ref (aR 0)), (1, .int f1), (2, .int f2), (4, .int x4)]) hx hb dX7_mayLend_86 rfl hl (by decide) rfl (fun ls hl => ?_)
              refine lv_iinc (v := (x4 + 1)) (lv' := [(4, .int (x4 + 1)), (3, .int 0), (5, .int 0), (0, .ref (aR 0)), (1, .int f1), (2, .int f2)]) hx hb dX7_mayLend_87 hl (k := 5) rfl rfl (by decide) rfl (fun ls hl => ?_)
              refine lv_goto (tgt := 5) hx hb dX7_mayLend_90 (by decide) ?_
              exact ih _ _ _ h _ _ _ hw (lv_sub hl [3, 4, 5, 1, 0] rfl) hk0
            · replace h := h.2 c_12
              refine lv_iload_n hx hb dX7_mayLend_67 rfl (lv_at hl 3 rfl) ?_
              refine lv_iload hx hb dX7_mayLend_68 (lv_at hl 5 rfl) ?_
              refine lv_ishr hx hb dX7_mayLend_70 ?_
              refine lv_iconst (v := 1) hx hb dX7_mayLend_71 (by decide) ?_
              refine lv_iand hx hb dX7_mayLend_72 ?_
              refine lv_if_eq (tgt := 81) hx hb dX7_mayLend_73 (by decide) (fun c_11 => ?_) (fun c_11 => ?_)
              · replace h := h.1 c_11
                refine lv_iconst (v := 1) hx hb dX7_mayLend_81 (by decide) ?_
                refine lv_goto (tgt := 86) hx hb dX7_mayLend_82 (by decide) ?_
                refine lv_istore_n (lv' := [(3, .int 1), (5, .int 0), (0, .ref (aR 0)), (1, .int f1), (2, .int f2), (4, .int x4)]) hx hb dX7_mayLend_86 rfl hl (by decide) rfl (fun ls hl => ?_)
                refine lv_iinc (v := (x4 + 1)) (lv' := [(4, .int (x4 + 1)), (3, .int 1), (5, .int 0), (0, .ref (aR 0)), (1, .int f1), (2, .int f2)]) hx hb dX7_mayLend_87 hl (k := 5) rfl rfl (by decide) rfl (fun ls hl => ?_)
                refine lv_goto (tgt := 5) hx hb dX7_mayLend_90 (by decide) ?_
                exact ih _ _ _ h _ _ _ hw (lv_sub hl [3, 4, 5, 1, 0] rfl) hk0
              · replace h := h.2 c_11
                refine lv_iload hx hb dX7_mayLend_76 (lv_at hl 0 rfl) ?_
                refine lv_if_eq (tgt := 85) hx hb dX7_mayLend_78 (by decide) (fun _ => ?_) (fun c => absurd (by decide) c)
                refine lv_iconst (v := 0) hx hb dX7_mayLend_85 (by decide) ?_
                refine lv_istore_n (lv' := [(3, .int 0), (5, .int 0), (0, .ref (aR 0)), (1, .int f1), (2, .int f2), (4, .int x4)]) hx hb dX7_mayLend_86 rfl hl (by decide) rfl (fun ls hl => ?_)
                refine lv_iinc (v := (x4 + 1)) (lv' := [(4, .int (x4 + 1)), (3, .int 0), (5, .int 0), (0, .ref (aR 0)), (1, .int f1), (2, .int f2)]) hx hb dX7_mayLend_87 hl (k := 5) rfl rfl (by decide) rfl (fun ls hl => ?_)
                refine lv_goto (tgt := 5) hx hb dX7_mayLend_90 (by decide) ?_
                exact ih _ _ _ h _ _ _ hw (lv_sub hl [3, 4, 5, 1, 0] rfl) hk0
          · replace h := h.2 c_20
            refine lv_aload_n hx hb dX7_mayLend_47 rfl (lv_at hl 0 rfl) ?_
            refine lv_iload hx hb dX7_mayLend_48 (lv_at hl 4 rfl) ?_
            refine x_cV (As := [.int x4]) (rest := []) (F := []) C0 hw (p_nil _) hl.1 0 7 rfl rfl (c_X7_price l E aR h) 1 gX7_mayLend_X7_price rfl ⟨rfl, rfl⟩ (by decide +kernel) ⟨Nat.le_of_ble_eq_true rfl, Nat.le_of_ble_eq_true rfl⟩ rfl rfl (Nat.le_of_ble_eq_true rfl) dX7_mayLend_50 ⟨Nat.zero_le _, Nat.zero_le _⟩ (fun r_13 v_14 H locs h (hw : mw E A s.heap H locs (cR E aR v_14)) => ?_)
            refine lv_if_lt (tgt := 60) hx hb dX7_mayLend_53 (by decide) (fun c_19 => ?_) (fun c_19 => ?_)
            · replace h := h.1 c_19
              refine lv_iconst (v := 0) hx hb dX7_mayLend_60 (by decide) ?_
              refine lv_istore (lv' := [(5, .int 0), (0, .ref (aR 0)), (1, .int f1), (2, .int f2), (3, .int x3), (4, .int x4)]) hx hb dX7_mayLend_61 hl (by decide) rfl (fun ls hl => ?_)
              refine lv_iload_n hx hb dX7_mayLend_63 rfl (lv_at hl 4 rfl) ?_
              refine lv_if_eq (tgt := 85) hx hb dX7_mayLend_64 (by decide) (fun c_16 => ?_) (fun c_16 => ?_)
              · replace h := h.1 c_16
                refine lv_iconst (v := 0) hx hb dX7_mayLend_85 (by decide) ?_
                refine lv_istore_n (lv' := [(3, .int 0), (5, .int 0), (0, .ref (aR 0)), (1, .int f1), (2, .int f2), (4, .int x4)]) hx hb dX7_mayLend_86 rfl hl (by decide) rfl (fun ls hl => ?_)
                refine lv_iinc (v := (x4 + 1)) (lv' := [(4, .int (x4 + 1)), (3, .int 0), (5, .int 0), (0, .ref (aR 0)), (1, .int f1), (2, .int f2)]) hx hb dX7_mayLend_87 hl (k := 5) rfl rfl (by decide) rfl (fun ls hl => ?_)
                refine lv_goto (tgt := 5) hx hb dX7_mayLend_90 (by decide) ?_
                exact ih _ _ _ h _ _ _ hw (lv_sub hl [3, 4, 5, 1, 0] rfl) hk0
              · replace h := h.2 c_16
                refine lv_iload_n hx hb dX7_mayLend_67 rfl (lv_at hl 3 rfl) ?_
                refine lv_iload hx hb dX7_mayLend_68 (lv_at hl 5 rfl) ?_
                refine lv_ishr hx hb dX7_mayLend_70 ?_
                refine lv_iconst (v := 1) hx hb dX7_mayLend_71 (by decide) ?_
                refine lv_iand hx hb dX7_mayLend_72 ?_
                refine lv_if_eq (tgt := 81) hx hb dX7_mayLend_73 (by decide) (fun c_15 => ?_) (fun c_15 => ?_)
                · replace h := h.1 c_15
                  refine lv_iconst (v := 1) hx hb dX7_mayLend_81 (by decide) ?_
                  refine lv_goto (tgt := 86) hx hb dX7_mayLend_82 (by decide) ?_
                  refine lv_istore_n (lv' := [(3, .int 1), (5, .int 0), (0, .ref (aR 0)), (1, .int f1), (2, .int f2), (4, .int x4)]) hx hb dX7_mayLend_86 rfl hl (by decide) rfl (fun ls hl => ?_)
                  refine lv_iinc (v := (x4 + 1)) (lv' := [(4, .int (x4 + 1)), (3, .int 1), (5, .int 0), (0, .ref (aR 0)), (1, .int f1), (2, .int f2)]) hx hb dX7_mayLend_87 hl (k := 5) rfl rfl (by decide) rfl (fun ls hl => ?_)
                  refine lv_goto (tgt := 5) hx hb dX7_mayLend_90 (by decide) ?_
                  exact ih _ _ _ h _ _ _ hw (lv_sub hl [3, 4, 5, 1, 0] rfl) hk0
                · replace h := h.2 c_15
                  refine lv_iload hx hb dX7_mayLend_76 (lv_at hl 0 rfl) ?_
                  refine lv_if_eq (tgt := 85) hx hb dX7_mayLend_78 (by decide) (fun _ => ?_) (fun c => absurd (by decide) c)
                  refine lv_iconst (v := 0) hx hb dX7_mayLend_85 (by decide) ?_
                  refine lv_istore_n (lv' := [(3, .int 0), (5, .int 0), (0, .ref (aR 0)), (1, .int f1), (2, .int f2), (4, .int x4)]) hx hb dX7_mayLend_86 rfl hl (by decide) rfl (fun ls hl => ?_)
                  refine lv_iinc (v := (x4 + 1)) (lv' := [(4, .int (x4 + 1)), (3, .int 0), (5, .int 0), (0, .ref (aR 0)), (1, .int f1), (2, .int f2)]) hx hb dX7_mayLend_87 hl (k := 5) rfl rfl (by decide) rfl (fun ls hl => ?_)
                  refine lv_goto (tgt := 5) hx hb dX7_mayLend_90 (by decide) ?_
                  exact ih _ _ _ h _ _ _ hw (lv_sub hl [3, 4, 5, 1, 0] rfl) hk0
            · replace h := h.2 c_19
              refine lv_iconst (v := 1) hx hb dX7_mayLend_56 (by decide) ?_
              refine lv_goto (tgt := 61) hx hb dX7_mayLend_57 (by decide) ?_
              refine lv_istore (lv' := [(5, .int 1), (0, .ref (aR 0)), (1, .int f1), (2, .int f2), (3, .int x3), (4, .int x4)]) hx hb dX7_mayLend_61 hl (by decide) rfl (fun ls hl => ?_)
              refine lv_iload_n hx hb dX7_mayLend_63 rfl (lv_at hl 4 rfl) ?_
              refine lv_if_eq (tgt := 85) hx hb dX7_mayLend_64 (by decide) (fun c_18 => ?_) (fun c_18 => ?_)
              · replace h := h.1 c_18
                refine lv_iconst (v := 0) hx hb dX7_mayLend_85 (by decide) ?_
                refine lv_istore_n (lv' := [(3, .int 0), (5, .int 1), (0, .ref (aR 0)), (1, .int f1), (2, .int f2), (4, .int x4)]) hx hb dX7_mayLend_86 rfl hl (by decide) rfl (fun ls hl => ?_)
                refine lv_iinc (v := (x4 + 1)) (lv' := [(4, .int (x4 + 1)), (3, .int 0), (5, .int 1), (0, .ref (aR 0)), (1, .int f1), (2, .int f2)]) hx hb dX7_mayLend_87 hl (k := 5) rfl rfl (by decide) rfl (fun ls hl => ?_)
                refine lv_goto (tgt := 5) hx hb dX7_mayLend_90 (by decide) ?_
                exact ih _ _ _ h _ _ _ hw (lv_sub hl [3, 4, 5, 1, 0] rfl) hk0
              · replace h := h.2 c_18
                refine lv_iload_n hx hb dX7_mayLend_67 rfl (lv_at hl 3 rfl) ?_
                refine lv_iload hx hb dX7_mayLend_68 (lv_at hl 5 rfl) ?_
                refine lv_ishr hx hb dX7_mayLend_70 ?_
                refine lv_iconst (v := 1) hx hb dX7_mayLend_71 (by decide) ?_
                refine lv_iand hx hb dX7_mayLend_72 ?_
                refine lv_if_eq (tgt := 81) hx hb dX7_mayLend_73 (by decide) (fun c_17 => ?_) (fun c_17 => ?_)
                · replace h := h.1 c_17
                  refine lv_iconst (v := 1) hx hb dX7_mayLend_81 (by decide) ?_
                  refine lv_goto (tgt := 86) hx hb dX7_mayLend_82 (by decide) ?_
                  refine lv_istore_n (lv' := [(3, .int 1), (5, .int 1), (0, .ref (aR 0)), (1, .int f1), (2, .int f2), (4, .int x4)]) hx hb dX7_mayLend_86 rfl hl (by decide) rfl (fun ls hl => ?_)
                  refine lv_iinc (v := (x4 + 1)) (lv' := [(4, .int (x4 + 1)), (3, .int 1), (5, .int 1), (0, .ref (aR 0)), (1, .int f1), (2, .int f2)]) hx hb dX7_mayLend_87 hl (k := 5) rfl rfl (by decide) rfl (fun ls hl => ?_)
                  refine lv_goto (tgt := 5) hx hb dX7_mayLend_90 (by decide) ?_
                  exact ih _ _ _ h _ _ _ hw (lv_sub hl [3, 4, 5, 1, 0] rfl) hk0
                · replace h := h.2 c_17
                  refine lv_iload hx hb dX7_mayLend_76 (lv_at hl 0 rfl) ?_
                  refine lv_if_eq (tgt := 85) hx hb dX7_mayLend_78 (by decide) (fun c => absurd c (by decide)) (fun _ => ?_)
                  refine lv_iconst (v := 1) hx hb dX7_mayLend_81 (by decide) ?_
                  refine lv_goto (tgt := 86) hx hb dX7_mayLend_82 (by decide) ?_
                  refine lv_istore_n (lv' := [(3, .int 1), (5, .int 1), (0, .ref (aR 0)), (1, .int f1), (2, .int f2), (4, .int x4)]) hx hb dX7_mayLend_86 rfl hl (by decide) rfl (fun ls hl => ?_)
                  refine lv_iinc (v := (x4 + 1)) (lv' := [(4, .int (x4 + 1)), (3, .int 1), (5, .int 1), (0, .ref (aR 0)), (1, .int f1), (2, .int f2)]) hx hb dX7_mayLend_87 hl (k := 5) rfl rfl (by decide) rfl (fun ls hl => ?_)
                  refine lv_goto (tgt := 5) hx hb dX7_mayLend_90 (by decide) ?_
                  exact ih _ _ _ h _ _ _ hw (lv_sub hl [3, 4, 5, 1, 0] rfl) hk0
set_option maxRecDepth 100000 in
set_option maxHeartbeats 4000000 in
theorem c_X7_mayLend (l : Launch) (E : EE) (aR : Nat → Nat) {v : V}  {p1 : Int32} {p2 : Int32} {post : Int32 → V → Prop} (h : s_X7_mayLend v p1 p2 post) : KI l E yX7_mayLend wsX7_mayLend rmX7_mayLend [.ref (aR 0), .int p1, .int p2] (cR E aR v) post (fun u => cR E aR u) := by
  unfold s_X7_mayLend at h
  refine KI.go (cc := cX7_mayLend) (ret := (some .boolean)) (maxL := 6) (own := RX7) (by decide) rfl (Nat.le_of_ble_eq_true rfl) rfl (fun p e s m below meth c A ls C0 hw hl => ?_)
  have hx := C0.1
  have hb := C0.2.1
  have hiX7 : ∀ w ∈ wsX70, w ∈ wsX7_mayLend := fun w h => List.mem_cons_of_mem _ (List.mem_append_right _ h)
  replace hl : lv_has ls 6 [(0, .ref (aR 0)), (1, .int p1), (2, .int p2)] := hl
  refine lv_iconst (v := 1) hx hb dX7_mayLend_0 (by decide) ?_
  refine lv_istore_n (lv' := [(3, .int 1), (0, .ref (aR 0)), (1, .int p1), (2, .int p2)]) hx hb dX7_mayLend_1 rfl hl (by decide) rfl (fun ls hl => ?_)
  refine lv_iconst (v := 0) hx hb dX7_mayLend_2 (by decide) ?_
  refine lv_istore (lv' := [(4, .int 0), (3, .int 1), (0, .ref (aR 0)), (1, .int p1), (2, .int p2)]) hx hb dX7_mayLend_3 hl (by decide) rfl (fun ls hl => ?_)
  obtain ⟨n_24, h⟩ := h
  refine w_X7_mayLend_5 C0 _ _ _ _ h _ _ _ hw (lv_sub hl [2, 3, 4, 1, 0] rfl) ?_
  · intro x3_25 x4_26 v_27 H locs ls h hw hl
    refine lv_iload_n hx hb dX7_mayLend_93 rfl (lv_at hl 3 rfl) ?_
    exact x_retz C0 h.1 v_27 hw h.2 dX7_mayLend_94

abbrev rmX7_lends : Room := { frames := 4, cells := 0, slots := 0, locals := 97 }
set_option maxRecDepth 100000 in
set_option maxHeartbeats 4000000 in
theorem w_X7_lends_181 {p : Program} {l : Launch} {e : Env} {s : State} {m : MethodId} {below : List Frame} {meth : Method} {c : Code} {E : EE} {A : Nat → Prop} {aR : Nat → Nat} {args : Array Value} (C0 : Cx E p s m args meth c A cX7_lends 9 RX7 wsX7_lends (some .int)) {post : Int32 → V → Prop}  {f2 : Int32} {f4 : Int32} {f6 : Int32} {k0 : Int32 → V → Prop} : ∀ (n : Nat) (x8 : Int32) (v : V), sl_X7_lends_181 post f2 f4 f6 k0 n x8 v → ∀ (H : Heap) (locs : List Loc) (ls : Array Slot), mw E A s.heap H locs (cR E aR v) → lv_has ls 9 [(0, .ref (aR 0)), (2, .int f2), (4, .int f4), (6, .int f6), (8, .int x8)] → (∀ (x8 : Int32) (v : V) (H : Heap) (locs : List Loc) (ls : Array Slot), k0 x8 v → mw E A s.heap H locs (cR E aR v) → lv_has ls 9 [(0, .ref (aR 0)), (2, .int f2), (4, .int f4), (6, .int f6), (8, .int x8)] → W p l e rmX7_lends s m args below meth c H locs 0 0 (qI E A post (fun u => cR E aR u) below args s) (F0 m 240 ls [])) → W p l e rmX7_lends s m args below meth c H locs 0 0 (qI E A post (fun u => cR E aR u) below args s) (F0 m 181 ls []) := by
  have hx := C0.1
  have hb := C0.2.1
  have hiX7 : ∀ w ∈ wsX70, w ∈ wsX7_lends := fun w h => List.mem_cons_of_mem _ (List.mem_append_right _ h)
  intro n
  induction n with
  | zero => intro x8 v h; exact False.elim h
  | succ n ih =>
    intro x8 v h H locs ls hw hl hk0
    replace h : sb_X7_lends_181 post f2 f4 f6 k0 (sl_X7_lends_181 post f2 f4 f6 k0 n) x8 v := h
    unfold sb_X7_lends_181 at h
    refine lv_iload hx hb dX7_lends_181 (lv_at hl 4 rfl) ?_
    refine lv_aload_n hx hb dX7_lends_183 rfl (lv_at hl 0 rfl) ?_
    refine x_get C0 hw 7 hiX7 rfl 0 rfl 0 (by decide) 1 rfl rfl dX7_lends_184 ?_
    refine lv_iconst (v := 1) hx hb dX7_lends_187 (by decide) ?_
    refine x_ald C0 hw 1 rfl (vp_in_nI (n := 1) (by decide) (by decide)) dX7_lends_188 ?_
    refine lv_icmp_ge (tgt := 240) hx hb dX7_lends_189 (by decide) (fun c_21 => ?_) (fun c_21 => ?_)
    · replace h := h.1 c_21
      exact hk0 _ _ _ _ _ h hw (lv_sub hl [0, 1, 2, 3, 4] rfl)
    · replace h := h.2 c_21
      refine lv_iload hx hb dX7_lends_192 (lv_at hl 2 rfl) ?_
      refine lv_iload hx hb dX7_lends_194 (lv_at hl 4 rfl) ?_
      refine lv_ishr hx hb dX7_lends_196 ?_
      refine lv_iconst (v := 1) hx hb dX7_lends_197 (by decide) ?_
      refine lv_iand hx hb dX7_lends_198 ?_
      refine lv_iconst (v := 1) hx hb dX7_lends_199 (by decide) ?_
      refine lv_icmp_ne (tgt := 234) hx hb dX7_lends_200 (by decide) (fun c_20 => ?_) (fun c_20 => ?_)
      · replace h := h.1 c_20
        refine lv_iinc (v := (x8 + 1)) (lv' := [(8, .int (x8 + 1)), (0, .ref (aR 0)), (2, .int f2), (4, .int f4), (6, .int f6)]) hx hb dX7_lends_234 hl (k := 4) rfl rfl (by decide) rfl (fun ls hl => ?_)
        refine lv_goto (tgt := 181) hx hb dX7_lends_237 (by decide) ?_
        exact ih _ _ h _ _ _ hw (lv_sub hl [1, 2, 3, 4, 0] rfl) hk0
      · replace h := h.2 c_20
        refine lv_aload_n hx hb dX7_lends_203 rfl (lv_at hl 0 rfl) ?_
        refine lv_iload hx hb dX7_lends_204 (lv_at hl 4 rfl) ?_
        refine lv_iconst (v := 4) hx hb dX7_lends_206 (by decide) ?_
        refine lv_iload_n hx hb dX7_lends_207 rfl (lv_at hl 1 rfl) ?_
        refine x_cVv (As := [.int x8, .int 4, .int f2]) (rest := []) (F := []) C0 hw (p_nil _) hl.1 0 7 rfl rfl (c_X7_setStone l E aR h) 3 gX7_lends_X7_setStone rfl ⟨rfl, rfl⟩ (by decide +kernel) ⟨Nat.le_of_ble_eq_true rfl, Nat.le_of_ble_eq_true rfl⟩ rfl rfl (Nat.le_of_ble_eq_true rfl) dX7_lends_208 ⟨Nat.zero_le _, Nat.zero_le _⟩ (fun v_15 H locs h (hw : mw E A s.heap H locs (cR E aR v_15)) => ?_)
        refine lv_aload_n hx hb dX7_lends_211 rfl (lv_at hl 0 rfl) ?_
        refine lv_iload hx hb dX7_lends_212 (lv_at hl 4 rfl) ?_
        refine lv_iconst (v := 5) hx hb dX7_lends_214 (by decide) ?_
        refine lv_iload hx hb dX7_lends_215 (lv_at hl 3 rfl) ?_
        refine x_cVv (As := [.int x8, .int 5, .int f6]) (rest := []) (F := []) C0 hw (p_nil _) hl.1 0 7 rfl rfl (c_X7_setStone l E aR h) 3 gX7_lends_X7_setStone rfl ⟨rfl, rfl⟩ (by decide +kernel) ⟨Nat.le_of_ble_eq_true rfl, Nat.le_of_ble_eq_true rfl⟩ rfl rfl (Nat.le_of_ble_eq_true rfl) dX7_lends_217 ⟨Nat.zero_le _, Nat.zero_le _⟩ (fun v_16 H locs h (hw : mw E A s.heap H locs (cR E aR v_16)) => ?_)
        refine lv_aload_n hx hb dX7_lends_220 rfl (lv_at hl 0 rfl) ?_
        refine lv_iload hx hb dX7_lends_221 (lv_at hl 4 rfl) ?_
        refine lv_bipush (v := 6) hx hb dX7_lends_223 (by decide) ?_
        refine lv_aload_n hx hb dX7_lends_225 rfl (lv_at hl 0 rfl) ?_
        refine lv_iload hx hb dX7_lends_226 (lv_at hl 4 rfl) ?_
        refine x_cV (As := [.int x8]) (rest := [.int 6, .int x8, .ref (aR 0)]) (F := []) C0 hw (p_nil _) hl.1 0 7 rfl rfl (c_X7_price l E aR h) 1 gX7_lends_X7_price rfl ⟨rfl, rfl⟩ (by decide +kernel) ⟨Nat.le_of_ble_eq_true rfl, Nat.le_of_ble_eq_true rfl⟩ rfl rfl (Nat.le_of_ble_eq_true rfl) dX7_lends_228 ⟨Nat.zero_le _, Nat.zero_le _⟩ (fun r_17 v_18 H locs h (hw : mw E A s.heap H locs (cR E aR v_18)) => ?_)
        refine x_cVv (As := [.int x8, .int 6, .int r_17]) (rest := []) (F := []) C0 hw (p_nil _) hl.1 0 7 rfl rfl (c_X7_setStone l E aR h) 3 gX7_lends_X7_setStone rfl ⟨rfl, rfl⟩ (by decide +kernel) ⟨Nat.le_of_ble_eq_true rfl, Nat.le_of_ble_eq_true rfl⟩ rfl rfl (Nat.le_of_ble_eq_true rfl) dX7_lends_231 ⟨Nat.zero_le _, Nat.zero_le _⟩ (fun v_19 H locs h (hw : mw E A s.heap H locs (cR E aR v_19)) => ?_)
        refine lv_iinc (v := (x8 + 1)) (lv' := [(8, .int (x8 + 1)), (0, .ref (aR 0)), (2, .int f2), (4, .int f4), (6, .int f6)]) hx hb dX7_lends_234 hl (k := 4) rfl rfl (by decide) rfl (fun ls hl => ?_)
        refine lv_goto (tgt := 181) hx hb dX7_lends_237 (by decide) ?_
        exact ih _ _ h _ _ _ hw (lv_sub hl [1, 2, 3, 4, 0] rfl) hk0
set_option maxRecDepth 100000 in
set_option maxHeartbeats 4000000 in
theorem c_X7_lends (l : Launch) (E : EE) (aR : Nat → Nat) {v : V}  {p1 : Int32} {p2 : Int32} {p3 : Int32} {p4 : Int32} {post : Int32 → V → Prop} (h : s_X7_lends v p1 p2 p3 p4 post) : KI l E yX7_lends wsX7_lends rmX7_lends [.ref (aR 0), .int p1, .int p2, .int p3, .int p4] (cR E aR v) post (fun u => cR E aR u) := by
  unfold s_X7_lends at h
  refine KI.go (cc := cX7_lends) (ret := (some .int)) (maxL := 9) (own := RX7) (by decide) rfl (Nat.le_of_ble_eq_true rfl) rfl (fun p e s m below meth c A ls C0 hw hl => ?_)
  have hx := C0.1
  have hb := C0.2.1
  have hiX7 : ∀ w ∈ wsX70, w ∈ wsX7_lends := fun w h => List.mem_cons_of_mem _ (List.mem_append_right _ h)
  replace hl : lv_has ls 9 [(0, .ref (aR 0)), (1, .int p1), (2, .int p2), (3, .int p3), (4, .int p4)] := hl
  refine lv_aload_n hx hb dX7_lends_0 rfl (lv_at hl 0 rfl) ?_
  refine lv_iload_n hx hb dX7_lends_1 rfl (lv_at hl 1 rfl) ?_
  refine x_cV (As := [.int p1]) (rest := []) (F := []) C0 hw (p_nil _) hl.1 0 7 rfl rfl (c_X7_isDealer l E aR h) 1 gX7_lends_X7_isDealer rfl ⟨rfl, rfl⟩ (by decide +kernel) ⟨Nat.le_of_ble_eq_true rfl, Nat.le_of_ble_eq_true rfl⟩ rfl rfl (Nat.le_of_ble_eq_true rfl) dX7_lends_2 ⟨Nat.zero_le _, Nat.zero_le _⟩ (fun r_1 v_2 H locs h (hw : mw E A s.heap H locs (cR E aR v_2)) => ?_)
  refine lv_if_eq (tgt := 54) hx hb dX7_lends_5 (by decide) (fun c_33 => ?_) (fun c_33 => ?_)
  · replace h := h.1 c_33
    refine lv_iconst (v := 0) hx hb dX7_lends_54 (by decide) ?_
    refine lv_istore (lv' := [(5, .int 0), (0, .ref (aR 0)), (1, .int p1), (2, .int p2), (3, .int p3), (4, .int p4)]) hx hb dX7_lends_55 hl (by decide) rfl (fun ls hl => ?_)
    refine lv_iload hx hb dX7_lends_57 (lv_at hl 0 rfl) ?_
    refine lv_if_ne (tgt := 65) hx hb dX7_lends_59 (by decide) (fun c => absurd (by decide) c) (fun _ => ?_)
    refine x_ldc (v := (-10000001)) C0 2 rfl dX7_lends_62 ?_
    exact x_ret C0 v_2 hw h dX7_lends_64
  · replace h := h.2 c_33
    refine lv_aload_n hx hb dX7_lends_8 rfl (lv_at hl 0 rfl) ?_
    refine lv_iload_n hx hb dX7_lends_9 rfl (lv_at hl 2 rfl) ?_
    refine x_cV (As := [.int p2]) (rest := []) (F := []) C0 hw (p_nil _) hl.1 0 7 rfl rfl (c_X7_isDealer l E aR h) 1 gX7_lends_X7_isDealer rfl ⟨rfl, rfl⟩ (by decide +kernel) ⟨Nat.le_of_ble_eq_true rfl, Nat.le_of_ble_eq_true rfl⟩ rfl rfl (Nat.le_of_ble_eq_true rfl) dX7_lends_10 ⟨Nat.zero_le _, Nat.zero_le _⟩ (fun r_3 v_4 H locs h (hw : mw E A s.heap H locs (cR E aR v_4)) => ?_)
    refine lv_if_eq (tgt := 54) hx hb dX7_lends_13 (by decide) (fun c_32 => ?_) (fun c_32 => ?_)
    · replace h := h.1 c_32
      refine lv_iconst (v := 0) hx hb dX7_lends_54 (by decide) ?_
      refine lv_istore (lv' := [(5, .int 0), (0, .ref (aR 0)), (1, .int p1), (2, .int p2), (3, .int p3), (4, .int p4)]) hx hb dX7_lends_55 hl (by decide) rfl (fun ls hl => ?_)
      refine lv_iload hx hb dX7_lends_57 (lv_at hl 0 rfl) ?_
      refine lv_if_ne (tgt := 65) hx hb dX7_lends_59 (by decide) (fun c => absurd (by decide) c) (fun _ => ?_)
      refine x_ldc (v := (-10000001)) C0 2 rfl dX7_lends_62 ?_
      exact x_ret C0 v_4 hw h dX7_lends_64
    · replace h := h.2 c_32
      refine lv_iload_n hx hb dX7_lends_16 rfl (lv_at hl 1 rfl) ?_
      refine lv_iload_n hx hb dX7_lends_17 rfl (lv_at hl 2 rfl) ?_
      refine lv_icmp_eq (tgt := 54) hx hb dX7_lends_18 (by decide) (fun c_31 => ?_) (fun c_31 => ?_)
      · replace h := h.1 c_31
        refine lv_iconst (v := 0) hx hb dX7_lends_54 (by decide) ?_
        refine lv_istore (lv' := [(5, .int 0), (0, .ref (aR 0)), (1, .int p1), (2, .int p2), (3, .int p3), (4, .int p4)]) hx hb dX7_lends_55 hl (by decide) rfl (fun ls hl => ?_)
        refine lv_iload hx hb dX7_lends_57 (lv_at hl 0 rfl) ?_
        refine lv_if_ne (tgt := 65) hx hb dX7_lends_59 (by decide) (fun c => absurd (by decide) c) (fun _ => ?_)
        refine x_ldc (v := (-10000001)) C0 2 rfl dX7_lends_62 ?_
        exact x_ret C0 v_4 hw h dX7_lends_64
      · replace h := h.2 c_31
        refine lv_iload_n hx hb dX7_lends_21 rfl (lv_at hl 3 rfl) ?_
        refine lv_iconst (v := 1) hx hb dX7_lends_22 (by decide) ?_
        refine lv_bipush (v := 90) hx hb dX7_lends_23 (by decide) ?_
        refine x_cS (As := [.int p3, .int 1, .int 90]) (rest := []) (F := (cR E aR v_4)) C0 hw (p_non _) hl.1 (c_X7_in l E  h) 3 gX7_lends_X7_in rfl ⟨rfl, rfl⟩ (by decide +kernel) ⟨Nat.le_of_ble_eq_true rfl, Nat.le_of_ble_eq_true rfl⟩ rfl rfl (Nat.le_of_ble_eq_true rfl) dX7_lends_25 ⟨Nat.zero_le _, Nat.zero_le _⟩ (fun r_5 _u H locs h (hw : mw E A s.heap H locs (cR E aR v_4)) => ?_)
        refine lv_if_eq (tgt := 54) hx hb dX7_lends_28 (by decide) (fun c_29 => ?_) (fun c_29 => ?_)
        · replace h := h.1 c_29
          refine lv_iconst (v := 0) hx hb dX7_lends_54 (by decide) ?_
          refine lv_istore (lv' := [(5, .int 0), (0, .ref (aR 0)), (1, .int p1), (2, .int p2), (3, .int p3), (4, .int p4)]) hx hb dX7_lends_55 hl (by decide) rfl (fun ls hl => ?_)
          refine lv_iload hx hb dX7_lends_57 (lv_at hl 0 rfl) ?_
          refine lv_if_ne (tgt := 65) hx hb dX7_lends_59 (by decide) (fun c => absurd (by decide) c) (fun _ => ?_)
          refine x_ldc (v := (-10000001)) C0 2 rfl dX7_lends_62 ?_
          exact x_ret C0 v_4 hw h dX7_lends_64
        · replace h := h.2 c_29
          refine lv_iload hx hb dX7_lends_31 (lv_at hl 4 rfl) ?_
          refine lv_iconst (v := 1) hx hb dX7_lends_33 (by decide) ?_
          refine lv_iconst (v := 1) hx hb dX7_lends_34 (by decide) ?_
          refine lv_aload_n hx hb dX7_lends_35 rfl (lv_at hl 0 rfl) ?_
          refine x_get C0 hw 7 hiX7 rfl 0 rfl 0 (by decide) 1 rfl rfl dX7_lends_36 ?_
          refine lv_iconst (v := 1) hx hb dX7_lends_39 (by decide) ?_
          refine x_ald C0 hw 1 rfl (vp_in_nI (n := 1) (by decide) (by decide)) dX7_lends_40 ?_
          refine lv_ishl hx hb dX7_lends_41 ?_
          refine lv_iconst (v := 1) hx hb dX7_lends_42 (by decide) ?_
          refine lv_isub hx hb dX7_lends_43 ?_
          refine x_cS (As := [.int p4, .int 1, .int ((1 <<< ((v_4 1 (tn 1)) &&& 31)) - 1)]) (rest := []) (F := (cR E aR v_4)) C0 hw (p_non _) hl.1 (c_X7_in l E  h) 3 gX7_lends_X7_in rfl ⟨rfl, rfl⟩ (by decide +kernel) ⟨Nat.le_of_ble_eq_true rfl, Nat.le_of_ble_eq_true rfl⟩ rfl rfl (Nat.le_of_ble_eq_true rfl) dX7_lends_44 ⟨Nat.zero_le _, Nat.zero_le _⟩ (fun r_6 _u H locs h (hw : mw E A s.heap H locs (cR E aR v_4)) => ?_)
          refine lv_if_eq (tgt := 54) hx hb dX7_lends_47 (by decide) (fun c_27 => ?_) (fun c_27 => ?_)
          · replace h := h.1 c_27
            refine lv_iconst (v := 0) hx hb dX7_lends_54 (by decide) ?_
            refine lv_istore (lv' := [(5, .int 0), (0, .ref (aR 0)), (1, .int p1), (2, .int p2), (3, .int p3), (4, .int p4)]) hx hb dX7_lends_55 hl (by decide) rfl (fun ls hl => ?_)
            refine lv_iload hx hb dX7_lends_57 (lv_at hl 0 rfl) ?_
            refine lv_if_ne (tgt := 65) hx hb dX7_lends_59 (by decide) (fun c => absurd (by decide) c) (fun _ => ?_)
            refine x_ldc (v := (-10000001)) C0 2 rfl dX7_lends_62 ?_
            exact x_ret C0 v_4 hw h dX7_lends_64
          · replace h := h.2 c_27
            refine lv_iconst (v := 1) hx hb dX7_lends_50 (by decide) ?_
            refine lv_goto (tgt := 55) hx hb dX7_lends_51 (by decide) ?_
            refine lv_istore (lv' := [(5, .int 1), (0, .ref (aR 0)), (1, .int p1), (2, .int p2), (3, .int p3), (4, .int p4)]) hx hb dX7_lends_55 hl (by decide) rfl (fun ls hl => ?_)
            refine lv_iload hx hb dX7_lends_57 (lv_at hl 0 rfl) ?_
            refine lv_if_ne (tgt := 65) hx hb dX7_lends_59 (by decide) (fun _ => ?_) (fun c => absurd c (by decide))
            refine lv_aload_n hx hb dX7_lends_65 rfl (lv_at hl 1 rfl) ?_
            refine lv_iload_n hx hb dX7_lends_66 rfl (lv_at hl 2 rfl) ?_
            refine lv_iload hx hb dX7_lends_67 (lv_at hl 5 rfl) ?_
            refine x_cV (As := [.int p1, .int p4]) (rest := []) (F := []) C0 hw (p_nil _) hl.1 0 7 rfl rfl (c_X7_mayLend l E aR h) 2 gX7_lends_X7_mayLend rfl ⟨rfl, rfl⟩ (by decide +kernel) ⟨Nat.le_of_ble_eq_true rfl, Nat.le_of_ble_eq_true rfl⟩ rfl rfl (Nat.le_of_ble_eq_true rfl) dX7_lends_69 ⟨Nat.zero_le _, Nat.zero_le _⟩ (fun r_7 v_8 H locs h (hw : mw E A s.heap H locs (cR E aR v_8)) => ?_)
            refine lv_if_ne (tgt := 78) hx hb dX7_lends_72 (by decide) (fun c_26 => ?_) (fun c_26 => ?_)
            · replace h := h.1 c_26
              refine lv_aload_n hx hb dX7_lends_78 rfl (lv_at hl 1 rfl) ?_
              refine x_get C0 hw 7 hiX7 rfl 0 rfl 0 (by decide) 1 rfl rfl dX7_lends_79 ?_
              refine lv_iconst (v := 2) hx hb dX7_lends_82 (by decide) ?_
              refine x_ald C0 hw 1 rfl (vp_in_nI (n := 2) (by decide) (by decide)) dX7_lends_83 ?_
              refine lv_bipush (v := 10) hx hb dX7_lends_84 (by decide) ?_
              refine lv_icmp_ne (tgt := 92) hx hb dX7_lends_86 (by decide) (fun c_25 => ?_) (fun c_25 => ?_)
              · replace h := h.1 c_25
                refine lv_aload_n hx hb dX7_lends_92 rfl (lv_at hl 1 rfl) ?_
                refine x_get C0 hw 7 hiX7 rfl 0 rfl 0 (by decide) 1 rfl rfl dX7_lends_93 ?_
                refine lv_iconst (v := 2) hx hb dX7_lends_96 (by decide) ?_
                refine x_ald C0 hw 1 rfl (vp_in_nI (n := 2) (by decide) (by decide)) dX7_lends_97 ?_
                refine lv_istore (lv' := [(6, .int (v_8 1 (tn 2))), (5, .int 1), (0, .ref (aR 0)), (1, .int p1), (2, .int p2), (3, .int p3), (4, .int p4)]) hx hb dX7_lends_98 hl (by decide) rfl (fun ls hl => ?_)
                refine lv_aload_n hx hb dX7_lends_100 rfl (lv_at hl 2 rfl) ?_
                refine x_get C0 hw 7 hiX7 rfl 0 rfl 0 (by decide) 1 rfl rfl dX7_lends_101 ?_
                refine lv_iconst (v := 2) hx hb dX7_lends_104 (by decide) ?_
                refine lv_dup2_11 hx hb dX7_lends_105 rfl rfl ?_
                refine x_ald C0 hw 1 rfl (vp_in_nI (n := 2) (by decide) (by decide)) dX7_lends_106 ?_
                refine lv_iconst (v := 1) hx hb dX7_lends_107 (by decide) ?_
                refine lv_iadd hx hb dX7_lends_108 ?_
                refine x_ast (ws' := (cR E aR ((st v_8 1 (tn 2) ((v_8 1 (tn 2)) + 1))))) C0 hw 1 rfl (vp_in_nI (n := 2) (by decide) (by decide)) rfl dX7_lends_109 (fun H locs hw => ?_)
                obtain ⟨v_9, e_v_9⟩ : ∃ z, z = st v_8 1 (tn 2) ((v_8 1 (tn 2)) + 1) := ⟨_, rfl⟩
                rw [← e_v_9] at hw
                replace h := h v_9 e_v_9
                refine lv_sipush (v := 214) hx hb dX7_lends_110 (by decide) ?_
                refine lv_iconst (v := 5) hx hb dX7_lends_113 (by decide) ?_
                refine lv_iload hx hb dX7_lends_114 (lv_at hl 0 rfl) ?_
                refine lv_imul hx hb dX7_lends_116 ?_
                refine lv_iadd hx hb dX7_lends_117 ?_
                refine lv_istore (lv' := [(7, .int (214 + (5 * (v_8 1 (tn 2))))), (6, .int (v_8 1 (tn 2))), (5, .int 1), (0, .ref (aR 0)), (1, .int p1), (2, .int p2), (3, .int p3), (4, .int p4)]) hx hb dX7_lends_118 hl (by decide) rfl (fun ls hl => ?_)
                refine lv_aload_n hx hb dX7_lends_120 rfl (lv_at hl 3 rfl) ?_
                refine x_get C0 hw 7 hiX7 rfl 0 rfl 0 (by decide) 1 rfl rfl dX7_lends_121 ?_
                refine lv_iload hx hb dX7_lends_124 (lv_at hl 0 rfl) ?_
                refine lv_iconst (v := 0) hx hb dX7_lends_126 (by decide) ?_
                refine lv_iadd hx hb dX7_lends_127 ?_
                refine lv_iload_n hx hb dX7_lends_128 rfl (lv_at hl 4 rfl) ?_
                obtain ⟨hin, h⟩ := h
                refine x_ast (ws' := (cR E aR ((st v_9 1 (tn ((214 + (5 * (v_8 1 (tn 2)))) + 0)) p1)))) C0 hw 1 rfl hin rfl dX7_lends_129 (fun H locs hw => ?_)
                obtain ⟨v_10, e_v_10⟩ : ∃ z, z = st v_9 1 (tn ((214 + (5 * (v_8 1 (tn 2)))) + 0)) p1 := ⟨_, rfl⟩
                rw [← e_v_10] at hw
                replace h := h v_10 e_v_10
                refine lv_aload_n hx hb dX7_lends_130 rfl (lv_at hl 3 rfl) ?_
                refine x_get C0 hw 7 hiX7 rfl 0 rfl 0 (by decide) 1 rfl rfl dX7_lends_131 ?_
                refine lv_iload hx hb dX7_lends_134 (lv_at hl 0 rfl) ?_
                refine lv_iconst (v := 1) hx hb dX7_lends_136 (by decide) ?_
                refine lv_iadd hx hb dX7_lends_137 ?_
                refine lv_iload_n hx hb dX7_lends_138 rfl (lv_at hl 5 rfl) ?_
                obtain ⟨hin, h⟩ := h
                refine x_ast (ws' := (cR E aR ((st v_10 1 (tn ((214 + (5 * (v_8 1 (tn 2)))) + 1)) p2)))) C0 hw 1 rfl hin rfl dX7_lends_139 (fun H locs hw => ?_)
                obtain ⟨v_11, e_v_11⟩ : ∃ z, z = st v_10 1 (tn ((214 + (5 * (v_8 1 (tn 2)))) + 1)) p2 := ⟨_, rfl⟩
                rw [← e_v_11] at hw
                replace h := h v_11 e_v_11
                refine lv_aload_n hx hb dX7_lends_140 rfl (lv_at hl 3 rfl) ?_
                refine x_get C0 hw 7 hiX7 rfl 0 rfl 0 (by decide) 1 rfl rfl dX7_lends_141 ?_
                refine lv_iload hx hb dX7_lends_144 (lv_at hl 0 rfl) ?_
                refine lv_iconst (v := 2) hx hb dX7_lends_146 (by decide) ?_
                refine lv_iadd hx hb dX7_lends_147 ?_
                refine lv_aload_n hx hb dX7_lends_148 rfl (lv_at hl 3 rfl) ?_
                refine x_get C0 hw 7 hiX7 rfl 0 rfl 0 (by decide) 1 rfl rfl dX7_lends_149 ?_
                refine lv_iconst (v := 3) hx hb dX7_lends_152 (by decide) ?_
                refine x_ald C0 hw 1 rfl (vp_in_nI (n := 3) (by decide) (by decide)) dX7_lends_153 ?_
                refine lv_iload_n hx hb dX7_lends_154 rfl (lv_at hl 6 rfl) ?_
                refine lv_iadd hx hb dX7_lends_155 ?_
                obtain ⟨hin, h⟩ := h
                refine x_ast (ws' := (cR E aR ((st v_11 1 (tn ((214 + (5 * (v_8 1 (tn 2)))) + 2)) ((v_11 1 (tn 3)) + p3))))) C0 hw 1 rfl hin rfl dX7_lends_156 (fun H locs hw => ?_)
                obtain ⟨v_12, e_v_12⟩ : ∃ z, z = st v_11 1 (tn ((214 + (5 * (v_8 1 (tn 2)))) + 2)) ((v_11 1 (tn 3)) + p3) := ⟨_, rfl⟩
                rw [← e_v_12] at hw
                replace h := h v_12 e_v_12
                refine lv_aload_n hx hb dX7_lends_157 rfl (lv_at hl 3 rfl) ?_
                refine x_get C0 hw 7 hiX7 rfl 0 rfl 0 (by decide) 1 rfl rfl dX7_lends_158 ?_
                refine lv_iload hx hb dX7_lends_161 (lv_at hl 0 rfl) ?_
                refine lv_iconst (v := 3) hx hb dX7_lends_163 (by decide) ?_
                refine lv_iadd hx hb dX7_lends_164 ?_
                refine lv_iload hx hb dX7_lends_165 (lv_at hl 7 rfl) ?_
                obtain ⟨hin, h⟩ := h
                refine x_ast (ws' := (cR E aR ((st v_12 1 (tn ((214 + (5 * (v_8 1 (tn 2)))) + 3)) p4)))) C0 hw 1 rfl hin rfl dX7_lends_167 (fun H locs hw => ?_)
                obtain ⟨v_13, e_v_13⟩ : ∃ z, z = st v_12 1 (tn ((214 + (5 * (v_8 1 (tn 2)))) + 3)) p4 := ⟨_, rfl⟩
                rw [← e_v_13] at hw
                replace h := h v_13 e_v_13
                refine lv_aload_n hx hb dX7_lends_168 rfl (lv_at hl 3 rfl) ?_
                refine x_get C0 hw 7 hiX7 rfl 0 rfl 0 (by decide) 1 rfl rfl dX7_lends_169 ?_
                refine lv_iload hx hb dX7_lends_172 (lv_at hl 0 rfl) ?_
                refine lv_iconst (v := 4) hx hb dX7_lends_174 (by decide) ?_
                refine lv_iadd hx hb dX7_lends_175 ?_
                refine lv_iconst (v := 0) hx hb dX7_lends_176 (by decide) ?_
                obtain ⟨hin, h⟩ := h
                refine x_ast (ws' := (cR E aR ((st v_13 1 (tn ((214 + (5 * (v_8 1 (tn 2)))) + 4)) 0)))) C0 hw 1 rfl hin rfl dX7_lends_177 (fun H locs hw => ?_)
                obtain ⟨v_14, e_v_14⟩ : ∃ z, z = st v_13 1 (tn ((214 + (5 * (v_8 1 (tn 2)))) + 4)) 0 := ⟨_, rfl⟩
                rw [← e_v_14] at hw
                replace h := h v_14 e_v_14
                refine lv_iconst (v := 0) hx hb dX7_lends_178 (by decide) ?_
                refine lv_istore (lv' := [(8, .int 0), (7, .int (214 + (5 * (v_8 1 (tn 2))))), (6, .int (v_8 1 (tn 2))), (5, .int 1), (0, .ref (aR 0)), (1, .int p1), (2, .int p2), (3, .int p3), (4, .int p4)]) hx hb dX7_lends_179 hl (by decide) rfl (fun ls hl => ?_)
                obtain ⟨n_22, h⟩ := h
                refine w_X7_lends_181 C0 _ _ _ h _ _ _ hw (lv_sub hl [4, 6, 8, 2, 0] rfl) ?_
                · intro x8_23 v_24 H locs ls h hw hl
                  refine lv_iload hx hb dX7_lends_240 (lv_at hl 3 rfl) ?_
                  exact x_ret C0 v_24 hw h dX7_lends_242
              · replace h := h.2 c_25
                refine x_ldc (v := (-10000003)) C0 4 rfl dX7_lends_89 ?_
                exact x_ret C0 v_8 hw h dX7_lends_91
            · replace h := h.2 c_26
              refine x_ldc (v := (-10000002)) C0 3 rfl dX7_lends_75 ?_
              exact x_ret C0 v_8 hw h dX7_lends_77

abbrev rmX7_gives : Room := { frames := 2, cells := 0, slots := 0, locals := 45 }
set_option maxRecDepth 100000 in
set_option maxHeartbeats 4000000 in
theorem c_X7_gives (l : Launch) (E : EE) (aR : Nat → Nat) {v : V}  {p1 : Int32} {post : Int32 → V → Prop} (h : s_X7_gives v p1 post) : KI l E yX7_gives wsX7_gives rmX7_gives [.ref (aR 0), .int p1] (cR E aR v) post (fun u => cR E aR u) := by
  unfold s_X7_gives at h
  refine KI.go (cc := cX7_gives) (ret := (some .int)) (maxL := 3) (own := RX7) (by decide) rfl (Nat.le_of_ble_eq_true rfl) rfl (fun p e s m below meth c A ls C0 hw hl => ?_)
  have hx := C0.1
  have hb := C0.2.1
  replace hl : lv_has ls 3 [(0, .ref (aR 0)), (1, .int p1)] := hl
  refine lv_aload_n hx hb dX7_gives_0 rfl (lv_at hl 0 rfl) ?_
  refine lv_iload_n hx hb dX7_gives_1 rfl (lv_at hl 1 rfl) ?_
  refine x_cV (As := [.int p1]) (rest := []) (F := []) C0 hw (p_nil _) hl.1 0 7 rfl rfl (c_X7_isStone l E aR h) 1 gX7_gives_X7_isStone rfl ⟨rfl, rfl⟩ (by decide +kernel) ⟨Nat.le_of_ble_eq_true rfl, Nat.le_of_ble_eq_true rfl⟩ rfl rfl (Nat.le_of_ble_eq_true rfl) dX7_gives_2 ⟨Nat.zero_le _, Nat.zero_le _⟩ (fun r_1 v_2 H locs h (hw : mw E A s.heap H locs (cR E aR v_2)) => ?_)
  refine lv_if_ne (tgt := 11) hx hb dX7_gives_5 (by decide) (fun c_16 => ?_) (fun c_16 => ?_)
  · replace h := h.1 c_16
    refine lv_aload_n hx hb dX7_gives_11 rfl (lv_at hl 0 rfl) ?_
    refine lv_iload_n hx hb dX7_gives_12 rfl (lv_at hl 1 rfl) ?_
    refine x_cV (As := [.int p1]) (rest := []) (F := []) C0 hw (p_nil _) hl.1 0 7 rfl rfl (c_X7_isOut l E aR h) 1 gX7_gives_X7_isOut rfl ⟨rfl, rfl⟩ (by decide +kernel) ⟨Nat.le_of_ble_eq_true rfl, Nat.le_of_ble_eq_true rfl⟩ rfl rfl (Nat.le_of_ble_eq_true rfl) dX7_gives_13 ⟨Nat.zero_le _, Nat.zero_le _⟩ (fun r_3 v_4 H locs h (hw : mw E A s.heap H locs (cR E aR v_4)) => ?_)
    refine lv_if_ne (tgt := 22) hx hb dX7_gives_16 (by decide) (fun c_15 => ?_) (fun c_15 => ?_)
    · replace h := h.1 c_15
      refine lv_aload_n hx hb dX7_gives_22 rfl (lv_at hl 0 rfl) ?_
      refine lv_iload_n hx hb dX7_gives_23 rfl (lv_at hl 1 rfl) ?_
      refine lv_iconst (v := 5) hx hb dX7_gives_24 (by decide) ?_
      refine x_cV (As := [.int p1, .int 5]) (rest := []) (F := []) C0 hw (p_nil _) hl.1 0 7 rfl rfl (c_X7_ofStone l E aR h) 2 gX7_gives_X7_ofStone rfl ⟨rfl, rfl⟩ (by decide +kernel) ⟨Nat.le_of_ble_eq_true rfl, Nat.le_of_ble_eq_true rfl⟩ rfl rfl (Nat.le_of_ble_eq_true rfl) dX7_gives_25 ⟨Nat.zero_le _, Nat.zero_le _⟩ (fun r_5 v_6 H locs h (hw : mw E A s.heap H locs (cR E aR v_6)) => ?_)
      refine lv_istore_n (lv' := [(2, .int r_5), (0, .ref (aR 0)), (1, .int p1)]) hx hb dX7_gives_28 rfl hl (by decide) rfl (fun ls hl => ?_)
      refine lv_aload_n hx hb dX7_gives_29 rfl (lv_at hl 1 rfl) ?_
      refine lv_iload_n hx hb dX7_gives_30 rfl (lv_at hl 2 rfl) ?_
      refine lv_iconst (v := 4) hx hb dX7_gives_31 (by decide) ?_
      refine lv_aload_n hx hb dX7_gives_32 rfl (lv_at hl 1 rfl) ?_
      refine lv_iload_n hx hb dX7_gives_33 rfl (lv_at hl 2 rfl) ?_
      refine lv_iconst (v := 3) hx hb dX7_gives_34 (by decide) ?_
      refine x_cV (As := [.int p1, .int 3]) (rest := [.int 4, .int p1, .ref (aR 0)]) (F := []) C0 hw (p_nil _) hl.1 0 7 rfl rfl (c_X7_ofStone l E aR h) 2 gX7_gives_X7_ofStone rfl ⟨rfl, rfl⟩ (by decide +kernel) ⟨Nat.le_of_ble_eq_true rfl, Nat.le_of_ble_eq_true rfl⟩ rfl rfl (Nat.le_of_ble_eq_true rfl) dX7_gives_35 ⟨Nat.zero_le _, Nat.zero_le _⟩ (fun r_7 v_8 H locs h (hw : mw E A s.heap H locs (cR E aR v_8)) => ?_)
      refine x_cVv (As := [.int p1, .int 4, .int r_7]) (rest := []) (F := []) C0 hw (p_nil _) hl.1 0 7 rfl rfl (c_X7_setStone l E aR h) 3 gX7_gives_X7_setStone rfl ⟨rfl, rfl⟩ (by decide +kernel) ⟨Nat.le_of_ble_eq_true rfl, Nat.le_of_ble_eq_true rfl⟩ rfl rfl (Nat.le_of_ble_eq_true rfl) dX7_gives_38 ⟨Nat.zero_le _, Nat.zero_le _⟩ (fun v_9 H locs h (hw : mw E A s.heap H locs (cR E aR v_9)) => ?_)
      refine lv_aload_n hx hb dX7_gives_41 rfl (lv_at hl 1 rfl) ?_
      refine lv_iload_n hx hb dX7_gives_42 rfl (lv_at hl 2 rfl) ?_
      refine lv_iconst (v := 5) hx hb dX7_gives_43 (by decide) ?_
      refine lv_iconst (v := (-1)) hx hb dX7_gives_44 (by decide) ?_
      refine x_cVv (As := [.int p1, .int 5, .int (-1)]) (rest := []) (F := []) C0 hw (p_nil _) hl.1 0 7 rfl rfl (c_X7_setStone l E aR h) 3 gX7_gives_X7_setStone rfl ⟨rfl, rfl⟩ (by decide +kernel) ⟨Nat.le_of_ble_eq_true rfl, Nat.le_of_ble_eq_true rfl⟩ rfl rfl (Nat.le_of_ble_eq_true rfl) dX7_gives_45 ⟨Nat.zero_le _, Nat.zero_le _⟩ (fun v_10 H locs h (hw : mw E A s.heap H locs (cR E aR v_10)) => ?_)
      refine lv_aload_n hx hb dX7_gives_48 rfl (lv_at hl 1 rfl) ?_
      refine lv_iload_n hx hb dX7_gives_49 rfl (lv_at hl 0 rfl) ?_
      refine x_cV (As := [.int r_5]) (rest := []) (F := []) C0 hw (p_nil _) hl.1 0 7 rfl rfl (c_X7_outBy l E aR h) 1 gX7_gives_X7_outBy rfl ⟨rfl, rfl⟩ (by decide +kernel) ⟨Nat.le_of_ble_eq_true rfl, Nat.le_of_ble_eq_true rfl⟩ rfl rfl (Nat.le_of_ble_eq_true rfl) dX7_gives_50 ⟨Nat.zero_le _, Nat.zero_le _⟩ (fun r_11 v_12 H locs h (hw : mw E A s.heap H locs (cR E aR v_12)) => ?_)
      refine x_cS (As := [.int r_11]) (rest := []) (F := (cR E aR v_12)) C0 hw (p_non _) hl.1 (c_X7_ones l E  h) 1 gX7_gives_X7_ones rfl ⟨rfl, rfl⟩ (by decide +kernel) ⟨Nat.le_of_ble_eq_true rfl, Nat.le_of_ble_eq_true rfl⟩ rfl rfl (Nat.le_of_ble_eq_true rfl) dX7_gives_53 ⟨Nat.zero_le _, Nat.zero_le _⟩ (fun r_13 _u H locs h (hw : mw E A s.heap H locs (cR E aR v_12)) => ?_)
      exact x_ret C0 v_12 hw h dX7_gives_56
    · replace h := h.2 c_15
      refine x_ldc (v := (-10000002)) C0 2 rfl dX7_gives_19 ?_
      exact x_ret C0 v_4 hw h dX7_gives_21
  · replace h := h.2 c_16
    refine x_ldc (v := (-10000001)) C0 1 rfl dX7_gives_8 ?_
    exact x_ret C0 v_2 hw h dX7_gives_10

abbrev rmX7_pays : Room := { frames := 1, cells := 0, slots := 0, locals := 23 }
set_option maxRecDepth 100000 in
set_option maxHeartbeats 4000000 in
theorem c_X7_pays (l : Launch) (E : EE) (aR : Nat → Nat) {v : V}  {p1 : Int32} {p2 : Int32} {post : V → Prop} (h : s_X7_pays v p1 p2 post) : KV l E yX7_pays wsX7_pays rmX7_pays [.ref (aR 0), .int p1, .int p2] (cR E aR v) post (fun u => cR E aR u) := by
  unfold s_X7_pays at h
  refine KV.go (cc := cX7_pays) (ret := none) (maxL := 4) (own := RX7) (by decide) rfl (Nat.le_of_ble_eq_true rfl) rfl (fun p e s m below meth c A ls C0 hw hl => ?_)
  have hx := C0.1
  have hb := C0.2.1
  have hiX7 : ∀ w ∈ wsX70, w ∈ wsX7_pays := fun w h => List.mem_cons_of_mem _ (List.mem_append_right _ h)
  replace hl : lv_has ls 4 [(0, .ref (aR 0)), (1, .int p1), (2, .int p2)] := hl
  refine lv_aload_n hx hb dX7_pays_0 rfl (lv_at hl 0 rfl) ?_
  refine lv_iload_n hx hb dX7_pays_1 rfl (lv_at hl 1 rfl) ?_
  refine lv_iconst (v := 5) hx hb dX7_pays_2 (by decide) ?_
  refine x_cV (As := [.int p1, .int 5]) (rest := []) (F := []) C0 hw (p_nil _) hl.1 0 7 rfl rfl (c_X7_ofStone l E aR h) 2 gX7_pays_X7_ofStone rfl ⟨rfl, rfl⟩ (by decide +kernel) ⟨Nat.le_of_ble_eq_true rfl, Nat.le_of_ble_eq_true rfl⟩ rfl rfl (Nat.le_of_ble_eq_true rfl) dX7_pays_3 ⟨Nat.zero_le _, Nat.zero_le _⟩ (fun r_1 v_2 H locs h (hw : mw E A s.heap H locs (cR E aR v_2)) => ?_)
  refine lv_istore_n (lv' := [(3, .int r_1), (0, .ref (aR 0)), (1, .int p1), (2, .int p2)]) hx hb dX7_pays_6 rfl hl (by decide) rfl (fun ls hl => ?_)
  refine lv_aload_n hx hb dX7_pays_7 rfl (lv_at hl 1 rfl) ?_
  refine x_get C0 hw 7 hiX7 rfl 0 rfl 0 (by decide) 1 rfl rfl dX7_pays_8 ?_
  refine lv_bipush (v := 8) hx hb dX7_pays_11 (by decide) ?_
  refine lv_aload_n hx hb dX7_pays_13 rfl (lv_at hl 1 rfl) ?_
  refine lv_iload_n hx hb dX7_pays_14 rfl (lv_at hl 2 rfl) ?_
  refine lv_iconst (v := 4) hx hb dX7_pays_15 (by decide) ?_
  refine x_cV (As := [.int p1, .int 4]) (rest := [.int 8, .ref (aR 1)]) (F := []) C0 hw (p_nil _) hl.1 0 7 rfl rfl (c_X7_ofStone l E aR h) 2 gX7_pays_X7_ofStone rfl ⟨rfl, rfl⟩ (by decide +kernel) ⟨Nat.le_of_ble_eq_true rfl, Nat.le_of_ble_eq_true rfl⟩ rfl rfl (Nat.le_of_ble_eq_true rfl) dX7_pays_16 ⟨Nat.zero_le _, Nat.zero_le _⟩ (fun r_3 v_4 H locs h (hw : mw E A s.heap H locs (cR E aR v_4)) => ?_)
  refine lv_iadd hx hb dX7_pays_19 ?_
  refine lv_dup2_11 hx hb dX7_pays_20 rfl rfl ?_
  obtain ⟨hin, h⟩ := h
  refine x_ald C0 hw 1 rfl hin dX7_pays_21 ?_
  refine lv_iload_n hx hb dX7_pays_22 rfl (lv_at hl 3 rfl) ?_
  refine lv_isub hx hb dX7_pays_23 ?_
  obtain ⟨hin, h⟩ := h
  refine x_ast (ws' := (cR E aR ((st v_4 1 (tn (8 + r_3)) ((v_4 1 (tn (8 + r_3))) - p2))))) C0 hw 1 rfl hin rfl dX7_pays_24 (fun H locs hw => ?_)
  obtain ⟨v_5, e_v_5⟩ : ∃ z, z = st v_4 1 (tn (8 + r_3)) ((v_4 1 (tn (8 + r_3))) - p2) := ⟨_, rfl⟩
  rw [← e_v_5] at hw
  replace h := h v_5 e_v_5
  refine lv_aload_n hx hb dX7_pays_25 rfl (lv_at hl 1 rfl) ?_
  refine x_get C0 hw 7 hiX7 rfl 0 rfl 0 (by decide) 1 rfl rfl dX7_pays_26 ?_
  refine lv_bipush (v := 8) hx hb dX7_pays_29 (by decide) ?_
  refine lv_aload_n hx hb dX7_pays_31 rfl (lv_at hl 1 rfl) ?_
  refine lv_iload_n hx hb dX7_pays_32 rfl (lv_at hl 2 rfl) ?_
  refine lv_iconst (v := 3) hx hb dX7_pays_33 (by decide) ?_
  refine x_cV (As := [.int p1, .int 3]) (rest := [.int 8, .ref (aR 1)]) (F := []) C0 hw (p_nil _) hl.1 0 7 rfl rfl (c_X7_ofStone l E aR h) 2 gX7_pays_X7_ofStone rfl ⟨rfl, rfl⟩ (by decide +kernel) ⟨Nat.le_of_ble_eq_true rfl, Nat.le_of_ble_eq_true rfl⟩ rfl rfl (Nat.le_of_ble_eq_true rfl) dX7_pays_34 ⟨Nat.zero_le _, Nat.zero_le _⟩ (fun r_6 v_7 H locs h (hw : mw E A s.heap H locs (cR E aR v_7)) => ?_)
  refine lv_iadd hx hb dX7_pays_37 ?_
  refine lv_dup2_11 hx hb dX7_pays_38 rfl rfl ?_
  obtain ⟨hin, h⟩ := h
  refine x_ald C0 hw 1 rfl hin dX7_pays_39 ?_
  refine lv_iload_n hx hb dX7_pays_40 rfl (lv_at hl 3 rfl) ?_
  refine lv_iadd hx hb dX7_pays_41 ?_
  obtain ⟨hin, h⟩ := h
  refine x_ast (ws' := (cR E aR ((st v_7 1 (tn (8 + r_6)) ((v_7 1 (tn (8 + r_6))) + p2))))) C0 hw 1 rfl hin rfl dX7_pays_42 (fun H locs hw => ?_)
  obtain ⟨v_8, e_v_8⟩ : ∃ z, z = st v_7 1 (tn (8 + r_6)) ((v_7 1 (tn (8 + r_6))) + p2) := ⟨_, rfl⟩
  rw [← e_v_8] at hw
  replace h := h v_8 e_v_8
  refine lv_aload_n hx hb dX7_pays_43 rfl (lv_at hl 1 rfl) ?_
  refine lv_iload_n hx hb dX7_pays_44 rfl (lv_at hl 2 rfl) ?_
  refine lv_iconst (v := 3) hx hb dX7_pays_45 (by decide) ?_
  refine lv_aload_n hx hb dX7_pays_46 rfl (lv_at hl 1 rfl) ?_
  refine lv_iload_n hx hb dX7_pays_47 rfl (lv_at hl 2 rfl) ?_
  refine lv_iconst (v := 4) hx hb dX7_pays_48 (by decide) ?_
  refine x_cV (As := [.int p1, .int 4]) (rest := [.int 3, .int p1, .ref (aR 0)]) (F := []) C0 hw (p_nil _) hl.1 0 7 rfl rfl (c_X7_ofStone l E aR h) 2 gX7_pays_X7_ofStone rfl ⟨rfl, rfl⟩ (by decide +kernel) ⟨Nat.le_of_ble_eq_true rfl, Nat.le_of_ble_eq_true rfl⟩ rfl rfl (Nat.le_of_ble_eq_true rfl) dX7_pays_49 ⟨Nat.zero_le _, Nat.zero_le _⟩ (fun r_9 v_10 H locs h (hw : mw E A s.heap H locs (cR E aR v_10)) => ?_)
  refine x_cVv (As := [.int p1, .int 3, .int r_9]) (rest := []) (F := []) C0 hw (p_nil _) hl.1 0 7 rfl rfl (c_X7_setStone l E aR h) 3 gX7_pays_X7_setStone rfl ⟨rfl, rfl⟩ (by decide +kernel) ⟨Nat.le_of_ble_eq_true rfl, Nat.le_of_ble_eq_true rfl⟩ rfl rfl (Nat.le_of_ble_eq_true rfl) dX7_pays_52 ⟨Nat.zero_le _, Nat.zero_le _⟩ (fun v_11 H locs h (hw : mw E A s.heap H locs (cR E aR v_11)) => ?_)
  refine lv_aload_n hx hb dX7_pays_55 rfl (lv_at hl 1 rfl) ?_
  refine lv_iload_n hx hb dX7_pays_56 rfl (lv_at hl 2 rfl) ?_
  refine lv_iconst (v := 5) hx hb dX7_pays_57 (by decide) ?_
  refine lv_iconst (v := (-1)) hx hb dX7_pays_58 (by decide) ?_
  refine x_cVv (As := [.int p1, .int 5, .int (-1)]) (rest := []) (F := []) C0 hw (p_nil _) hl.1 0 7 rfl rfl (c_X7_setStone l E aR h) 3 gX7_pays_X7_setStone rfl ⟨rfl, rfl⟩ (by decide +kernel) ⟨Nat.le_of_ble_eq_true rfl, Nat.le_of_ble_eq_true rfl⟩ rfl rfl (Nat.le_of_ble_eq_true rfl) dX7_pays_59 ⟨Nat.zero_le _, Nat.zero_le _⟩ (fun v_12 H locs h (hw : mw E A s.heap H locs (cR E aR v_12)) => ?_)
  refine lv_aload_n hx hb dX7_pays_62 rfl (lv_at hl 1 rfl) ?_
  refine lv_iload_n hx hb dX7_pays_63 rfl (lv_at hl 2 rfl) ?_
  refine lv_bipush (v := 8) hx hb dX7_pays_64 (by decide) ?_
  refine lv_aload_n hx hb dX7_pays_66 rfl (lv_at hl 1 rfl) ?_
  refine lv_iload_n hx hb dX7_pays_67 rfl (lv_at hl 2 rfl) ?_
  refine lv_bipush (v := 8) hx hb dX7_pays_68 (by decide) ?_
  refine x_cV (As := [.int p1, .int 8]) (rest := [.int 8, .int p1, .ref (aR 0)]) (F := []) C0 hw (p_nil _) hl.1 0 7 rfl rfl (c_X7_ofStone l E aR h) 2 gX7_pays_X7_ofStone rfl ⟨rfl, rfl⟩ (by decide +kernel) ⟨Nat.le_of_ble_eq_true rfl, Nat.le_of_ble_eq_true rfl⟩ rfl rfl (Nat.le_of_ble_eq_true rfl) dX7_pays_70 ⟨Nat.zero_le _, Nat.zero_le _⟩ (fun r_13 v_14 H locs h (hw : mw E A s.heap H locs (cR E aR v_14)) => ?_)
  refine lv_iconst (v := 1) hx hb dX7_pays_73 (by decide) ?_
  refine lv_iadd hx hb dX7_pays_74 ?_
  refine x_cVv (As := [.int p1, .int 8, .int (r_13 + 1)]) (rest := []) (F := []) C0 hw (p_nil _) hl.1 0 7 rfl rfl (c_X7_setStone l E aR h) 3 gX7_pays_X7_setStone rfl ⟨rfl, rfl⟩ (by decide +kernel) ⟨Nat.le_of_ble_eq_true rfl, Nat.le_of_ble_eq_true rfl⟩ rfl rfl (Nat.le_of_ble_eq_true rfl) dX7_pays_75 ⟨Nat.zero_le _, Nat.zero_le _⟩ (fun v_15 H locs h (hw : mw E A s.heap H locs (cR E aR v_15)) => ?_)
  refine lv_aload_n hx hb dX7_pays_78 rfl (lv_at hl 1 rfl) ?_
  refine x_get C0 hw 7 hiX7 rfl 0 rfl 0 (by decide) 1 rfl rfl dX7_pays_79 ?_
  refine lv_sipush (v := 214) hx hb dX7_pays_82 (by decide) ?_
  refine lv_iconst (v := 5) hx hb dX7_pays_85 (by decide) ?_
  refine lv_iload_n hx hb dX7_pays_86 rfl (lv_at hl 0 rfl) ?_
  refine lv_imul hx hb dX7_pays_87 ?_
  refine lv_iadd hx hb dX7_pays_88 ?_
  refine lv_iconst (v := 4) hx hb dX7_pays_89 (by decide) ?_
  refine lv_iadd hx hb dX7_pays_90 ?_
  refine lv_dup2_11 hx hb dX7_pays_91 rfl rfl ?_
  obtain ⟨hin, h⟩ := h
  refine x_ald C0 hw 1 rfl hin dX7_pays_92 ?_
  refine lv_iconst (v := 1) hx hb dX7_pays_93 (by decide) ?_
  refine lv_iadd hx hb dX7_pays_94 ?_
  obtain ⟨hin, h⟩ := h
  refine x_ast (ws' := (cR E aR ((st v_15 1 (tn ((214 + (5 * r_1)) + 4)) ((v_15 1 (tn ((214 + (5 * r_1)) + 4))) + 1))))) C0 hw 1 rfl hin rfl dX7_pays_95 (fun H locs hw => ?_)
  obtain ⟨v_16, e_v_16⟩ : ∃ z, z = st v_15 1 (tn ((214 + (5 * r_1)) + 4)) ((v_15 1 (tn ((214 + (5 * r_1)) + 4))) + 1) := ⟨_, rfl⟩
  rw [← e_v_16] at hw
  replace h := h v_16 e_v_16
  exact x_retv C0 v_16 hw h dX7_pays_96

abbrev rmX7_keeps : Room := { frames := 2, cells := 0, slots := 0, locals := 46 }
set_option maxRecDepth 100000 in
set_option maxHeartbeats 4000000 in
theorem c_X7_keeps (l : Launch) (E : EE) (aR : Nat → Nat) {v : V}  {p1 : Int32} {post : Int32 → V → Prop} (h : s_X7_keeps v p1 post) : KI l E yX7_keeps wsX7_keeps rmX7_keeps [.ref (aR 0), .int p1] (cR E aR v) post (fun u => cR E aR u) := by
  unfold s_X7_keeps at h
  refine KI.go (cc := cX7_keeps) (ret := (some .int)) (maxL := 3) (own := RX7) (by decide) rfl (Nat.le_of_ble_eq_true rfl) rfl (fun p e s m below meth c A ls C0 hw hl => ?_)
  have hx := C0.1
  have hb := C0.2.1
  replace hl : lv_has ls 3 [(0, .ref (aR 0)), (1, .int p1)] := hl
  refine lv_aload_n hx hb dX7_keeps_0 rfl (lv_at hl 0 rfl) ?_
  refine lv_iload_n hx hb dX7_keeps_1 rfl (lv_at hl 1 rfl) ?_
  refine x_cV (As := [.int p1]) (rest := []) (F := []) C0 hw (p_nil _) hl.1 0 7 rfl rfl (c_X7_isStone l E aR h) 1 gX7_keeps_X7_isStone rfl ⟨rfl, rfl⟩ (by decide +kernel) ⟨Nat.le_of_ble_eq_true rfl, Nat.le_of_ble_eq_true rfl⟩ rfl rfl (Nat.le_of_ble_eq_true rfl) dX7_keeps_2 ⟨Nat.zero_le _, Nat.zero_le _⟩ (fun r_1 v_2 H locs h (hw : mw E A s.heap H locs (cR E aR v_2)) => ?_)
  refine lv_if_ne (tgt := 11) hx hb dX7_keeps_5 (by decide) (fun c_9 => ?_) (fun c_9 => ?_)
  · replace h := h.1 c_9
    refine lv_aload_n hx hb dX7_keeps_11 rfl (lv_at hl 0 rfl) ?_
    refine lv_iload_n hx hb dX7_keeps_12 rfl (lv_at hl 1 rfl) ?_
    refine x_cV (As := [.int p1]) (rest := []) (F := []) C0 hw (p_nil _) hl.1 0 7 rfl rfl (c_X7_isOut l E aR h) 1 gX7_keeps_X7_isOut rfl ⟨rfl, rfl⟩ (by decide +kernel) ⟨Nat.le_of_ble_eq_true rfl, Nat.le_of_ble_eq_true rfl⟩ rfl rfl (Nat.le_of_ble_eq_true rfl) dX7_keeps_13 ⟨Nat.zero_le _, Nat.zero_le _⟩ (fun r_3 v_4 H locs h (hw : mw E A s.heap H locs (cR E aR v_4)) => ?_)
    refine lv_if_ne (tgt := 22) hx hb dX7_keeps_16 (by decide) (fun c_8 => ?_) (fun c_8 => ?_)
    · replace h := h.1 c_8
      refine lv_aload_n hx hb dX7_keeps_22 rfl (lv_at hl 0 rfl) ?_
      refine lv_iload_n hx hb dX7_keeps_23 rfl (lv_at hl 1 rfl) ?_
      refine lv_bipush (v := 6) hx hb dX7_keeps_24 (by decide) ?_
      refine x_cV (As := [.int p1, .int 6]) (rest := []) (F := []) C0 hw (p_nil _) hl.1 0 7 rfl rfl (c_X7_ofStone l E aR h) 2 gX7_keeps_X7_ofStone rfl ⟨rfl, rfl⟩ (by decide +kernel) ⟨Nat.le_of_ble_eq_true rfl, Nat.le_of_ble_eq_true rfl⟩ rfl rfl (Nat.le_of_ble_eq_true rfl) dX7_keeps_26 ⟨Nat.zero_le _, Nat.zero_le _⟩ (fun r_5 v_6 H locs h (hw : mw E A s.heap H locs (cR E aR v_6)) => ?_)
      refine lv_istore_n (lv' := [(2, .int r_5), (0, .ref (aR 0)), (1, .int p1)]) hx hb dX7_keeps_29 rfl hl (by decide) rfl (fun ls hl => ?_)
      refine lv_aload_n hx hb dX7_keeps_30 rfl (lv_at hl 1 rfl) ?_
      refine lv_iload_n hx hb dX7_keeps_31 rfl (lv_at hl 2 rfl) ?_
      refine lv_iload_n hx hb dX7_keeps_32 rfl (lv_at hl 0 rfl) ?_
      refine x_cVv (As := [.int p1, .int r_5]) (rest := []) (F := []) C0 hw (p_nil _) hl.1 0 7 rfl rfl (c_X7_pays l E aR h) 2 gX7_keeps_X7_pays rfl ⟨rfl, rfl⟩ (by decide +kernel) ⟨Nat.le_of_ble_eq_true rfl, Nat.le_of_ble_eq_true rfl⟩ rfl rfl (Nat.le_of_ble_eq_true rfl) dX7_keeps_33 ⟨Nat.zero_le _, Nat.zero_le _⟩ (fun v_7 H locs h (hw : mw E A s.heap H locs (cR E aR v_7)) => ?_)
      refine lv_iload_n hx hb dX7_keeps_36 rfl (lv_at hl 0 rfl) ?_
      exact x_ret C0 v_7 hw h dX7_keeps_37
    · replace h := h.2 c_8
      refine x_ldc (v := (-10000002)) C0 2 rfl dX7_keeps_19 ?_
      exact x_ret C0 v_4 hw h dX7_keeps_21
  · replace h := h.2 c_9
    refine x_ldc (v := (-10000001)) C0 1 rfl dX7_keeps_8 ?_
    exact x_ret C0 v_2 hw h dX7_keeps_10

abbrev rmX7_sells : Room := { frames := 2, cells := 0, slots := 0, locals := 43 }
set_option maxRecDepth 100000 in
set_option maxHeartbeats 4000000 in
theorem c_X7_sells (l : Launch) (E : EE) (aR : Nat → Nat) {v : V}  {p1 : Int32} {p2 : Int32} {post : Int32 → V → Prop} (h : s_X7_sells v p1 p2 post) : KI l E yX7_sells wsX7_sells rmX7_sells [.ref (aR 0), .int p1, .int p2] (cR E aR v) post (fun u => cR E aR u) := by
  unfold s_X7_sells at h
  refine KI.go (cc := cX7_sells) (ret := (some .int)) (maxL := 4) (own := RX7) (by decide) rfl (Nat.le_of_ble_eq_true rfl) rfl (fun p e s m below meth c A ls C0 hw hl => ?_)
  have hx := C0.1
  have hb := C0.2.1
  have hiX7 : ∀ w ∈ wsX70, w ∈ wsX7_sells := fun w h => List.mem_cons_of_mem _ (List.mem_append_right _ h)
  replace hl : lv_has ls 4 [(0, .ref (aR 0)), (1, .int p1), (2, .int p2)] := hl
  refine lv_aload_n hx hb dX7_sells_0 rfl (lv_at hl 0 rfl) ?_
  refine lv_iload_n hx hb dX7_sells_1 rfl (lv_at hl 1 rfl) ?_
  refine x_cV (As := [.int p1]) (rest := []) (F := []) C0 hw (p_nil _) hl.1 0 7 rfl rfl (c_X7_isStone l E aR h) 1 gX7_sells_X7_isStone rfl ⟨rfl, rfl⟩ (by decide +kernel) ⟨Nat.le_of_ble_eq_true rfl, Nat.le_of_ble_eq_true rfl⟩ rfl rfl (Nat.le_of_ble_eq_true rfl) dX7_sells_2 ⟨Nat.zero_le _, Nat.zero_le _⟩ (fun r_1 v_2 H locs h (hw : mw E A s.heap H locs (cR E aR v_2)) => ?_)
  refine lv_if_eq (tgt := 19) hx hb dX7_sells_5 (by decide) (fun c_18 => ?_) (fun c_18 => ?_)
  · replace h := h.1 c_18
    refine x_ldc (v := (-10000001)) C0 1 rfl dX7_sells_19 ?_
    exact x_ret C0 v_2 hw h dX7_sells_21
  · replace h := h.2 c_18
    refine lv_iload_n hx hb dX7_sells_8 rfl (lv_at hl 2 rfl) ?_
    refine lv_iconst (v := 1) hx hb dX7_sells_9 (by decide) ?_
    refine lv_sipush (v := 9999) hx hb dX7_sells_10 (by decide) ?_
    refine x_cS (As := [.int p2, .int 1, .int 9999]) (rest := []) (F := (cR E aR v_2)) C0 hw (p_non _) hl.1 (c_X7_in l E  h) 3 gX7_sells_X7_in rfl ⟨rfl, rfl⟩ (by decide +kernel) ⟨Nat.le_of_ble_eq_true rfl, Nat.le_of_ble_eq_true rfl⟩ rfl rfl (Nat.le_of_ble_eq_true rfl) dX7_sells_13 ⟨Nat.zero_le _, Nat.zero_le _⟩ (fun r_3 _u H locs h (hw : mw E A s.heap H locs (cR E aR v_2)) => ?_)
    refine lv_if_ne (tgt := 22) hx hb dX7_sells_16 (by decide) (fun c_16 => ?_) (fun c_16 => ?_)
    · replace h := h.1 c_16
      refine lv_aload_n hx hb dX7_sells_22 rfl (lv_at hl 0 rfl) ?_
      refine lv_iload_n hx hb dX7_sells_23 rfl (lv_at hl 1 rfl) ?_
      refine x_cV (As := [.int p1]) (rest := []) (F := []) C0 hw (p_nil _) hl.1 0 7 rfl rfl (c_X7_isOut l E aR h) 1 gX7_sells_X7_isOut rfl ⟨rfl, rfl⟩ (by decide +kernel) ⟨Nat.le_of_ble_eq_true rfl, Nat.le_of_ble_eq_true rfl⟩ rfl rfl (Nat.le_of_ble_eq_true rfl) dX7_sells_24 ⟨Nat.zero_le _, Nat.zero_le _⟩ (fun r_4 v_5 H locs h (hw : mw E A s.heap H locs (cR E aR v_5)) => ?_)
      refine lv_if_ne (tgt := 38) hx hb dX7_sells_27 (by decide) (fun c_15 => ?_) (fun c_15 => ?_)
      · replace h := h.1 c_15
        refine x_ldc (v := (-10000002)) C0 2 rfl dX7_sells_38 ?_
        exact x_ret C0 v_5 hw h dX7_sells_40
      · replace h := h.2 c_15
        refine lv_aload_n hx hb dX7_sells_30 rfl (lv_at hl 0 rfl) ?_
        refine lv_iload_n hx hb dX7_sells_31 rfl (lv_at hl 1 rfl) ?_
        refine x_cV (As := [.int p1]) (rest := []) (F := []) C0 hw (p_nil _) hl.1 0 7 rfl rfl (c_X7_isSold l E aR h) 1 gX7_sells_X7_isSold rfl ⟨rfl, rfl⟩ (by decide +kernel) ⟨Nat.le_of_ble_eq_true rfl, Nat.le_of_ble_eq_true rfl⟩ rfl rfl (Nat.le_of_ble_eq_true rfl) dX7_sells_32 ⟨Nat.zero_le _, Nat.zero_le _⟩ (fun r_6 v_7 H locs h (hw : mw E A s.heap H locs (cR E aR v_7)) => ?_)
        refine lv_if_eq (tgt := 41) hx hb dX7_sells_35 (by decide) (fun c_14 => ?_) (fun c_14 => ?_)
        · replace h := h.1 c_14
          refine lv_aload_n hx hb dX7_sells_41 rfl (lv_at hl 0 rfl) ?_
          refine lv_iload_n hx hb dX7_sells_42 rfl (lv_at hl 1 rfl) ?_
          refine lv_iconst (v := 3) hx hb dX7_sells_43 (by decide) ?_
          refine x_cV (As := [.int p1, .int 3]) (rest := []) (F := []) C0 hw (p_nil _) hl.1 0 7 rfl rfl (c_X7_ofStone l E aR h) 2 gX7_sells_X7_ofStone rfl ⟨rfl, rfl⟩ (by decide +kernel) ⟨Nat.le_of_ble_eq_true rfl, Nat.le_of_ble_eq_true rfl⟩ rfl rfl (Nat.le_of_ble_eq_true rfl) dX7_sells_44 ⟨Nat.zero_le _, Nat.zero_le _⟩ (fun r_8 v_9 H locs h (hw : mw E A s.heap H locs (cR E aR v_9)) => ?_)
          refine lv_istore_n (lv' := [(3, .int r_8), (0, .ref (aR 0)), (1, .int p1), (2, .int p2)]) hx hb dX7_sells_47 rfl hl (by decide) rfl (fun ls hl => ?_)
          refine lv_aload_n hx hb dX7_sells_48 rfl (lv_at hl 1 rfl) ?_
          refine x_get C0 hw 7 hiX7 rfl 0 rfl 0 (by decide) 3 rfl rfl dX7_sells_49 ?_
          refine lv_bipush (v := 8) hx hb dX7_sells_52 (by decide) ?_
          refine lv_iload_n hx hb dX7_sells_54 rfl (lv_at hl 0 rfl) ?_
          refine lv_iadd hx hb dX7_sells_55 ?_
          refine lv_dup2_11 hx hb dX7_sells_56 rfl rfl ?_
          obtain ⟨hin, h⟩ := h
          refine x_ald C0 hw 1 rfl hin dX7_sells_57 ?_
          refine lv_iload_n hx hb dX7_sells_58 rfl (lv_at hl 3 rfl) ?_
          refine lv_iadd hx hb dX7_sells_59 ?_
          obtain ⟨hin, h⟩ := h
          refine x_ast (ws' := (cR E aR ((st v_9 1 (tn (8 + r_8)) ((v_9 1 (tn (8 + r_8))) + p2))))) C0 hw 1 rfl hin rfl dX7_sells_60 (fun H locs hw => ?_)
          obtain ⟨v_10, e_v_10⟩ : ∃ z, z = st v_9 1 (tn (8 + r_8)) ((v_9 1 (tn (8 + r_8))) + p2) := ⟨_, rfl⟩
          rw [← e_v_10] at hw
          replace h := h v_10 e_v_10
          refine lv_aload_n hx hb dX7_sells_61 rfl (lv_at hl 1 rfl) ?_
          refine lv_iload_n hx hb dX7_sells_62 rfl (lv_at hl 2 rfl) ?_
          refine lv_iconst (v := 3) hx hb dX7_sells_63 (by decide) ?_
          refine lv_iconst (v := (-1)) hx hb dX7_sells_64 (by decide) ?_
          refine x_cVv (As := [.int p1, .int 3, .int (-1)]) (rest := []) (F := []) C0 hw (p_nil _) hl.1 0 7 rfl rfl (c_X7_setStone l E aR h) 3 gX7_sells_X7_setStone rfl ⟨rfl, rfl⟩ (by decide +kernel) ⟨Nat.le_of_ble_eq_true rfl, Nat.le_of_ble_eq_true rfl⟩ rfl rfl (Nat.le_of_ble_eq_true rfl) dX7_sells_65 ⟨Nat.zero_le _, Nat.zero_le _⟩ (fun v_11 H locs h (hw : mw E A s.heap H locs (cR E aR v_11)) => ?_)
          refine lv_aload_n hx hb dX7_sells_68 rfl (lv_at hl 1 rfl) ?_
          refine lv_iload_n hx hb dX7_sells_69 rfl (lv_at hl 2 rfl) ?_
          refine lv_iconst (v := 4) hx hb dX7_sells_70 (by decide) ?_
          refine lv_iconst (v := (-1)) hx hb dX7_sells_71 (by decide) ?_
          refine x_cVv (As := [.int p1, .int 4, .int (-1)]) (rest := []) (F := []) C0 hw (p_nil _) hl.1 0 7 rfl rfl (c_X7_setStone l E aR h) 3 gX7_sells_X7_setStone rfl ⟨rfl, rfl⟩ (by decide +kernel) ⟨Nat.le_of_ble_eq_true rfl, Nat.le_of_ble_eq_true rfl⟩ rfl rfl (Nat.le_of_ble_eq_true rfl) dX7_sells_72 ⟨Nat.zero_le _, Nat.zero_le _⟩ (fun v_12 H locs h (hw : mw E A s.heap H locs (cR E aR v_12)) => ?_)
          refine lv_aload_n hx hb dX7_sells_75 rfl (lv_at hl 1 rfl) ?_
          refine lv_iload_n hx hb dX7_sells_76 rfl (lv_at hl 2 rfl) ?_
          refine lv_bipush (v := 7) hx hb dX7_sells_77 (by decide) ?_
          refine lv_iload_n hx hb dX7_sells_79 rfl (lv_at hl 3 rfl) ?_
          refine x_cVv (As := [.int p1, .int 7, .int p2]) (rest := []) (F := []) C0 hw (p_nil _) hl.1 0 7 rfl rfl (c_X7_setStone l E aR h) 3 gX7_sells_X7_setStone rfl ⟨rfl, rfl⟩ (by decide +kernel) ⟨Nat.le_of_ble_eq_true rfl, Nat.le_of_ble_eq_true rfl⟩ rfl rfl (Nat.le_of_ble_eq_true rfl) dX7_sells_80 ⟨Nat.zero_le _, Nat.zero_le _⟩ (fun v_13 H locs h (hw : mw E A s.heap H locs (cR E aR v_13)) => ?_)
          refine x_ldc (v := 100000000) C0 4 rfl dX7_sells_83 ?_
          refine lv_aload_n hx hb dX7_sells_85 rfl (lv_at hl 1 rfl) ?_
          refine x_get C0 hw 7 hiX7 rfl 0 rfl 0 (by decide) 3 rfl rfl dX7_sells_86 ?_
          refine lv_bipush (v := 8) hx hb dX7_sells_89 (by decide) ?_
          refine lv_iload_n hx hb dX7_sells_91 rfl (lv_at hl 0 rfl) ?_
          refine lv_iadd hx hb dX7_sells_92 ?_
          obtain ⟨hin, h⟩ := h
          refine x_ald C0 hw 1 rfl hin dX7_sells_93 ?_
          refine lv_iadd hx hb dX7_sells_94 ?_
          exact x_ret C0 v_13 hw h dX7_sells_95
        · replace h := h.2 c_14
          refine x_ldc (v := (-10000002)) C0 2 rfl dX7_sells_38 ?_
          exact x_ret C0 v_7 hw h dX7_sells_40
    · replace h := h.2 c_16
      refine x_ldc (v := (-10000001)) C0 1 rfl dX7_sells_19 ?_
      exact x_ret C0 v_2 hw h dX7_sells_21

abbrev rmX7_isGrade : Room := { frames := 1, cells := 0, slots := 0, locals := 22 }
set_option maxRecDepth 100000 in
set_option maxHeartbeats 4000000 in
theorem c_X7_isGrade (l : Launch) (E : EE)    {p0 : Int32} {p1 : Int32} {post : Int32 → Prop} (h : s_X7_isGrade p0 p1 post) : KI l E yX7_isGrade wsX7_isGrade rmX7_isGrade [.int p0, .int p1] ([] : va_W) (S := Unit) (fun r (_ : Unit) => post r) (fun (_ : Unit) => ([] : va_W)) := by
  unfold s_X7_isGrade at h
  refine KI.go (cc := cX7_isGrade) (ret := (some .boolean)) (maxL := 2) (own := RX7) (by decide) rfl (Nat.le_of_ble_eq_true rfl) rfl (fun p e s m below meth c A ls C0 hw hl => ?_)
  have hx := C0.1
  have hb := C0.2.1
  replace hl : lv_has ls 2 [(0, .int p0), (1, .int p1)] := hl
  refine lv_iload_n hx hb dX7_isGrade_0 rfl (lv_at hl 0 rfl) ?_
  refine lv_iconst (v := 0) hx hb dX7_isGrade_1 (by decide) ?_
  refine lv_bipush (v := 9) hx hb dX7_isGrade_2 (by decide) ?_
  refine x_cS (As := [.int p0, .int 0, .int 9]) (rest := []) (F := ([] : va_W)) C0 hw (p_non _) hl.1 (c_X7_in l E  h) 3 gX7_isGrade_X7_in rfl ⟨rfl, rfl⟩ (by decide +kernel) ⟨Nat.le_of_ble_eq_true rfl, Nat.le_of_ble_eq_true rfl⟩ rfl rfl (Nat.le_of_ble_eq_true rfl) dX7_isGrade_4 ⟨Nat.zero_le _, Nat.zero_le _⟩ (fun r_1 _u H locs h (hw : mw E A s.heap H locs ([] : va_W)) => ?_)
  refine lv_if_eq (tgt := 24) hx hb dX7_isGrade_7 (by decide) (fun c_5 => ?_) (fun c_5 => ?_)
  · replace h := h.1 c_5
    refine lv_iconst (v := 0) hx hb dX7_isGrade_24 (by decide) ?_
    exact x_retz C0 rfl () hw h dX7_isGrade_25
  · replace h := h.2 c_5
    refine lv_iload_n hx hb dX7_isGrade_10 rfl (lv_at hl 1 rfl) ?_
    refine lv_iconst (v := 0) hx hb dX7_isGrade_11 (by decide) ?_
    refine lv_bipush (v := 7) hx hb dX7_isGrade_12 (by decide) ?_
    refine x_cS (As := [.int p1, .int 0, .int 7]) (rest := []) (F := ([] : va_W)) C0 hw (p_non _) hl.1 (c_X7_in l E  h) 3 gX7_isGrade_X7_in rfl ⟨rfl, rfl⟩ (by decide +kernel) ⟨Nat.le_of_ble_eq_true rfl, Nat.le_of_ble_eq_true rfl⟩ rfl rfl (Nat.le_of_ble_eq_true rfl) dX7_isGrade_14 ⟨Nat.zero_le _, Nat.zero_le _⟩ (fun r_2 _u H locs h (hw : mw E A s.heap H locs ([] : va_W)) => ?_)
    refine lv_if_eq (tgt := 24) hx hb dX7_isGrade_17 (by decide) (fun c_3 => ?_) (fun c_3 => ?_)
    · replace h := h.1 c_3
      refine lv_iconst (v := 0) hx hb dX7_isGrade_24 (by decide) ?_
      exact x_retz C0 rfl () hw h dX7_isGrade_25
    · replace h := h.2 c_3
      refine lv_iconst (v := 1) hx hb dX7_isGrade_20 (by decide) ?_
      refine lv_goto (tgt := 25) hx hb dX7_isGrade_21 (by decide) ?_
      exact x_retz C0 rfl () hw h dX7_isGrade_25

abbrev rmX7_grades1 : Room := { frames := 3, cells := 0, slots := 0, locals := 72 }
set_option maxRecDepth 100000 in
set_option maxHeartbeats 4000000 in
theorem c_X7_grades1 (l : Launch) (E : EE) (aR : Nat → Nat) {v : V}  {p1 : Int32} {p2 : Int32} {p3 : Int32} {post : Int32 → V → Prop} (h : s_X7_grades1 v p1 p2 p3 post) : KI l E yX7_grades1 wsX7_grades1 rmX7_grades1 [.ref (aR 0), .int p1, .int p2, .int p3] (cR E aR v) post (fun u => cR E aR u) := by
  unfold s_X7_grades1 at h
  refine KI.go (cc := cX7_grades1) (ret := (some .int)) (maxL := 6) (own := RX7) (by decide) rfl (Nat.le_of_ble_eq_true rfl) rfl (fun p e s m below meth c A ls C0 hw hl => ?_)
  have hx := C0.1
  have hb := C0.2.1
  replace hl : lv_has ls 6 [(0, .ref (aR 0)), (1, .int p1), (2, .int p2), (3, .int p3)] := hl
  refine lv_aload_n hx hb dX7_grades1_0 rfl (lv_at hl 0 rfl) ?_
  refine lv_iload_n hx hb dX7_grades1_1 rfl (lv_at hl 1 rfl) ?_
  refine x_cV (As := [.int p1]) (rest := []) (F := []) C0 hw (p_nil _) hl.1 0 7 rfl rfl (c_X7_isStone l E aR h) 1 gX7_grades1_X7_isStone rfl ⟨rfl, rfl⟩ (by decide +kernel) ⟨Nat.le_of_ble_eq_true rfl, Nat.le_of_ble_eq_true rfl⟩ rfl rfl (Nat.le_of_ble_eq_true rfl) dX7_grades1_2 ⟨Nat.zero_le _, Nat.zero_le _⟩ (fun r_1 v_2 H locs h (hw : mw E A s.heap H locs (cR E aR v_2)) => ?_)
  refine lv_if_eq (tgt := 16) hx hb dX7_grades1_5 (by decide) (fun c_22 => ?_) (fun c_22 => ?_)
  · replace h := h.1 c_22
    refine x_ldc (v := (-10000001)) C0 1 rfl dX7_grades1_16 ?_
    exact x_ret C0 v_2 hw h dX7_grades1_18
  · replace h := h.2 c_22
    refine lv_iload_n hx hb dX7_grades1_8 rfl (lv_at hl 2 rfl) ?_
    refine lv_iload_n hx hb dX7_grades1_9 rfl (lv_at hl 3 rfl) ?_
    refine x_cS (As := [.int p2, .int p3]) (rest := []) (F := (cR E aR v_2)) C0 hw (p_non _) hl.1 (c_X7_isGrade l E  h) 2 gX7_grades1_X7_isGrade rfl ⟨rfl, rfl⟩ (by decide +kernel) ⟨Nat.le_of_ble_eq_true rfl, Nat.le_of_ble_eq_true rfl⟩ rfl rfl (Nat.le_of_ble_eq_true rfl) dX7_grades1_10 ⟨Nat.zero_le _, Nat.zero_le _⟩ (fun r_3 _u H locs h (hw : mw E A s.heap H locs (cR E aR v_2)) => ?_)
    refine lv_if_ne (tgt := 19) hx hb dX7_grades1_13 (by decide) (fun c_20 => ?_) (fun c_20 => ?_)
    · replace h := h.1 c_20
      refine lv_aload_n hx hb dX7_grades1_19 rfl (lv_at hl 0 rfl) ?_
      refine lv_iload_n hx hb dX7_grades1_20 rfl (lv_at hl 1 rfl) ?_
      refine x_cV (As := [.int p1]) (rest := []) (F := []) C0 hw (p_nil _) hl.1 0 7 rfl rfl (c_X7_isSold l E aR h) 1 gX7_grades1_X7_isSold rfl ⟨rfl, rfl⟩ (by decide +kernel) ⟨Nat.le_of_ble_eq_true rfl, Nat.le_of_ble_eq_true rfl⟩ rfl rfl (Nat.le_of_ble_eq_true rfl) dX7_grades1_21 ⟨Nat.zero_le _, Nat.zero_le _⟩ (fun r_4 v_5 H locs h (hw : mw E A s.heap H locs (cR E aR v_5)) => ?_)
      refine lv_if_eq (tgt := 30) hx hb dX7_grades1_24 (by decide) (fun c_19 => ?_) (fun c_19 => ?_)
      · replace h := h.1 c_19
        refine lv_bipush (v := 10) hx hb dX7_grades1_30 (by decide) ?_
        refine lv_aload_n hx hb dX7_grades1_32 rfl (lv_at hl 0 rfl) ?_
        refine lv_iload_n hx hb dX7_grades1_33 rfl (lv_at hl 1 rfl) ?_
        refine lv_iconst (v := 1) hx hb dX7_grades1_34 (by decide) ?_
        refine x_cV (As := [.int p1, .int 1]) (rest := [.int 10]) (F := []) C0 hw (p_nil _) hl.1 0 7 rfl rfl (c_X7_ofStone l E aR h) 2 gX7_grades1_X7_ofStone rfl ⟨rfl, rfl⟩ (by decide +kernel) ⟨Nat.le_of_ble_eq_true rfl, Nat.le_of_ble_eq_true rfl⟩ rfl rfl (Nat.le_of_ble_eq_true rfl) dX7_grades1_35 ⟨Nat.zero_le _, Nat.zero_le _⟩ (fun r_6 v_7 H locs h (hw : mw E A s.heap H locs (cR E aR v_7)) => ?_)
        refine lv_imul hx hb dX7_grades1_38 ?_
        refine lv_aload_n hx hb dX7_grades1_39 rfl (lv_at hl 0 rfl) ?_
        refine lv_iload_n hx hb dX7_grades1_40 rfl (lv_at hl 1 rfl) ?_
        refine lv_iconst (v := 2) hx hb dX7_grades1_41 (by decide) ?_
        refine x_cV (As := [.int p1, .int 2]) (rest := [.int (10 * r_6)]) (F := []) C0 hw (p_nil _) hl.1 0 7 rfl rfl (c_X7_ofStone l E aR h) 2 gX7_grades1_X7_ofStone rfl ⟨rfl, rfl⟩ (by decide +kernel) ⟨Nat.le_of_ble_eq_true rfl, Nat.le_of_ble_eq_true rfl⟩ rfl rfl (Nat.le_of_ble_eq_true rfl) dX7_grades1_42 ⟨Nat.zero_le _, Nat.zero_le _⟩ (fun r_8 v_9 H locs h (hw : mw E A s.heap H locs (cR E aR v_9)) => ?_)
        refine lv_iadd hx hb dX7_grades1_45 ?_
        refine lv_istore (lv' := [(4, .int ((10 * r_6) + r_8)), (0, .ref (aR 0)), (1, .int p1), (2, .int p2), (3, .int p3)]) hx hb dX7_grades1_46 hl (by decide) rfl (fun ls hl => ?_)
        refine lv_aload_n hx hb dX7_grades1_48 rfl (lv_at hl 1 rfl) ?_
        refine lv_iload_n hx hb dX7_grades1_49 rfl (lv_at hl 2 rfl) ?_
        refine lv_iconst (v := 1) hx hb dX7_grades1_50 (by decide) ?_
        refine lv_iload_n hx hb dX7_grades1_51 rfl (lv_at hl 3 rfl) ?_
        refine x_cVv (As := [.int p1, .int 1, .int p2]) (rest := []) (F := []) C0 hw (p_nil _) hl.1 0 7 rfl rfl (c_X7_setStone l E aR h) 3 gX7_grades1_X7_setStone rfl ⟨rfl, rfl⟩ (by decide +kernel) ⟨Nat.le_of_ble_eq_true rfl, Nat.le_of_ble_eq_true rfl⟩ rfl rfl (Nat.le_of_ble_eq_true rfl) dX7_grades1_52 ⟨Nat.zero_le _, Nat.zero_le _⟩ (fun v_10 H locs h (hw : mw E A s.heap H locs (cR E aR v_10)) => ?_)
        refine lv_aload_n hx hb dX7_grades1_55 rfl (lv_at hl 1 rfl) ?_
        refine lv_iload_n hx hb dX7_grades1_56 rfl (lv_at hl 2 rfl) ?_
        refine lv_iconst (v := 2) hx hb dX7_grades1_57 (by decide) ?_
        refine lv_iload_n hx hb dX7_grades1_58 rfl (lv_at hl 4 rfl) ?_
        refine x_cVv (As := [.int p1, .int 2, .int p3]) (rest := []) (F := []) C0 hw (p_nil _) hl.1 0 7 rfl rfl (c_X7_setStone l E aR h) 3 gX7_grades1_X7_setStone rfl ⟨rfl, rfl⟩ (by decide +kernel) ⟨Nat.le_of_ble_eq_true rfl, Nat.le_of_ble_eq_true rfl⟩ rfl rfl (Nat.le_of_ble_eq_true rfl) dX7_grades1_59 ⟨Nat.zero_le _, Nat.zero_le _⟩ (fun v_11 H locs h (hw : mw E A s.heap H locs (cR E aR v_11)) => ?_)
        refine lv_aload_n hx hb dX7_grades1_62 rfl (lv_at hl 1 rfl) ?_
        refine lv_iload_n hx hb dX7_grades1_63 rfl (lv_at hl 2 rfl) ?_
        refine x_cV (As := [.int p1]) (rest := []) (F := []) C0 hw (p_nil _) hl.1 0 7 rfl rfl (c_X7_price l E aR h) 1 gX7_grades1_X7_price rfl ⟨rfl, rfl⟩ (by decide +kernel) ⟨Nat.le_of_ble_eq_true rfl, Nat.le_of_ble_eq_true rfl⟩ rfl rfl (Nat.le_of_ble_eq_true rfl) dX7_grades1_64 ⟨Nat.zero_le _, Nat.zero_le _⟩ (fun r_12 v_13 H locs h (hw : mw E A s.heap H locs (cR E aR v_13)) => ?_)
        refine lv_istore (lv' := [(5, .int r_12), (4, .int ((10 * r_6) + r_8)), (0, .ref (aR 0)), (1, .int p1), (2, .int p2), (3, .int p3)]) hx hb dX7_grades1_67 hl (by decide) rfl (fun ls hl => ?_)
        refine lv_aload_n hx hb dX7_grades1_69 rfl (lv_at hl 2 rfl) ?_
        refine lv_iload_n hx hb dX7_grades1_70 rfl (lv_at hl 3 rfl) ?_
        refine x_cV (As := [.int p1]) (rest := []) (F := []) C0 hw (p_nil _) hl.1 0 7 rfl rfl (c_X7_isOut l E aR h) 1 gX7_grades1_X7_isOut rfl ⟨rfl, rfl⟩ (by decide +kernel) ⟨Nat.le_of_ble_eq_true rfl, Nat.le_of_ble_eq_true rfl⟩ rfl rfl (Nat.le_of_ble_eq_true rfl) dX7_grades1_71 ⟨Nat.zero_le _, Nat.zero_le _⟩ (fun r_14 v_15 H locs h (hw : mw E A s.heap H locs (cR E aR v_15)) => ?_)
        refine lv_if_eq (tgt := 91) hx hb dX7_grades1_74 (by decide) (fun c_18 => ?_) (fun c_18 => ?_)
        · replace h := h.1 c_18
          refine lv_iload hx hb dX7_grades1_91 (lv_at hl 1 rfl) ?_
          exact x_ret C0 v_15 hw h dX7_grades1_93
        · replace h := h.2 c_18
          refine lv_iload hx hb dX7_grades1_77 (lv_at hl 0 rfl) ?_
          refine lv_if_lt (tgt := 91) hx hb dX7_grades1_79 (by decide) (fun c_17 => ?_) (fun c_17 => ?_)
          · replace h := h.1 c_17
            refine lv_iload hx hb dX7_grades1_91 (lv_at hl 1 rfl) ?_
            exact x_ret C0 v_15 hw h dX7_grades1_93
          · replace h := h.2 c_17
            refine lv_aload_n hx hb dX7_grades1_82 rfl (lv_at hl 2 rfl) ?_
            refine lv_iload_n hx hb dX7_grades1_83 rfl (lv_at hl 3 rfl) ?_
            refine lv_bipush (v := 6) hx hb dX7_grades1_84 (by decide) ?_
            refine lv_iload hx hb dX7_grades1_86 (lv_at hl 0 rfl) ?_
            refine x_cVv (As := [.int p1, .int 6, .int r_12]) (rest := []) (F := []) C0 hw (p_nil _) hl.1 0 7 rfl rfl (c_X7_setStone l E aR h) 3 gX7_grades1_X7_setStone rfl ⟨rfl, rfl⟩ (by decide +kernel) ⟨Nat.le_of_ble_eq_true rfl, Nat.le_of_ble_eq_true rfl⟩ rfl rfl (Nat.le_of_ble_eq_true rfl) dX7_grades1_88 ⟨Nat.zero_le _, Nat.zero_le _⟩ (fun v_16 H locs h (hw : mw E A s.heap H locs (cR E aR v_16)) => ?_)
            refine lv_iload hx hb dX7_grades1_91 (lv_at hl 1 rfl) ?_
            exact x_ret C0 v_16 hw h dX7_grades1_93
      · replace h := h.2 c_19
        refine x_ldc (v := (-10000002)) C0 2 rfl dX7_grades1_27 ?_
        exact x_ret C0 v_5 hw h dX7_grades1_29
    · replace h := h.2 c_20
      refine x_ldc (v := (-10000001)) C0 1 rfl dX7_grades1_16 ?_
      exact x_ret C0 v_2 hw h dX7_grades1_18

abbrev rmX7_rates : Room := { frames := 2, cells := 0, slots := 0, locals := 43 }
set_option maxRecDepth 100000 in
set_option maxHeartbeats 4000000 in
theorem c_X7_rates (l : Launch) (E : EE) (aR : Nat → Nat) {v : V}  {p1 : Int32} {p2 : Int32} {p3 : Int32} {p4 : Int32} {post : Int32 → V → Prop} (h : s_X7_rates v p1 p2 p3 p4 post) : KI l E yX7_rates wsX7_rates rmX7_rates [.ref (aR 0), .int p1, .int p2, .int p3, .int p4] (cR E aR v) post (fun u => cR E aR u) := by
  unfold s_X7_rates at h
  refine KI.go (cc := cX7_rates) (ret := (some .int)) (maxL := 7) (own := RX7) (by decide) rfl (Nat.le_of_ble_eq_true rfl) rfl (fun p e s m below meth c A ls C0 hw hl => ?_)
  have hx := C0.1
  have hb := C0.2.1
  have hiX7 : ∀ w ∈ wsX70, w ∈ wsX7_rates := fun w h => List.mem_cons_of_mem _ (List.mem_append_right _ h)
  replace hl : lv_has ls 7 [(0, .ref (aR 0)), (1, .int p1), (2, .int p2), (3, .int p3), (4, .int p4)] := hl
  refine lv_iload_n hx hb dX7_rates_0 rfl (lv_at hl 1 rfl) ?_
  refine lv_iconst (v := 0) hx hb dX7_rates_1 (by decide) ?_
  refine lv_iconst (v := 4) hx hb dX7_rates_2 (by decide) ?_
  refine x_cS (As := [.int p1, .int 0, .int 4]) (rest := []) (F := (cR E aR v)) C0 hw (p_non _) hl.1 (c_X7_in l E  h) 3 gX7_rates_X7_in rfl ⟨rfl, rfl⟩ (by decide +kernel) ⟨Nat.le_of_ble_eq_true rfl, Nat.le_of_ble_eq_true rfl⟩ rfl rfl (Nat.le_of_ble_eq_true rfl) dX7_rates_3 ⟨Nat.zero_le _, Nat.zero_le _⟩ (fun r_1 _u H locs h (hw : mw E A s.heap H locs (cR E aR v)) => ?_)
  refine lv_if_eq (tgt := 29) hx hb dX7_rates_6 (by decide) (fun c_22 => ?_) (fun c_22 => ?_)
  · replace h := h.1 c_22
    refine x_ldc (v := (-10000001)) C0 1 rfl dX7_rates_29 ?_
    exact x_ret C0 v hw h dX7_rates_31
  · replace h := h.2 c_22
    refine lv_iload_n hx hb dX7_rates_9 rfl (lv_at hl 2 rfl) ?_
    refine lv_iload_n hx hb dX7_rates_10 rfl (lv_at hl 3 rfl) ?_
    refine x_cS (As := [.int p2, .int p3]) (rest := []) (F := (cR E aR v)) C0 hw (p_non _) hl.1 (c_X7_isGrade l E  h) 2 gX7_rates_X7_isGrade rfl ⟨rfl, rfl⟩ (by decide +kernel) ⟨Nat.le_of_ble_eq_true rfl, Nat.le_of_ble_eq_true rfl⟩ rfl rfl (Nat.le_of_ble_eq_true rfl) dX7_rates_11 ⟨Nat.zero_le _, Nat.zero_le _⟩ (fun r_2 _u H locs h (hw : mw E A s.heap H locs (cR E aR v)) => ?_)
    refine lv_if_eq (tgt := 29) hx hb dX7_rates_14 (by decide) (fun c_20 => ?_) (fun c_20 => ?_)
    · replace h := h.1 c_20
      refine x_ldc (v := (-10000001)) C0 1 rfl dX7_rates_29 ?_
      exact x_ret C0 v hw h dX7_rates_31
    · replace h := h.2 c_20
      refine lv_iload hx hb dX7_rates_17 (lv_at hl 4 rfl) ?_
      refine lv_iconst (v := 1) hx hb dX7_rates_19 (by decide) ?_
      refine lv_sipush (v := 9999) hx hb dX7_rates_20 (by decide) ?_
      refine x_cS (As := [.int p4, .int 1, .int 9999]) (rest := []) (F := (cR E aR v)) C0 hw (p_non _) hl.1 (c_X7_in l E  h) 3 gX7_rates_X7_in rfl ⟨rfl, rfl⟩ (by decide +kernel) ⟨Nat.le_of_ble_eq_true rfl, Nat.le_of_ble_eq_true rfl⟩ rfl rfl (Nat.le_of_ble_eq_true rfl) dX7_rates_23 ⟨Nat.zero_le _, Nat.zero_le _⟩ (fun r_3 _u H locs h (hw : mw E A s.heap H locs (cR E aR v)) => ?_)
      refine lv_if_ne (tgt := 32) hx hb dX7_rates_26 (by decide) (fun c_18 => ?_) (fun c_18 => ?_)
      · replace h := h.1 c_18
        refine lv_iload_n hx hb dX7_rates_32 rfl (lv_at hl 1 rfl) ?_
        refine lv_iload_n hx hb dX7_rates_33 rfl (lv_at hl 2 rfl) ?_
        refine lv_iload_n hx hb dX7_rates_34 rfl (lv_at hl 3 rfl) ?_
        refine x_cS (As := [.int p1, .int p2, .int p3]) (rest := []) (F := (cR E aR v)) C0 hw (p_non _) hl.1 (c_X7_rateAt l E  h) 3 gX7_rates_X7_rateAt rfl ⟨rfl, rfl⟩ (by decide +kernel) ⟨Nat.le_of_ble_eq_true rfl, Nat.le_of_ble_eq_true rfl⟩ rfl rfl (Nat.le_of_ble_eq_true rfl) dX7_rates_35 ⟨Nat.zero_le _, Nat.zero_le _⟩ (fun r_4 _u H locs h (hw : mw E A s.heap H locs (cR E aR v)) => ?_)
        refine lv_istore (lv' := [(5, .int r_4), (0, .ref (aR 0)), (1, .int p1), (2, .int p2), (3, .int p3), (4, .int p4)]) hx hb dX7_rates_38 hl (by decide) rfl (fun ls hl => ?_)
        refine lv_aload_n hx hb dX7_rates_40 rfl (lv_at hl 1 rfl) ?_
        refine x_get C0 hw 7 hiX7 rfl 0 rfl 0 (by decide) 2 rfl rfl dX7_rates_41 ?_
        refine lv_iload hx hb dX7_rates_44 (lv_at hl 0 rfl) ?_
        obtain ⟨hin, h⟩ := h
        refine x_ald C0 hw 1 rfl hin dX7_rates_46 ?_
        refine lv_istore (lv' := [(6, .int (v 1 (tn r_4))), (5, .int r_4), (0, .ref (aR 0)), (1, .int p1), (2, .int p2), (3, .int p3), (4, .int p4)]) hx hb dX7_rates_47 hl (by decide) rfl (fun ls hl => ?_)
        refine lv_iload hx hb dX7_rates_49 (lv_at hl 0 rfl) ?_
        refine lv_if_ne (tgt := 68) hx hb dX7_rates_51 (by decide) (fun c_16 => ?_) (fun c_16 => ?_)
        · replace h := h.1 c_16
          refine lv_aload_n hx hb dX7_rates_68 rfl (lv_at hl 2 rfl) ?_
          refine x_get C0 hw 7 hiX7 rfl 0 rfl 0 (by decide) 2 rfl rfl dX7_rates_69 ?_
          refine lv_iconst (v := 5) hx hb dX7_rates_72 (by decide) ?_
          refine lv_dup2_11 hx hb dX7_rates_73 rfl rfl ?_
          refine x_ald C0 hw 1 rfl (vp_in_nI (n := 5) (by decide) (by decide)) dX7_rates_74 ?_
          refine lv_iload hx hb dX7_rates_75 (lv_at hl 0 rfl) ?_
          refine lv_if_ne (tgt := 84) hx hb dX7_rates_77 (by decide) (fun c_9 => ?_) (fun c_9 => ?_)
          · replace h := h.1 c_9
            refine lv_iconst (v := 0) hx hb dX7_rates_84 (by decide) ?_
            refine lv_iadd hx hb dX7_rates_85 ?_
            refine x_ast (ws' := (cR E aR ((st v 1 (tn 5) ((v 1 (tn 5)) + 0))))) C0 hw 1 rfl (vp_in_nI (n := 5) (by decide) (by decide)) rfl dX7_rates_86 (fun H locs hw => ?_)
            obtain ⟨v_5, e_v_5⟩ : ∃ z, z = st v 1 (tn 5) ((v 1 (tn 5)) + 0) := ⟨_, rfl⟩
            rw [← e_v_5] at hw
            replace h := h v_5 e_v_5
            refine lv_aload_n hx hb dX7_rates_87 rfl (lv_at hl 2 rfl) ?_
            refine x_get C0 hw 7 hiX7 rfl 0 rfl 0 (by decide) 2 rfl rfl dX7_rates_88 ?_
            refine lv_iload hx hb dX7_rates_91 (lv_at hl 1 rfl) ?_
            refine lv_iload hx hb dX7_rates_93 (lv_at hl 6 rfl) ?_
            obtain ⟨hin, h⟩ := h
            refine x_ast (ws' := (cR E aR ((st v_5 1 (tn r_4) p4)))) C0 hw 1 rfl hin rfl dX7_rates_95 (fun H locs hw => ?_)
            obtain ⟨v_6, e_v_6⟩ : ∃ z, z = st v_5 1 (tn r_4) p4 := ⟨_, rfl⟩
            rw [← e_v_6] at hw
            replace h := h v_6 e_v_6
            refine lv_iload hx hb dX7_rates_96 (lv_at hl 0 rfl) ?_
            exact x_ret C0 v_6 hw h dX7_rates_98
          · replace h := h.2 c_9
            refine lv_iconst (v := 1) hx hb dX7_rates_80 (by decide) ?_
            refine lv_goto (tgt := 85) hx hb dX7_rates_81 (by decide) ?_
            refine lv_iadd hx hb dX7_rates_85 ?_
            refine x_ast (ws' := (cR E aR ((st v 1 (tn 5) ((v 1 (tn 5)) + 1))))) C0 hw 1 rfl (vp_in_nI (n := 5) (by decide) (by decide)) rfl dX7_rates_86 (fun H locs hw => ?_)
            obtain ⟨v_7, e_v_7⟩ : ∃ z, z = st v 1 (tn 5) ((v 1 (tn 5)) + 1) := ⟨_, rfl⟩
            rw [← e_v_7] at hw
            replace h := h v_7 e_v_7
            refine lv_aload_n hx hb dX7_rates_87 rfl (lv_at hl 2 rfl) ?_
            refine x_get C0 hw 7 hiX7 rfl 0 rfl 0 (by decide) 2 rfl rfl dX7_rates_88 ?_
            refine lv_iload hx hb dX7_rates_91 (lv_at hl 1 rfl) ?_
            refine lv_iload hx hb dX7_rates_93 (lv_at hl 6 rfl) ?_
            obtain ⟨hin, h⟩ := h
            refine x_ast (ws' := (cR E aR ((st v_7 1 (tn r_4) p4)))) C0 hw 1 rfl hin rfl dX7_rates_95 (fun H locs hw => ?_)
            obtain ⟨v_8, e_v_8⟩ : ∃ z, z = st v_7 1 (tn r_4) p4 := ⟨_, rfl⟩
            rw [← e_v_8] at hw
            replace h := h v_8 e_v_8
            refine lv_iload hx hb dX7_rates_96 (lv_at hl 0 rfl) ?_
            exact x_ret C0 v_8 hw h dX7_rates_98
        · replace h := h.2 c_16
          refine lv_aload_n hx hb dX7_rates_54 rfl (lv_at hl 2 rfl) ?_
          refine x_get C0 hw 7 hiX7 rfl 0 rfl 0 (by decide) 2 rfl rfl dX7_rates_55 ?_
          refine lv_iconst (v := 5) hx hb dX7_rates_58 (by decide) ?_
          refine x_ald C0 hw 1 rfl (vp_in_nI (n := 5) (by decide) (by decide)) dX7_rates_59 ?_
          refine lv_bipush (v := 24) hx hb dX7_rates_60 (by decide) ?_
          refine lv_icmp_ne (tgt := 68) hx hb dX7_rates_62 (by decide) (fun c_15 => ?_) (fun c_15 => ?_)
          · replace h := h.1 c_15
            refine lv_aload_n hx hb dX7_rates_68 rfl (lv_at hl 2 rfl) ?_
            refine x_get C0 hw 7 hiX7 rfl 0 rfl 0 (by decide) 2 rfl rfl dX7_rates_69 ?_
            refine lv_iconst (v := 5) hx hb dX7_rates_72 (by decide) ?_
            refine lv_dup2_11 hx hb dX7_rates_73 rfl rfl ?_
            refine x_ald C0 hw 1 rfl (vp_in_nI (n := 5) (by decide) (by decide)) dX7_rates_74 ?_
            refine lv_iload hx hb dX7_rates_75 (lv_at hl 0 rfl) ?_
            refine lv_if_ne (tgt := 84) hx hb dX7_rates_77 (by decide) (fun c_14 => ?_) (fun c_14 => ?_)
            · replace h := h.1 c_14
              refine lv_iconst (v := 0) hx hb dX7_rates_84 (by decide) ?_
              refine lv_iadd hx hb dX7_rates_85 ?_
              refine x_ast (ws' := (cR E aR ((st v 1 (tn 5) ((v 1 (tn 5)) + 0))))) C0 hw 1 rfl (vp_in_nI (n := 5) (by decide) (by decide)) rfl dX7_rates_86 (fun H locs hw => ?_)
              obtain ⟨v_10, e_v_10⟩ : ∃ z, z = st v 1 (tn 5) ((v 1 (tn 5)) + 0) := ⟨_, rfl⟩
              rw [← e_v_10] at hw
              replace h := h v_10 e_v_10
              refine lv_aload_n hx hb dX7_rates_87 rfl (lv_at hl 2 rfl) ?_
              refine x_get C0 hw 7 hiX7 rfl 0 rfl 0 (by decide) 2 rfl rfl dX7_rates_88 ?_
              refine lv_iload hx hb dX7_rates_91 (lv_at hl 1 rfl) ?_
              refine lv_iload hx hb dX7_rates_93 (lv_at hl 6 rfl) ?_
              obtain ⟨hin, h⟩ := h
              refine x_ast (ws' := (cR E aR ((st v_10 1 (tn r_4) p4)))) C0 hw 1 rfl hin rfl dX7_rates_95 (fun H locs hw => ?_)
              obtain ⟨v_11, e_v_11⟩ : ∃ z, z = st v_10 1 (tn r_4) p4 := ⟨_, rfl⟩
              rw [← e_v_11] at hw
              replace h := h v_11 e_v_11
              refine lv_iload hx hb dX7_rates_96 (lv_at hl 0 rfl) ?_
              exact x_ret C0 v_11 hw h dX7_rates_98
            · replace h := h.2 c_14
              refine lv_iconst (v := 1) hx hb dX7_rates_80 (by decide) ?_
              refine lv_goto (tgt := 85) hx hb dX7_rates_81 (by decide) ?_
              refine lv_iadd hx hb dX7_rates_85 ?_
              refine x_ast (ws' := (cR E aR ((st v 1 (tn 5) ((v 1 (tn 5)) + 1))))) C0 hw 1 rfl (vp_in_nI (n := 5) (by decide) (by decide)) rfl dX7_rates_86 (fun H locs hw => ?_)
              obtain ⟨v_12, e_v_12⟩ : ∃ z, z = st v 1 (tn 5) ((v 1 (tn 5)) + 1) := ⟨_, rfl⟩
              rw [← e_v_12] at hw
              replace h := h v_12 e_v_12
              refine lv_aload_n hx hb dX7_rates_87 rfl (lv_at hl 2 rfl) ?_
              refine x_get C0 hw 7 hiX7 rfl 0 rfl 0 (by decide) 2 rfl rfl dX7_rates_88 ?_
              refine lv_iload hx hb dX7_rates_91 (lv_at hl 1 rfl) ?_
              refine lv_iload hx hb dX7_rates_93 (lv_at hl 6 rfl) ?_
              obtain ⟨hin, h⟩ := h
              refine x_ast (ws' := (cR E aR ((st v_12 1 (tn r_4) p4)))) C0 hw 1 rfl hin rfl dX7_rates_95 (fun H locs hw => ?_)
              obtain ⟨v_13, e_v_13⟩ : ∃ z, z = st v_12 1 (tn r_4) p4 := ⟨_, rfl⟩
              rw [← e_v_13] at hw
              replace h := h v_13 e_v_13
              refine lv_iload hx hb dX7_rates_96 (lv_at hl 0 rfl) ?_
              exact x_ret C0 v_13 hw h dX7_rates_98
          · replace h := h.2 c_15
            refine x_ldc (v := (-10000003)) C0 3 rfl dX7_rates_65 ?_
            exact x_ret C0 v hw h dX7_rates_67
      · replace h := h.2 c_18
        refine x_ldc (v := (-10000001)) C0 1 rfl dX7_rates_29 ?_
        exact x_ret C0 v hw h dX7_rates_31

abbrev rmX7_day : Room := { frames := 2, cells := 0, slots := 0, locals := 46 }
set_option maxRecDepth 100000 in
set_option maxHeartbeats 4000000 in
theorem w_X7_day_53 {p : Program} {l : Launch} {e : Env} {s : State} {m : MethodId} {below : List Frame} {meth : Method} {c : Code} {E : EE} {A : Nat → Prop} {aR : Nat → Nat} {args : Array Value} (C0 : Cx E p s m args meth c A cX7_day 5 RX7 wsX7_day none) {post : V → Prop}  {f1 : Int32} {f2 : Int32} {k0 : Int32 → V → Prop} : ∀ (n : Nat) (x3 : Int32) (v : V), sl_X7_day_53 post f1 f2 k0 n x3 v → ∀ (H : Heap) (locs : List Loc) (ls : Array Slot), mw E A s.heap H locs (cR E aR v) → lv_has ls 5 [(0, .ref (aR 0)), (1, .int f1), (2, .int f2), (3, .int x3)] → (∀ (x3 : Int32) (v : V) (H : Heap) (locs : List Loc) (ls : Array Slot), k0 x3 v → mw E A s.heap H locs (cR E aR v) → lv_has ls 5 [(0, .ref (aR 0)), (1, .int f1), (2, .int f2), (3, .int x3)] → W p l e rmX7_day s m args below meth c H locs 0 0 (qV E A post (fun u => cR E aR u) below args s) (F0 m 123 ls [])) → W p l e rmX7_day s m args below meth c H locs 0 0 (qV E A post (fun u => cR E aR u) below args s) (F0 m 53 ls []) := by
  have hx := C0.1
  have hb := C0.2.1
  have hiX7 : ∀ w ∈ wsX70, w ∈ wsX7_day := fun w h => List.mem_cons_of_mem _ (List.mem_append_right _ h)
  intro n
  induction n with
  | zero => intro x3 v h; exact False.elim h
  | succ n ih =>
    intro x3 v h H locs ls hw hl hk0
    replace h : sb_X7_day_53 post f1 f2 k0 (sl_X7_day_53 post f1 f2 k0 n) x3 v := h
    unfold sb_X7_day_53 at h
    refine lv_iload_n hx hb dX7_day_53 rfl (lv_at hl 3 rfl) ?_
    refine lv_aload_n hx hb dX7_day_54 rfl (lv_at hl 0 rfl) ?_
    refine x_get C0 hw 7 hiX7 rfl 0 rfl 0 (by decide) 1 rfl rfl dX7_day_55 ?_
    refine lv_iconst (v := 1) hx hb dX7_day_58 (by decide) ?_
    refine x_ald C0 hw 1 rfl (vp_in_nI (n := 1) (by decide) (by decide)) dX7_day_59 ?_
    refine lv_icmp_ge (tgt := 123) hx hb dX7_day_60 (by decide) (fun c_12 => ?_) (fun c_12 => ?_)
    · replace h := h.1 c_12
      exact hk0 _ _ _ _ _ h hw (lv_sub hl [0, 1, 2, 3] rfl)
    · replace h := h.2 c_12
      refine lv_iload_n hx hb dX7_day_63 rfl (lv_at hl 2 rfl) ?_
      refine lv_if_eq (tgt := 123) hx hb dX7_day_64 (by decide) (fun c_11 => ?_) (fun c_11 => ?_)
      · replace h := h.1 c_11
        exact hk0 _ _ _ _ _ h hw (lv_sub hl [0, 1, 2, 3] rfl)
      · replace h := h.2 c_11
        refine lv_aload_n hx hb dX7_day_67 rfl (lv_at hl 0 rfl) ?_
        refine lv_iload_n hx hb dX7_day_68 rfl (lv_at hl 3 rfl) ?_
        refine lv_iconst (v := 5) hx hb dX7_day_69 (by decide) ?_
        refine x_cV (As := [.int x3, .int 5]) (rest := []) (F := []) C0 hw (p_nil _) hl.1 0 7 rfl rfl (c_X7_ofStone l E aR h) 2 gX7_day_X7_ofStone rfl ⟨rfl, rfl⟩ (by decide +kernel) ⟨Nat.le_of_ble_eq_true rfl, Nat.le_of_ble_eq_true rfl⟩ rfl rfl (Nat.le_of_ble_eq_true rfl) dX7_day_70 ⟨Nat.zero_le _, Nat.zero_le _⟩ (fun r_4 v_5 H locs h (hw : mw E A s.heap H locs (cR E aR v_5)) => ?_)
        refine lv_iload_n hx hb dX7_day_73 rfl (lv_at hl 1 rfl) ?_
        refine lv_icmp_ne (tgt := 117) hx hb dX7_day_74 (by decide) (fun c_10 => ?_) (fun c_10 => ?_)
        · replace h := h.1 c_10
          refine lv_iinc (v := (x3 + 1)) (lv' := [(3, .int (x3 + 1)), (0, .ref (aR 0)), (1, .int f1), (2, .int f2)]) hx hb dX7_day_117 hl (k := 3) rfl rfl (by decide) rfl (fun ls hl => ?_)
          refine lv_goto (tgt := 53) hx hb dX7_day_120 (by decide) ?_
          exact ih _ _ h _ _ _ hw (lv_sub hl [1, 2, 3, 0] rfl) hk0
        · replace h := h.2 c_10
          refine lv_aload_n hx hb dX7_day_77 rfl (lv_at hl 0 rfl) ?_
          refine lv_iload_n hx hb dX7_day_78 rfl (lv_at hl 3 rfl) ?_
          refine lv_bipush (v := 6) hx hb dX7_day_79 (by decide) ?_
          refine x_cV (As := [.int x3, .int 6]) (rest := []) (F := []) C0 hw (p_nil _) hl.1 0 7 rfl rfl (c_X7_ofStone l E aR h) 2 gX7_day_X7_ofStone rfl ⟨rfl, rfl⟩ (by decide +kernel) ⟨Nat.le_of_ble_eq_true rfl, Nat.le_of_ble_eq_true rfl⟩ rfl rfl (Nat.le_of_ble_eq_true rfl) dX7_day_81 ⟨Nat.zero_le _, Nat.zero_le _⟩ (fun r_6 v_7 H locs h (hw : mw E A s.heap H locs (cR E aR v_7)) => ?_)
          refine lv_istore (lv' := [(4, .int r_6), (0, .ref (aR 0)), (1, .int f1), (2, .int f2), (3, .int x3)]) hx hb dX7_day_84 hl (by decide) rfl (fun ls hl => ?_)
          refine lv_aload_n hx hb dX7_day_86 rfl (lv_at hl 1 rfl) ?_
          refine lv_iload_n hx hb dX7_day_87 rfl (lv_at hl 4 rfl) ?_
          refine lv_iload hx hb dX7_day_88 (lv_at hl 0 rfl) ?_
          refine lv_iload hx hb dX7_day_90 (lv_at hl 0 rfl) ?_
          refine lv_aload_n hx hb dX7_day_92 rfl (lv_at hl 1 rfl) ?_
          refine x_get C0 hw 7 hiX7 rfl 0 rfl 0 (by decide) 1 rfl rfl dX7_day_93 ?_
          refine lv_bipush (v := 7) hx hb dX7_day_96 (by decide) ?_
          refine x_ald C0 hw 1 rfl (vp_in_nI (n := 7) (by decide) (by decide)) dX7_day_98 ?_
          refine lv_imul hx hb dX7_day_99 ?_
          refine lv_bipush (v := 100) hx hb dX7_day_100 (by decide) ?_
          refine lv_idiv hx hb dX7_day_102 (by decide) ?_
          refine lv_iadd hx hb dX7_day_103 ?_
          refine x_cVv (As := [.int x3, .int (r_6 + ((r_6 * (v_7 1 (tn 7))) / 100))]) (rest := []) (F := []) C0 hw (p_nil _) hl.1 0 7 rfl rfl (c_X7_pays l E aR h) 2 gX7_day_X7_pays rfl ⟨rfl, rfl⟩ (by decide +kernel) ⟨Nat.le_of_ble_eq_true rfl, Nat.le_of_ble_eq_true rfl⟩ rfl rfl (Nat.le_of_ble_eq_true rfl) dX7_day_104 ⟨Nat.zero_le _, Nat.zero_le _⟩ (fun v_8 H locs h (hw : mw E A s.heap H locs (cR E aR v_8)) => ?_)
          refine lv_aload_n hx hb dX7_day_107 rfl (lv_at hl 1 rfl) ?_
          refine x_get C0 hw 7 hiX7 rfl 0 rfl 0 (by decide) 1 rfl rfl dX7_day_108 ?_
          refine lv_iconst (v := 4) hx hb dX7_day_111 (by decide) ?_
          refine lv_dup2_11 hx hb dX7_day_112 rfl rfl ?_
          refine x_ald C0 hw 1 rfl (vp_in_nI (n := 4) (by decide) (by decide)) dX7_day_113 ?_
          refine lv_iconst (v := 1) hx hb dX7_day_114 (by decide) ?_
          refine lv_iadd hx hb dX7_day_115 ?_
          refine x_ast (ws' := (cR E aR ((st v_8 1 (tn 4) ((v_8 1 (tn 4)) + 1))))) C0 hw 1 rfl (vp_in_nI (n := 4) (by decide) (by decide)) rfl dX7_day_116 (fun H locs hw => ?_)
          obtain ⟨v_9, e_v_9⟩ : ∃ z, z = st v_8 1 (tn 4) ((v_8 1 (tn 4)) + 1) := ⟨_, rfl⟩
          rw [← e_v_9] at hw
          replace h := h v_9 e_v_9
          refine lv_iinc (v := (x3 + 1)) (lv' := [(3, .int (x3 + 1)), (4, .int r_6), (0, .ref (aR 0)), (1, .int f1), (2, .int f2)]) hx hb dX7_day_117 hl (k := 4) rfl rfl (by decide) rfl (fun ls hl => ?_)
          refine lv_goto (tgt := 53) hx hb dX7_day_120 (by decide) ?_
          exact ih _ _ h _ _ _ hw (lv_sub hl [2, 3, 4, 0] rfl) hk0
set_option maxRecDepth 100000 in
set_option maxHeartbeats 4000000 in
theorem w_X7_day_12 {p : Program} {l : Launch} {e : Env} {s : State} {m : MethodId} {below : List Frame} {meth : Method} {c : Code} {E : EE} {A : Nat → Prop} {aR : Nat → Nat} {args : Array Value} (C0 : Cx E p s m args meth c A cX7_day 5 RX7 wsX7_day none) {post : V → Prop}   {k0 : Int32 → V → Prop} : ∀ (n : Nat) (x1 : Int32) (v : V), sl_X7_day_12 post k0 n x1 v → ∀ (H : Heap) (locs : List Loc) (ls : Array Slot), mw E A s.heap H locs (cR E aR v) → lv_has ls 5 [(0, .ref (aR 0)), (1, .int x1)] → (∀ (x1 : Int32) (v : V) (H : Heap) (locs : List Loc) (ls : Array Slot), k0 x1 v → mw E A s.heap H locs (cR E aR v) → lv_has ls 5 [(0, .ref (aR 0)), (1, .int x1)] → W p l e rmX7_day s m args below meth c H locs 0 0 (qV E A post (fun u => cR E aR u) below args s) (F0 m 129 ls [])) → W p l e rmX7_day s m args below meth c H locs 0 0 (qV E A post (fun u => cR E aR u) below args s) (F0 m 12 ls []) := by
  have hx := C0.1
  have hb := C0.2.1
  have hiX7 : ∀ w ∈ wsX70, w ∈ wsX7_day := fun w h => List.mem_cons_of_mem _ (List.mem_append_right _ h)
  intro n
  induction n with
  | zero => intro x1 v h; exact False.elim h
  | succ n ih =>
    intro x1 v h H locs ls hw hl hk0
    replace h : sb_X7_day_12 post k0 (sl_X7_day_12 post k0 n) x1 v := h
    unfold sb_X7_day_12 at h
    refine lv_iload_n hx hb dX7_day_12 rfl (lv_at hl 1 rfl) ?_
    refine lv_aload_n hx hb dX7_day_13 rfl (lv_at hl 0 rfl) ?_
    refine x_get C0 hw 7 hiX7 rfl 0 rfl 0 (by decide) 1 rfl rfl dX7_day_14 ?_
    refine lv_iconst (v := 2) hx hb dX7_day_17 (by decide) ?_
    refine x_ald C0 hw 1 rfl (vp_in_nI (n := 2) (by decide) (by decide)) dX7_day_18 ?_
    refine lv_icmp_ge (tgt := 129) hx hb dX7_day_19 (by decide) (fun c_20 => ?_) (fun c_20 => ?_)
    · replace h := h.1 c_20
      exact hk0 _ _ _ _ _ h hw (lv_sub hl [0, 1] rfl)
    · replace h := h.2 c_20
      refine lv_aload_n hx hb dX7_day_22 rfl (lv_at hl 0 rfl) ?_
      refine x_get C0 hw 7 hiX7 rfl 0 rfl 0 (by decide) 1 rfl rfl dX7_day_23 ?_
      refine lv_iconst (v := 3) hx hb dX7_day_26 (by decide) ?_
      refine x_ald C0 hw 1 rfl (vp_in_nI (n := 3) (by decide) (by decide)) dX7_day_27 ?_
      refine lv_aload_n hx hb dX7_day_28 rfl (lv_at hl 0 rfl) ?_
      refine lv_iload_n hx hb dX7_day_29 rfl (lv_at hl 1 rfl) ?_
      refine lv_iconst (v := 2) hx hb dX7_day_30 (by decide) ?_
      refine x_cV (As := [.int x1, .int 2]) (rest := [.int (v 1 (tn 3))]) (F := []) C0 hw (p_nil _) hl.1 0 7 rfl rfl (c_X7_ofMemo l E aR h) 2 gX7_day_X7_ofMemo rfl ⟨rfl, rfl⟩ (by decide +kernel) ⟨Nat.le_of_ble_eq_true rfl, Nat.le_of_ble_eq_true rfl⟩ rfl rfl (Nat.le_of_ble_eq_true rfl) dX7_day_31 ⟨Nat.zero_le _, Nat.zero_le _⟩ (fun r_2 v_3 H locs h (hw : mw E A s.heap H locs (cR E aR v_3)) => ?_)
      refine lv_isub hx hb dX7_day_34 ?_
      refine lv_aload_n hx hb dX7_day_35 rfl (lv_at hl 0 rfl) ?_
      refine x_get C0 hw 7 hiX7 rfl 0 rfl 0 (by decide) 1 rfl rfl dX7_day_36 ?_
      refine lv_bipush (v := 6) hx hb dX7_day_39 (by decide) ?_
      refine x_ald C0 hw 1 rfl (vp_in_nI (n := 6) (by decide) (by decide)) dX7_day_41 ?_
      refine lv_icmp_le (tgt := 49) hx hb dX7_day_42 (by decide) (fun c_19 => ?_) (fun c_19 => ?_)
      · replace h := h.1 c_19
        refine lv_iconst (v := 0) hx hb dX7_day_49 (by decide) ?_
        refine lv_istore_n (lv' := [(2, .int 0), (0, .ref (aR 0)), (1, .int x1)]) hx hb dX7_day_50 rfl hl (by decide) rfl (fun ls hl => ?_)
        refine lv_iconst (v := 0) hx hb dX7_day_51 (by decide) ?_
        refine lv_istore_n (lv' := [(3, .int 0), (2, .int 0), (0, .ref (aR 0)), (1, .int x1)]) hx hb dX7_day_52 rfl hl (by decide) rfl (fun ls hl => ?_)
        obtain ⟨n_13, h⟩ := h
        refine w_X7_day_53 C0 _ _ _ h _ _ _ hw (lv_sub hl [2, 3, 1, 0] rfl) ?_
        · intro x3_14 v_15 H locs ls h hw hl
          refine lv_iinc (v := (x1 + 1)) (lv' := [(1, .int (x1 + 1)), (0, .ref (aR 0)), (2, .int 0), (3, .int x3_14)]) hx hb dX7_day_123 hl (k := 1) rfl rfl (by decide) rfl (fun ls hl => ?_)
          refine lv_goto (tgt := 12) hx hb dX7_day_126 (by decide) ?_
          exact ih _ _ h _ _ _ hw (lv_sub hl [1, 0] rfl) hk0
      · replace h := h.2 c_19
        refine lv_iconst (v := 1) hx hb dX7_day_45 (by decide) ?_
        refine lv_goto (tgt := 50) hx hb dX7_day_46 (by decide) ?_
        refine lv_istore_n (lv' := [(2, .int 1), (0, .ref (aR 0)), (1, .int x1)]) hx hb dX7_day_50 rfl hl (by decide) rfl (fun ls hl => ?_)
        refine lv_iconst (v := 0) hx hb dX7_day_51 (by decide) ?_
        refine lv_istore_n (lv' := [(3, .int 0), (2, .int 1), (0, .ref (aR 0)), (1, .int x1)]) hx hb dX7_day_52 rfl hl (by decide) rfl (fun ls hl => ?_)
        obtain ⟨n_16, h⟩ := h
        refine w_X7_day_53 C0 _ _ _ h _ _ _ hw (lv_sub hl [2, 3, 1, 0] rfl) ?_
        · intro x3_17 v_18 H locs ls h hw hl
          refine lv_iinc (v := (x1 + 1)) (lv' := [(1, .int (x1 + 1)), (0, .ref (aR 0)), (2, .int 1), (3, .int x3_17)]) hx hb dX7_day_123 hl (k := 1) rfl rfl (by decide) rfl (fun ls hl => ?_)
          refine lv_goto (tgt := 12) hx hb dX7_day_126 (by decide) ?_
          exact ih _ _ h _ _ _ hw (lv_sub hl [1, 0] rfl) hk0
set_option maxRecDepth 100000 in
set_option maxHeartbeats 4000000 in
theorem c_X7_day (l : Launch) (E : EE) (aR : Nat → Nat) {v : V}   {post : V → Prop} (h : s_X7_day v post) : KV l E yX7_day wsX7_day rmX7_day [.ref (aR 0)] (cR E aR v) post (fun u => cR E aR u) := by
  unfold s_X7_day at h
  refine KV.go (cc := cX7_day) (ret := none) (maxL := 5) (own := RX7) (by decide) rfl (Nat.le_of_ble_eq_true rfl) rfl (fun p e s m below meth c A ls C0 hw hl => ?_)
  have hx := C0.1
  have hb := C0.2.1
  have hiX7 : ∀ w ∈ wsX70, w ∈ wsX7_day := fun w h => List.mem_cons_of_mem _ (List.mem_append_right _ h)
  replace hl : lv_has ls 5 [(0, .ref (aR 0))] := hl
  refine lv_aload_n hx hb dX7_day_0 rfl (lv_at hl 0 rfl) ?_
  refine x_get C0 hw 7 hiX7 rfl 0 rfl 0 (by decide) 1 rfl rfl dX7_day_1 ?_
  refine lv_iconst (v := 3) hx hb dX7_day_4 (by decide) ?_
  refine lv_dup2_11 hx hb dX7_day_5 rfl rfl ?_
  refine x_ald C0 hw 1 rfl (vp_in_nI (n := 3) (by decide) (by decide)) dX7_day_6 ?_
  refine lv_iconst (v := 1) hx hb dX7_day_7 (by decide) ?_
  refine lv_iadd hx hb dX7_day_8 ?_
  refine x_ast (ws' := (cR E aR ((st v 1 (tn 3) ((v 1 (tn 3)) + 1))))) C0 hw 1 rfl (vp_in_nI (n := 3) (by decide) (by decide)) rfl dX7_day_9 (fun H locs hw => ?_)
  obtain ⟨v_1, e_v_1⟩ : ∃ z, z = st v 1 (tn 3) ((v 1 (tn 3)) + 1) := ⟨_, rfl⟩
  rw [← e_v_1] at hw
  replace h := h v_1 e_v_1
  refine lv_iconst (v := 0) hx hb dX7_day_10 (by decide) ?_
  refine lv_istore_n (lv' := [(1, .int 0), (0, .ref (aR 0))]) hx hb dX7_day_11 rfl hl (by decide) rfl (fun ls hl => ?_)
  obtain ⟨n_21, h⟩ := h
  refine w_X7_day_12 C0 _ _ _ h _ _ _ hw (lv_sub hl [1, 0] rfl) ?_
  · intro x1_22 v_23 H locs ls h hw hl
    exact x_retv C0 v_23 hw h dX7_day_129

abbrev rmX7_goes : Room := { frames := 3, cells := 0, slots := 0, locals := 70 }
set_option maxRecDepth 100000 in
set_option maxHeartbeats 4000000 in
theorem w_X7_goes_39 {p : Program} {l : Launch} {e : Env} {s : State} {m : MethodId} {below : List Frame} {meth : Method} {c : Code} {E : EE} {A : Nat → Prop} {aR : Nat → Nat} {args : Array Value} (C0 : Cx E p s m args meth c A cX7_goes 4 RX7 wsX7_goes (some .int)) {post : Int32 → V → Prop}  {f1 : Int32} {f2 : Int32} {k0 : Int32 → V → Prop} : ∀ (n : Nat) (x3 : Int32) (v : V), sl_X7_goes_39 post f1 f2 k0 n x3 v → ∀ (H : Heap) (locs : List Loc) (ls : Array Slot), mw E A s.heap H locs (cR E aR v) → lv_has ls 4 [(0, .ref (aR 0)), (1, .int f1), (2, .int f2), (3, .int x3)] → (∀ (x3 : Int32) (v : V) (H : Heap) (locs : List Loc) (ls : Array Slot), k0 x3 v → mw E A s.heap H locs (cR E aR v) → lv_has ls 4 [(0, .ref (aR 0)), (1, .int f1), (2, .int f2), (3, .int x3)] → W p l e rmX7_goes s m args below meth c H locs 0 0 (qI E A post (fun u => cR E aR u) below args s) (F0 m 54 ls [])) → W p l e rmX7_goes s m args below meth c H locs 0 0 (qI E A post (fun u => cR E aR u) below args s) (F0 m 39 ls []) := by
  have hx := C0.1
  have hb := C0.2.1
  have hiX7 : ∀ w ∈ wsX70, w ∈ wsX7_goes := fun w h => List.mem_cons_of_mem _ (List.mem_append_right _ h)
  intro n
  induction n with
  | zero => intro x3 v h; exact False.elim h
  | succ n ih =>
    intro x3 v h H locs ls hw hl hk0
    replace h : sb_X7_goes_39 post f1 f2 k0 (sl_X7_goes_39 post f1 f2 k0 n) x3 v := h
    unfold sb_X7_goes_39 at h
    refine lv_iload_n hx hb dX7_goes_39 rfl (lv_at hl 3 rfl) ?_
    refine lv_iload_n hx hb dX7_goes_40 rfl (lv_at hl 1 rfl) ?_
    refine lv_icmp_ge (tgt := 54) hx hb dX7_goes_41 (by decide) (fun c_3 => ?_) (fun c_3 => ?_)
    · replace h := h.1 c_3
      exact hk0 _ _ _ _ _ h hw (lv_sub hl [0, 1, 2, 3] rfl)
    · replace h := h.2 c_3
      refine lv_aload_n hx hb dX7_goes_44 rfl (lv_at hl 0 rfl) ?_
      refine x_cVv (As := []) (rest := []) (F := []) C0 hw (p_nil _) hl.1 0 7 rfl rfl (c_X7_day l E aR h) 0 gX7_goes_X7_day rfl ⟨rfl, rfl⟩ (by decide +kernel) ⟨Nat.le_of_ble_eq_true rfl, Nat.le_of_ble_eq_true rfl⟩ rfl rfl (Nat.le_of_ble_eq_true rfl) dX7_goes_45 ⟨Nat.zero_le _, Nat.zero_le _⟩ (fun v_2 H locs h (hw : mw E A s.heap H locs (cR E aR v_2)) => ?_)
      refine lv_iinc (v := (x3 + 1)) (lv' := [(3, .int (x3 + 1)), (0, .ref (aR 0)), (1, .int f1), (2, .int f2)]) hx hb dX7_goes_48 hl (k := 3) rfl rfl (by decide) rfl (fun ls hl => ?_)
      refine lv_goto (tgt := 39) hx hb dX7_goes_51 (by decide) ?_
      exact ih _ _ h _ _ _ hw (lv_sub hl [1, 2, 3, 0] rfl) hk0
set_option maxRecDepth 100000 in
set_option maxHeartbeats 4000000 in
theorem c_X7_goes (l : Launch) (E : EE) (aR : Nat → Nat) {v : V}  {p1 : Int32} {post : Int32 → V → Prop} (h : s_X7_goes v p1 post) : KI l E yX7_goes wsX7_goes rmX7_goes [.ref (aR 0), .int p1] (cR E aR v) post (fun u => cR E aR u) := by
  unfold s_X7_goes at h
  refine KI.go (cc := cX7_goes) (ret := (some .int)) (maxL := 4) (own := RX7) (by decide) rfl (Nat.le_of_ble_eq_true rfl) rfl (fun p e s m below meth c A ls C0 hw hl => ?_)
  have hx := C0.1
  have hb := C0.2.1
  have hiX7 : ∀ w ∈ wsX70, w ∈ wsX7_goes := fun w h => List.mem_cons_of_mem _ (List.mem_append_right _ h)
  replace hl : lv_has ls 4 [(0, .ref (aR 0)), (1, .int p1)] := hl
  refine lv_iload_n hx hb dX7_goes_0 rfl (lv_at hl 1 rfl) ?_
  refine lv_iconst (v := 1) hx hb dX7_goes_1 (by decide) ?_
  refine lv_bipush (v := 99) hx hb dX7_goes_2 (by decide) ?_
  refine x_cS (As := [.int p1, .int 1, .int 99]) (rest := []) (F := (cR E aR v)) C0 hw (p_non _) hl.1 (c_X7_in l E  h) 3 gX7_goes_X7_in rfl ⟨rfl, rfl⟩ (by decide +kernel) ⟨Nat.le_of_ble_eq_true rfl, Nat.le_of_ble_eq_true rfl⟩ rfl rfl (Nat.le_of_ble_eq_true rfl) dX7_goes_4 ⟨Nat.zero_le _, Nat.zero_le _⟩ (fun r_1 _u H locs h (hw : mw E A s.heap H locs (cR E aR v)) => ?_)
  refine lv_if_ne (tgt := 13) hx hb dX7_goes_7 (by decide) (fun c_8 => ?_) (fun c_8 => ?_)
  · replace h := h.1 c_8
    refine lv_aload_n hx hb dX7_goes_13 rfl (lv_at hl 0 rfl) ?_
    refine x_get C0 hw 7 hiX7 rfl 0 rfl 0 (by decide) 2 rfl rfl dX7_goes_14 ?_
    refine lv_iconst (v := 3) hx hb dX7_goes_17 (by decide) ?_
    refine x_ald C0 hw 1 rfl (vp_in_nI (n := 3) (by decide) (by decide)) dX7_goes_18 ?_
    refine lv_iload_n hx hb dX7_goes_19 rfl (lv_at hl 1 rfl) ?_
    refine lv_iadd hx hb dX7_goes_20 ?_
    refine lv_sipush (v := 2000) hx hb dX7_goes_21 (by decide) ?_
    refine lv_icmp_le (tgt := 30) hx hb dX7_goes_24 (by decide) (fun c_7 => ?_) (fun c_7 => ?_)
    · replace h := h.1 c_7
      refine lv_aload_n hx hb dX7_goes_30 rfl (lv_at hl 0 rfl) ?_
      refine x_get C0 hw 7 hiX7 rfl 0 rfl 0 (by decide) 2 rfl rfl dX7_goes_31 ?_
      refine lv_iconst (v := 4) hx hb dX7_goes_34 (by decide) ?_
      refine x_ald C0 hw 1 rfl (vp_in_nI (n := 4) (by decide) (by decide)) dX7_goes_35 ?_
      refine lv_istore_n (lv' := [(2, .int (v 1 (tn 4))), (0, .ref (aR 0)), (1, .int p1)]) hx hb dX7_goes_36 rfl hl (by decide) rfl (fun ls hl => ?_)
      refine lv_iconst (v := 0) hx hb dX7_goes_37 (by decide) ?_
      refine lv_istore_n (lv' := [(3, .int 0), (2, .int (v 1 (tn 4))), (0, .ref (aR 0)), (1, .int p1)]) hx hb dX7_goes_38 rfl hl (by decide) rfl (fun ls hl => ?_)
      obtain ⟨n_4, h⟩ := h
      refine w_X7_goes_39 C0 _ _ _ h _ _ _ hw (lv_sub hl [2, 3, 1, 0] rfl) ?_
      · intro x3_5 v_6 H locs ls h hw hl
        refine lv_aload_n hx hb dX7_goes_54 rfl (lv_at hl 0 rfl) ?_
        refine x_get C0 hw 7 hiX7 rfl 0 rfl 0 (by decide) 2 rfl rfl dX7_goes_55 ?_
        refine lv_iconst (v := 4) hx hb dX7_goes_58 (by decide) ?_
        refine x_ald C0 hw 1 rfl (vp_in_nI (n := 4) (by decide) (by decide)) dX7_goes_59 ?_
        refine lv_iload_n hx hb dX7_goes_60 rfl (lv_at hl 2 rfl) ?_
        refine lv_isub hx hb dX7_goes_61 ?_
        exact x_ret C0 v_6 hw h dX7_goes_62
    · replace h := h.2 c_7
      refine x_ldc (v := (-10000003)) C0 3 rfl dX7_goes_27 ?_
      exact x_ret C0 v hw h dX7_goes_29
  · replace h := h.2 c_8
    refine x_ldc (v := (-10000001)) C0 1 rfl dX7_goes_10 ?_
    exact x_ret C0 v hw h dX7_goes_12

abbrev rmX7_dealer : Room := { frames := 2, cells := 0, slots := 0, locals := 43 }
set_option maxRecDepth 100000 in
set_option maxHeartbeats 4000000 in
theorem c_X7_dealer (l : Launch) (E : EE) (aR : Nat → Nat) {v : V}   {post : Int32 → V → Prop} (h : s_X7_dealer v post) : KI l E yX7_dealer wsX7_dealer rmX7_dealer [.ref (aR 0)] (cR E aR v) post (fun u => cR E aR u) := by
  unfold s_X7_dealer at h
  refine KI.go (cc := cX7_dealer) (ret := (some .int)) (maxL := 1) (own := RX7) (by decide) rfl (Nat.le_of_ble_eq_true rfl) rfl (fun p e s m below meth c A ls C0 hw hl => ?_)
  have hx := C0.1
  have hb := C0.2.1
  have hiX7 : ∀ w ∈ wsX70, w ∈ wsX7_dealer := fun w h => List.mem_cons_of_mem _ (List.mem_append_right _ h)
  replace hl : lv_has ls 1 [(0, .ref (aR 0))] := hl
  refine lv_aload_n hx hb dX7_dealer_0 rfl (lv_at hl 0 rfl) ?_
  refine x_cVv (As := []) (rest := []) (F := []) C0 hw (p_nil _) hl.1 0 7 rfl rfl (c_X7_begins l E aR h) 0 gX7_dealer_X7_begins rfl ⟨rfl, rfl⟩ (by decide +kernel) ⟨Nat.le_of_ble_eq_true rfl, Nat.le_of_ble_eq_true rfl⟩ rfl rfl (Nat.le_of_ble_eq_true rfl) dX7_dealer_1 ⟨Nat.zero_le _, Nat.zero_le _⟩ (fun v_1 H locs h (hw : mw E A s.heap H locs (cR E aR v_1)) => ?_)
  refine lv_aload_n hx hb dX7_dealer_4 rfl (lv_at hl 0 rfl) ?_
  refine x_get C0 hw 7 hiX7 rfl 0 rfl 0 (by decide) 1 rfl rfl dX7_dealer_5 ?_
  refine lv_iconst (v := 0) hx hb dX7_dealer_8 (by decide) ?_
  refine x_ald C0 hw 1 rfl (vp_in_nI (n := 0) (by decide) (by decide)) dX7_dealer_9 ?_
  refine lv_bipush (v := 6) hx hb dX7_dealer_10 (by decide) ?_
  refine lv_icmp_ne (tgt := 18) hx hb dX7_dealer_12 (by decide) (fun c_5 => ?_) (fun c_5 => ?_)
  · replace h := h.1 c_5
    refine lv_aload_n hx hb dX7_dealer_18 rfl (lv_at hl 0 rfl) ?_
    refine x_get C0 hw 7 hiX7 rfl 0 rfl 0 (by decide) 1 rfl rfl dX7_dealer_19 ?_
    refine lv_iconst (v := 0) hx hb dX7_dealer_22 (by decide) ?_
    refine lv_dup2_11 hx hb dX7_dealer_23 rfl rfl ?_
    refine x_ald C0 hw 1 rfl (vp_in_nI (n := 0) (by decide) (by decide)) dX7_dealer_24 ?_
    refine lv_iconst (v := 1) hx hb dX7_dealer_25 (by decide) ?_
    refine lv_iadd hx hb dX7_dealer_26 ?_
    refine x_ast (ws' := (cR E aR ((st v_1 1 (tn 0) ((v_1 1 (tn 0)) + 1))))) C0 hw 1 rfl (vp_in_nI (n := 0) (by decide) (by decide)) rfl dX7_dealer_27 (fun H locs hw => ?_)
    obtain ⟨v_2, e_v_2⟩ : ∃ z, z = st v_1 1 (tn 0) ((v_1 1 (tn 0)) + 1) := ⟨_, rfl⟩
    rw [← e_v_2] at hw
    replace h := h v_2 e_v_2
    refine lv_aload_n hx hb dX7_dealer_28 rfl (lv_at hl 0 rfl) ?_
    refine lv_aload_n hx hb dX7_dealer_29 rfl (lv_at hl 0 rfl) ?_
    refine x_get C0 hw 7 hiX7 rfl 0 rfl 0 (by decide) 1 rfl rfl dX7_dealer_30 ?_
    refine lv_iconst (v := 0) hx hb dX7_dealer_33 (by decide) ?_
    refine x_ald C0 hw 1 rfl (vp_in_nI (n := 0) (by decide) (by decide)) dX7_dealer_34 ?_
    refine lv_iconst (v := 1) hx hb dX7_dealer_35 (by decide) ?_
    refine lv_isub hx hb dX7_dealer_36 ?_
    refine x_cV (As := [.int ((v_2 1 (tn 0)) - 1)]) (rest := []) (F := []) C0 hw (p_nil _) hl.1 0 7 rfl rfl (c_X7_acted l E aR h) 1 gX7_dealer_X7_acted rfl ⟨rfl, rfl⟩ (by decide +kernel) ⟨Nat.le_of_ble_eq_true rfl, Nat.le_of_ble_eq_true rfl⟩ rfl rfl (Nat.le_of_ble_eq_true rfl) dX7_dealer_37 ⟨Nat.zero_le _, Nat.zero_le _⟩ (fun r_3 v_4 H locs h (hw : mw E A s.heap H locs (cR E aR v_4)) => ?_)
    exact x_ret C0 v_4 hw h dX7_dealer_40
  · replace h := h.2 c_5
    refine x_ldc (v := (-10000003)) C0 2 rfl dX7_dealer_15 ?_
    exact x_ret C0 v_1 hw h dX7_dealer_17
