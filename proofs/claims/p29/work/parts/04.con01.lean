abbrev rmX5_sieveOf : Room := { frames := 0, cells := 0, slots := 0, locals := 0 }
set_option maxRecDepth 100000 in
set_option maxHeartbeats 4000000 in
theorem c_X5_sieveOf (l : Launch) (E : EE) (a : Nat → Nat) {v : V}  {p1 : Int32} {post : Int32 → V → Prop} (h : s_X5_sieveOf v p1 post) : KI l E yX5_sieveOf wsX5_sieveOf rmX5_sieveOf [.ref (a 6), .int p1] (cM E a v) post (fun u => cM E a u) := by
  unfold s_X5_sieveOf at h
  refine KI.go (cc := cX5_sieveOf) (ret := (some .int)) (maxL := 3) (own := RX5) (by decide) rfl (Nat.le_of_ble_eq_true rfl) rfl (fun p e s m below meth c A ls C0 hw hl => ?_)
  have hx := C0.1
  have hb := C0.2.1
  have hiX5 : ∀ w ∈ wsX50, w ∈ wsX5_sieveOf := fun w h => List.mem_cons_of_mem _ (List.mem_append_right _ h)
  replace hl : lv_has ls 3 [(0, .ref (a 6)), (1, .int p1)] := hl
  refine lv_aload_n hx hb dX5_sieveOf_0 rfl (lv_at hl 0 rfl) ?_
  refine x_get C0 hw 5 hiX5 rfl 6 rfl 1 (by decide) 1 rfl rfl dX5_sieveOf_1 ?_
  refine lv_iload_n hx hb dX5_sieveOf_4 rfl (lv_at hl 1 rfl) ?_
  obtain ⟨hin, h⟩ := h
  refine x_ald C0 hw 7 rfl hin dX5_sieveOf_5 ?_
  refine lv_istore_n (lv' := [(2, .int (v 7 (tn p1))), (0, .ref (a 6)), (1, .int p1)]) hx hb dX5_sieveOf_6 rfl hl (by decide) rfl (fun ls hl => ?_)
  refine lv_iload_n hx hb dX5_sieveOf_7 rfl (lv_at hl 0 rfl) ?_
  refine lv_bipush (v := 10) hx hb dX5_sieveOf_8 (by decide) ?_
  refine lv_icmp_ge (tgt := 15) hx hb dX5_sieveOf_10 (by decide) (fun c_4 => ?_) (fun c_4 => ?_)
  · replace h := h.1 c_4
    refine lv_iload_n hx hb dX5_sieveOf_15 rfl (lv_at hl 0 rfl) ?_
    refine lv_bipush (v := 25) hx hb dX5_sieveOf_16 (by decide) ?_
    refine lv_icmp_ge (tgt := 23) hx hb dX5_sieveOf_18 (by decide) (fun c_3 => ?_) (fun c_3 => ?_)
    · replace h := h.1 c_3
      refine lv_iload_n hx hb dX5_sieveOf_23 rfl (lv_at hl 0 rfl) ?_
      refine lv_bipush (v := 50) hx hb dX5_sieveOf_24 (by decide) ?_
      refine lv_icmp_ge (tgt := 31) hx hb dX5_sieveOf_26 (by decide) (fun c_2 => ?_) (fun c_2 => ?_)
      · replace h := h.1 c_2
        refine lv_iload_n hx hb dX5_sieveOf_31 rfl (lv_at hl 0 rfl) ?_
        refine lv_bipush (v := 100) hx hb dX5_sieveOf_32 (by decide) ?_
        refine lv_icmp_ge (tgt := 41) hx hb dX5_sieveOf_34 (by decide) (fun c_1 => ?_) (fun c_1 => ?_)
        · replace h := h.1 c_1
          refine lv_iconst (v := 4) hx hb dX5_sieveOf_41 (by decide) ?_
          exact x_ret C0 v hw h dX5_sieveOf_42
        · replace h := h.2 c_1
          refine lv_iconst (v := 3) hx hb dX5_sieveOf_37 (by decide) ?_
          refine lv_goto (tgt := 42) hx hb dX5_sieveOf_38 (by decide) ?_
          exact x_ret C0 v hw h dX5_sieveOf_42
      · replace h := h.2 c_2
        refine lv_iconst (v := 2) hx hb dX5_sieveOf_29 (by decide) ?_
        exact x_ret C0 v hw h dX5_sieveOf_30
    · replace h := h.2 c_3
      refine lv_iconst (v := 1) hx hb dX5_sieveOf_21 (by decide) ?_
      exact x_ret C0 v hw h dX5_sieveOf_22
  · replace h := h.2 c_4
    refine lv_iconst (v := 0) hx hb dX5_sieveOf_13 (by decide) ?_
    exact x_ret C0 v hw h dX5_sieveOf_14

abbrev rmX1_priceOf : Room := { frames := 1, cells := 0, slots := 0, locals := 25 }
set_option maxRecDepth 100000 in
set_option maxHeartbeats 4000000 in
theorem c_X1_priceOf (l : Launch) (E : EE) (a : Nat → Nat) {v : V}  {p1 : Int32} {post : Int32 → V → Prop} (h : s_X1_priceOf v p1 post) : KI l E yX1_priceOf wsX1_priceOf rmX1_priceOf [.ref (a 0), .int p1] (cM E a v) post (fun u => cM E a u) := by
  unfold s_X1_priceOf at h
  refine KI.go (cc := cX1_priceOf) (ret := (some .int)) (maxL := 3) (own := RX1) (by decide) rfl (Nat.le_of_ble_eq_true rfl) rfl (fun p e s m below meth c A ls C0 hw hl => ?_)
  have hx := C0.1
  have hb := C0.2.1
  have hiX1 : ∀ w ∈ wsX10, w ∈ wsX1_priceOf := fun w h => List.mem_cons_of_mem _ (List.mem_append_left _ (List.mem_append_left _ (List.mem_append_right _ h)))
  have hiX5 : ∀ w ∈ wsX50, w ∈ wsX1_priceOf := fun w h => List.mem_cons_of_mem _ (List.mem_append_left _ (List.mem_append_right _ h))
  replace hl : lv_has ls 3 [(0, .ref (a 0)), (1, .int p1)] := hl
  refine lv_aload_n hx hb dX1_priceOf_0 rfl (lv_at hl 0 rfl) ?_
  refine x_get C0 hw 1 hiX1 rfl 0 rfl 0 (by decide) 1 rfl rfl dX1_priceOf_1 ?_
  refine lv_aload_n hx hb dX1_priceOf_4 rfl (lv_at hl 0 rfl) ?_
  refine x_get C0 hw 1 hiX1 rfl 0 rfl 1 (by decide) 2 rfl rfl dX1_priceOf_5 ?_
  refine lv_iload_n hx hb dX1_priceOf_8 rfl (lv_at hl 1 rfl) ?_
  refine x_cV (As := [.int p1]) (rest := [.ref (a 1)]) (F := []) C0 hw (p_nil _) hl.1 6 5 rfl rfl (c_X5_sieveOf l E a h) 1 gX1_priceOf_X5_sieveOf rfl ⟨rfl, rfl⟩ (by decide +kernel) ⟨Nat.le_of_ble_eq_true rfl, Nat.le_of_ble_eq_true rfl⟩ rfl rfl (Nat.le_of_ble_eq_true rfl) dX1_priceOf_9 ⟨Nat.zero_le _, Nat.zero_le _⟩ (fun r_1 v_2 H locs h (hw : mw E A s.heap H locs (cM E a v_2)) => ?_)
  refine lv_aload_n hx hb dX1_priceOf_12 rfl (lv_at hl 0 rfl) ?_
  refine x_get C0 hw 1 hiX1 rfl 0 rfl 1 (by decide) 2 rfl rfl dX1_priceOf_13 ?_
  refine x_getN C0 hw 5 hiX5 rfl 6 rfl 2 (by decide) 5 rfl rfl dX1_priceOf_16 ?_
  refine lv_iload_n hx hb dX1_priceOf_19 rfl (lv_at hl 1 rfl) ?_
  obtain ⟨hin, h⟩ := h
  refine x_ald C0 hw 8 rfl hin dX1_priceOf_20 ?_
  refine lv_aload_n hx hb dX1_priceOf_21 rfl (lv_at hl 0 rfl) ?_
  refine x_get C0 hw 1 hiX1 rfl 0 rfl 1 (by decide) 2 rfl rfl dX1_priceOf_22 ?_
  refine x_getN C0 hw 5 hiX5 rfl 6 rfl 3 (by decide) 6 rfl rfl dX1_priceOf_25 ?_
  refine lv_iload_n hx hb dX1_priceOf_28 rfl (lv_at hl 1 rfl) ?_
  obtain ⟨hin, h⟩ := h
  refine x_ald C0 hw 9 rfl hin dX1_priceOf_29 ?_
  refine x_cV (As := [.int r_1, .int (v_2 8 (tn p1)), .int (v_2 9 (tn p1))]) (rest := []) (F := []) C0 hw (p_nil _) hl.1 1 3 rfl rfl (c_X3_rateFor l E a h) 3 gX1_priceOf_X3_rateFor rfl ⟨rfl, rfl⟩ (by decide +kernel) ⟨Nat.le_of_ble_eq_true rfl, Nat.le_of_ble_eq_true rfl⟩ rfl rfl (Nat.le_of_ble_eq_true rfl) dX1_priceOf_30 ⟨Nat.zero_le _, Nat.zero_le _⟩ (fun r_3 v_4 H locs h (hw : mw E A s.heap H locs (cM E a v_4)) => ?_)
  refine lv_istore_n (lv' := [(2, .int r_3), (0, .ref (a 0)), (1, .int p1)]) hx hb dX1_priceOf_33 rfl hl (by decide) rfl (fun ls hl => ?_)
  refine lv_iload_n hx hb dX1_priceOf_34 rfl (lv_at hl 0 rfl) ?_
  refine lv_if_ne (tgt := 42) hx hb dX1_priceOf_35 (by decide) (fun c_5 => ?_) (fun c_5 => ?_)
  · replace h := h.1 c_5
    refine lv_aload_n hx hb dX1_priceOf_42 rfl (lv_at hl 1 rfl) ?_
    refine x_get C0 hw 1 hiX1 rfl 0 rfl 1 (by decide) 2 rfl rfl dX1_priceOf_43 ?_
    refine x_getN C0 hw 5 hiX5 rfl 6 rfl 1 (by decide) 4 rfl rfl dX1_priceOf_46 ?_
    refine lv_iload_n hx hb dX1_priceOf_49 rfl (lv_at hl 2 rfl) ?_
    obtain ⟨hin, h⟩ := h
    refine x_ald C0 hw 7 rfl hin dX1_priceOf_50 ?_
    refine lv_iload_n hx hb dX1_priceOf_51 rfl (lv_at hl 0 rfl) ?_
    refine lv_imul hx hb dX1_priceOf_52 ?_
    refine lv_bipush (v := 100) hx hb dX1_priceOf_53 (by decide) ?_
    refine lv_idiv hx hb dX1_priceOf_55 (by decide) ?_
    exact x_ret C0 v_4 hw h dX1_priceOf_56
  · replace h := h.2 c_5
    refine lv_iconst (v := (-1)) hx hb dX1_priceOf_38 (by decide) ?_
    refine lv_goto (tgt := 56) hx hb dX1_priceOf_39 (by decide) ?_
    exact x_ret C0 v_4 hw h dX1_priceOf_56

abbrev rmX1_canLend : Room := { frames := 2, cells := 0, slots := 0, locals := 47 }
set_option maxRecDepth 100000 in
set_option maxHeartbeats 4000000 in
theorem w_X1_canLend_2 {p : Program} {l : Launch} {e : Env} {s : State} {m : MethodId} {below : List Frame} {meth : Method} {c : Code} {E : EE} {A : Nat → Prop} {a : Nat → Nat} {args : Array Value} (C0 : Cx E p s m args meth c A cX1_canLend 4 RX1 wsX1_canLend (some .boolean)) {post : Int32 → V → Prop}  {f1 : Int32} {f2 : Int32} {k0 : Int32 → V → Prop} : ∀ (n : Nat) (x3 : Int32) (v : V), sl_X1_canLend_2 post f1 f2 k0 n x3 v → ∀ (H : Heap) (locs : List Loc) (ls : Array Slot), mw E A s.heap H locs (cM E a v) → lv_has ls 4 [(0, .ref (a 0)), (1, .int f1), (2, .int f2), (3, .int x3)] → (∀ (x3 : Int32) (v : V) (H : Heap) (locs : List Loc) (ls : Array Slot), k0 x3 v → mw E A s.heap H locs (cM E a v) → lv_has ls 4 [(0, .ref (a 0)), (1, .int f1), (2, .int f2), (3, .int x3)] → W p l e rmX1_canLend s m args below meth c H locs 0 0 (qI E A post (fun u => cM E a u) below args s) (F0 m 65 ls [])) → W p l e rmX1_canLend s m args below meth c H locs 0 0 (qI E A post (fun u => cM E a u) below args s) (F0 m 2 ls []) := by
  have hx := C0.1
  have hb := C0.2.1
  have hiX1 : ∀ w ∈ wsX10, w ∈ wsX1_canLend := fun w h => List.mem_cons_of_mem _ (List.mem_append_left _ (List.mem_append_left _ (List.mem_append_right _ h)))
  have hiX5 : ∀ w ∈ wsX50, w ∈ wsX1_canLend := fun w h => List.mem_cons_of_mem _ (List.mem_append_left _ (List.mem_append_right _ h))
  intro n
  induction n with
  | zero => intro x3 v h; exact False.elim h
  | succ n ih =>
    intro x3 v h H locs ls hw hl hk0
    replace h : sb_X1_canLend_2 post f1 f2 k0 (sl_X1_canLend_2 post f1 f2 k0 n) x3 v := h
    unfold sb_X1_canLend_2 at h
    refine lv_iload_n hx hb dX1_canLend_2 rfl (lv_at hl 3 rfl) ?_
    refine lv_aload_n hx hb dX1_canLend_3 rfl (lv_at hl 0 rfl) ?_
    refine x_get C0 hw 1 hiX1 rfl 0 rfl 1 (by decide) 1 rfl rfl dX1_canLend_4 ?_
    refine x_getN C0 hw 5 hiX5 rfl 6 rfl 0 (by decide) 3 rfl rfl dX1_canLend_7 ?_
    refine lv_icmp_ge (tgt := 65) hx hb dX1_canLend_10 (by decide) (fun c_7 => ?_) (fun c_7 => ?_)
    · replace h := h.1 c_7
      exact hk0 _ _ _ _ _ h hw (lv_sub hl [0, 1, 2, 3] rfl)
    · replace h := h.2 c_7
      refine lv_iload_n hx hb dX1_canLend_13 rfl (lv_at hl 2 rfl) ?_
      refine lv_iload_n hx hb dX1_canLend_14 rfl (lv_at hl 3 rfl) ?_
      refine lv_ishr hx hb dX1_canLend_15 ?_
      refine lv_iconst (v := 1) hx hb dX1_canLend_16 (by decide) ?_
      refine lv_iand hx hb dX1_canLend_17 ?_
      refine lv_iconst (v := 1) hx hb dX1_canLend_18 (by decide) ?_
      refine lv_icmp_ne (tgt := 59) hx hb dX1_canLend_19 (by decide) (fun c_6 => ?_) (fun c_6 => ?_)
      · replace h := h.1 c_6
        refine lv_iinc (v := (x3 + 1)) (lv' := [(3, .int (x3 + 1)), (0, .ref (a 0)), (1, .int f1), (2, .int f2)]) hx hb dX1_canLend_59 hl (k := 3) rfl rfl (by decide) rfl (fun ls hl => ?_)
        refine lv_goto (tgt := 2) hx hb dX1_canLend_62 (by decide) ?_
        exact ih _ _ h _ _ _ hw (lv_sub hl [1, 2, 3, 0] rfl) hk0
      · replace h := h.2 c_6
        refine lv_aload_n hx hb dX1_canLend_22 rfl (lv_at hl 0 rfl) ?_
        refine x_get C0 hw 1 hiX1 rfl 0 rfl 1 (by decide) 1 rfl rfl dX1_canLend_23 ?_
        refine x_getN C0 hw 5 hiX5 rfl 6 rfl 4 (by decide) 7 rfl rfl dX1_canLend_26 ?_
        refine lv_iload_n hx hb dX1_canLend_29 rfl (lv_at hl 3 rfl) ?_
        obtain ⟨hin, h⟩ := h
        refine x_ald C0 hw 10 rfl hin dX1_canLend_30 ?_
        refine lv_iload_n hx hb dX1_canLend_31 rfl (lv_at hl 1 rfl) ?_
        refine lv_icmp_ne (tgt := 57) hx hb dX1_canLend_32 (by decide) (fun c_5 => ?_) (fun c_5 => ?_)
        · replace h := h.1 c_5
          refine lv_iconst (v := 0) hx hb dX1_canLend_57 (by decide) ?_
          exact x_retz C0 rfl v hw h dX1_canLend_58
        · replace h := h.2 c_5
          refine lv_aload_n hx hb dX1_canLend_35 rfl (lv_at hl 0 rfl) ?_
          refine x_get C0 hw 1 hiX1 rfl 0 rfl 1 (by decide) 1 rfl rfl dX1_canLend_36 ?_
          refine x_getN C0 hw 5 hiX5 rfl 6 rfl 5 (by decide) 8 rfl rfl dX1_canLend_39 ?_
          refine lv_iload_n hx hb dX1_canLend_42 rfl (lv_at hl 3 rfl) ?_
          obtain ⟨hin, h⟩ := h
          refine x_ald C0 hw 11 rfl hin dX1_canLend_43 ?_
          refine lv_iload_n hx hb dX1_canLend_44 rfl (lv_at hl 1 rfl) ?_
          refine lv_icmp_ne (tgt := 57) hx hb dX1_canLend_45 (by decide) (fun c_4 => ?_) (fun c_4 => ?_)
          · replace h := h.1 c_4
            refine lv_iconst (v := 0) hx hb dX1_canLend_57 (by decide) ?_
            exact x_retz C0 rfl v hw h dX1_canLend_58
          · replace h := h.2 c_4
            refine lv_aload_n hx hb dX1_canLend_48 rfl (lv_at hl 0 rfl) ?_
            refine lv_iload_n hx hb dX1_canLend_49 rfl (lv_at hl 3 rfl) ?_
            refine x_cV (As := [.int x3]) (rest := []) (F := []) C0 hw (p_nil _) hl.1 0 1 rfl rfl (c_X1_priceOf l E a h) 1 gX1_canLend_X1_priceOf rfl ⟨rfl, rfl⟩ (by decide +kernel) ⟨Nat.le_of_ble_eq_true rfl, Nat.le_of_ble_eq_true rfl⟩ rfl rfl (Nat.le_of_ble_eq_true rfl) dX1_canLend_50 ⟨Nat.zero_le _, Nat.zero_le _⟩ (fun r_1 v_2 H locs h (hw : mw E A s.heap H locs (cM E a v_2)) => ?_)
            refine lv_iconst (v := (-1)) hx hb dX1_canLend_53 (by decide) ?_
            refine lv_icmp_ne (tgt := 59) hx hb dX1_canLend_54 (by decide) (fun c_3 => ?_) (fun c_3 => ?_)
            · replace h := h.1 c_3
              refine lv_iinc (v := (x3 + 1)) (lv' := [(3, .int (x3 + 1)), (0, .ref (a 0)), (1, .int f1), (2, .int f2)]) hx hb dX1_canLend_59 hl (k := 3) rfl rfl (by decide) rfl (fun ls hl => ?_)
              refine lv_goto (tgt := 2) hx hb dX1_canLend_62 (by decide) ?_
              exact ih _ _ h _ _ _ hw (lv_sub hl [1, 2, 3, 0] rfl) hk0
            · replace h := h.2 c_3
              refine lv_iconst (v := 0) hx hb dX1_canLend_57 (by decide) ?_
              exact x_retz C0 rfl v_2 hw h dX1_canLend_58
set_option maxRecDepth 100000 in
set_option maxHeartbeats 4000000 in
theorem c_X1_canLend (l : Launch) (E : EE) (a : Nat → Nat) {v : V}  {p1 : Int32} {p2 : Int32} {post : Int32 → V → Prop} (h : s_X1_canLend v p1 p2 post) : KI l E yX1_canLend wsX1_canLend rmX1_canLend [.ref (a 0), .int p1, .int p2] (cM E a v) post (fun u => cM E a u) := by
  unfold s_X1_canLend at h
  refine KI.go (cc := cX1_canLend) (ret := (some .boolean)) (maxL := 4) (own := RX1) (by decide) rfl (Nat.le_of_ble_eq_true rfl) rfl (fun p e s m below meth c A ls C0 hw hl => ?_)
  have hx := C0.1
  have hb := C0.2.1
  have hiX1 : ∀ w ∈ wsX10, w ∈ wsX1_canLend := fun w h => List.mem_cons_of_mem _ (List.mem_append_left _ (List.mem_append_left _ (List.mem_append_right _ h)))
  have hiX5 : ∀ w ∈ wsX50, w ∈ wsX1_canLend := fun w h => List.mem_cons_of_mem _ (List.mem_append_left _ (List.mem_append_right _ h))
  replace hl : lv_has ls 4 [(0, .ref (a 0)), (1, .int p1), (2, .int p2)] := hl
  refine lv_iconst (v := 0) hx hb dX1_canLend_0 (by decide) ?_
  refine lv_istore_n (lv' := [(3, .int 0), (0, .ref (a 0)), (1, .int p1), (2, .int p2)]) hx hb dX1_canLend_1 rfl hl (by decide) rfl (fun ls hl => ?_)
  obtain ⟨n_8, h⟩ := h
  refine w_X1_canLend_2 C0 _ _ _ h _ _ _ hw (lv_sub hl [1, 2, 3, 0] rfl) ?_
  · intro x3_9 v_10 H locs ls h hw hl
    refine lv_iconst (v := 1) hx hb dX1_canLend_65 (by decide) ?_
    exact x_retz C0 rfl v_10 hw h dX1_canLend_66

abbrev rmX2_add : Room := { frames := 0, cells := 0, slots := 0, locals := 0 }
set_option maxRecDepth 100000 in
set_option maxHeartbeats 4000000 in
theorem c_X2_add (l : Launch) (E : EE) (a : Nat → Nat) {v : V}  {p1 : Int32} {p2 : Int32} {p3 : Int32} {p4 : Int32} {post : Int32 → V → Prop} (h : s_X2_add v p1 p2 p3 p4 post) : KI l E yX2_add wsX2_add rmX2_add [.ref (a 16), .int p1, .int p2, .int p3, .int p4] (cM E a v) post (fun u => cM E a u) := by
  unfold s_X2_add at h
  refine KI.go (cc := cX2_add) (ret := (some .int)) (maxL := 6) (own := RX2) (by decide) rfl (Nat.le_of_ble_eq_true rfl) rfl (fun p e s m below meth c A ls C0 hw hl => ?_)
  have hx := C0.1
  have hb := C0.2.1
  have hiX2 : ∀ w ∈ wsX20, w ∈ wsX2_add := fun w h => List.mem_cons_of_mem _ (List.mem_append_right _ h)
  replace hl : lv_has ls 6 [(0, .ref (a 16)), (1, .int p1), (2, .int p2), (3, .int p3), (4, .int p4)] := hl
  refine lv_aload_n hx hb dX2_add_0 rfl (lv_at hl 0 rfl) ?_
  refine x_get C0 hw 2 hiX2 rfl 16 rfl 0 (by decide) 1 rfl rfl dX2_add_1 ?_
  refine lv_if_lt (tgt := 16) hx hb dX2_add_4 (by decide) (fun c_8 => ?_) (fun c_8 => ?_)
  · replace h := h.1 c_8
    refine lv_iconst (v := (-1)) hx hb dX2_add_16 (by decide) ?_
    exact x_ret C0 v hw h dX2_add_17
  · replace h := h.2 c_8
    refine lv_aload_n hx hb dX2_add_7 rfl (lv_at hl 0 rfl) ?_
    refine x_get C0 hw 2 hiX2 rfl 16 rfl 0 (by decide) 1 rfl rfl dX2_add_8 ?_
    refine lv_bipush (v := 10) hx hb dX2_add_11 (by decide) ?_
    refine lv_icmp_lt (tgt := 18) hx hb dX2_add_13 (by decide) (fun c_7 => ?_) (fun c_7 => ?_)
    · replace h := h.1 c_7
      refine lv_aload_n hx hb dX2_add_18 rfl (lv_at hl 0 rfl) ?_
      refine x_get C0 hw 2 hiX2 rfl 16 rfl 0 (by decide) 1 rfl rfl dX2_add_19 ?_
      refine lv_istore (lv' := [(5, .int (v 16 0)), (0, .ref (a 16)), (1, .int p1), (2, .int p2), (3, .int p3), (4, .int p4)]) hx hb dX2_add_22 hl (by decide) rfl (fun ls hl => ?_)
      refine lv_aload_n hx hb dX2_add_24 rfl (lv_at hl 1 rfl) ?_
      refine x_get C0 hw 2 hiX2 rfl 16 rfl 1 (by decide) 2 rfl rfl dX2_add_25 ?_
      refine lv_iload hx hb dX2_add_28 (lv_at hl 0 rfl) ?_
      refine lv_iload_n hx hb dX2_add_30 rfl (lv_at hl 2 rfl) ?_
      obtain ⟨hin, h⟩ := h
      refine x_ast (ws' := (cM E a ((st v 17 (tn (v 16 0)) p1)))) C0 hw 17 rfl hin rfl dX2_add_31 (fun H locs hw => ?_)
      obtain ⟨v_1, e_v_1⟩ : ∃ z, z = st v 17 (tn (v 16 0)) p1 := ⟨_, rfl⟩
      rw [← e_v_1] at hw
      replace h := h v_1 e_v_1
      refine lv_aload_n hx hb dX2_add_32 rfl (lv_at hl 1 rfl) ?_
      refine x_get C0 hw 2 hiX2 rfl 16 rfl 2 (by decide) 3 rfl rfl dX2_add_33 ?_
      refine lv_iload hx hb dX2_add_36 (lv_at hl 0 rfl) ?_
      refine lv_iload_n hx hb dX2_add_38 rfl (lv_at hl 3 rfl) ?_
      obtain ⟨hin, h⟩ := h
      refine x_ast (ws' := (cM E a ((st v_1 18 (tn (v 16 0)) p2)))) C0 hw 18 rfl hin rfl dX2_add_39 (fun H locs hw => ?_)
      obtain ⟨v_2, e_v_2⟩ : ∃ z, z = st v_1 18 (tn (v 16 0)) p2 := ⟨_, rfl⟩
      rw [← e_v_2] at hw
      replace h := h v_2 e_v_2
      refine lv_aload_n hx hb dX2_add_40 rfl (lv_at hl 1 rfl) ?_
      refine x_get C0 hw 2 hiX2 rfl 16 rfl 3 (by decide) 4 rfl rfl dX2_add_41 ?_
      refine lv_iload hx hb dX2_add_44 (lv_at hl 0 rfl) ?_
      refine lv_iload_n hx hb dX2_add_46 rfl (lv_at hl 4 rfl) ?_
      obtain ⟨hin, h⟩ := h
      refine x_ast (ws' := (cM E a ((st v_2 19 (tn (v 16 0)) p3)))) C0 hw 19 rfl hin rfl dX2_add_47 (fun H locs hw => ?_)
      obtain ⟨v_3, e_v_3⟩ : ∃ z, z = st v_2 19 (tn (v 16 0)) p3 := ⟨_, rfl⟩
      rw [← e_v_3] at hw
      replace h := h v_3 e_v_3
      refine lv_aload_n hx hb dX2_add_48 rfl (lv_at hl 1 rfl) ?_
      refine x_get C0 hw 2 hiX2 rfl 16 rfl 4 (by decide) 5 rfl rfl dX2_add_49 ?_
      refine lv_iload hx hb dX2_add_52 (lv_at hl 0 rfl) ?_
      refine lv_iload hx hb dX2_add_54 (lv_at hl 5 rfl) ?_
      obtain ⟨hin, h⟩ := h
      refine x_ast (ws' := (cM E a ((st v_3 20 (tn (v 16 0)) p4)))) C0 hw 20 rfl hin rfl dX2_add_56 (fun H locs hw => ?_)
      obtain ⟨v_4, e_v_4⟩ : ∃ z, z = st v_3 20 (tn (v 16 0)) p4 := ⟨_, rfl⟩
      rw [← e_v_4] at hw
      replace h := h v_4 e_v_4
      refine lv_aload_n hx hb dX2_add_57 rfl (lv_at hl 1 rfl) ?_
      refine x_get C0 hw 2 hiX2 rfl 16 rfl 5 (by decide) 6 rfl rfl dX2_add_58 ?_
      refine lv_iload hx hb dX2_add_61 (lv_at hl 0 rfl) ?_
      refine lv_iconst (v := 0) hx hb dX2_add_63 (by decide) ?_
      obtain ⟨hin, h⟩ := h
      refine x_ast (ws' := (cM E a ((st v_4 21 (tn (v 16 0)) 0)))) C0 hw 21 rfl hin rfl dX2_add_64 (fun H locs hw => ?_)
      obtain ⟨v_5, e_v_5⟩ : ∃ z, z = st v_4 21 (tn (v 16 0)) 0 := ⟨_, rfl⟩
      rw [← e_v_5] at hw
      replace h := h v_5 e_v_5
      refine lv_aload_n hx hb dX2_add_65 rfl (lv_at hl 1 rfl) ?_
      refine lv_dup hx hb dX2_add_66 rfl ?_
      refine x_get C0 hw 2 hiX2 rfl 16 rfl 0 (by decide) 1 rfl rfl dX2_add_67 ?_
      refine lv_iconst (v := 1) hx hb dX2_add_70 (by decide) ?_
      refine lv_iadd hx hb dX2_add_71 ?_
      refine x_put (ws' := (cM E a ((sc v_5 16 0 ((v_5 16 0) + 1))))) C0 hw 2 hiX2 rfl tyX2 tyX2_ok nmX2 16 rfl 0 (by decide) 1 rfl rfl rfl rfl (Nat.le_of_ble_eq_true rfl) rfl dX2_add_72 (fun H locs hw => ?_)
      obtain ⟨v_6, e_v_6⟩ : ∃ z, z = sc v_5 16 0 ((v_5 16 0) + 1) := ⟨_, rfl⟩
      rw [← e_v_6] at hw
      replace h := h v_6 e_v_6
      refine lv_iload hx hb dX2_add_75 (lv_at hl 0 rfl) ?_
      exact x_ret C0 v_6 hw h dX2_add_77
    · replace h := h.2 c_7
      refine lv_iconst (v := (-1)) hx hb dX2_add_16 (by decide) ?_
      exact x_ret C0 v hw h dX2_add_17

abbrev rmX1_lendStones : Room := { frames := 3, cells := 0, slots := 0, locals := 70 }
set_option maxRecDepth 100000 in
set_option maxHeartbeats 4000000 in
theorem w_X1_lendStones_97 {p : Program} {l : Launch} {e : Env} {s : State} {m : MethodId} {below : List Frame} {meth : Method} {c : Code} {E : EE} {A : Nat → Prop} {a : Nat → Nat} {args : Array Value} (C0 : Cx E p s m args meth c A cX1_lendStones 7 RX1 wsX1_lendStones (some .int)) {post : Int32 → V → Prop}  {f2 : Int32} {f4 : Int32} {f5 : Int32} {k0 : Int32 → V → Prop} : ∀ (n : Nat) (x6 : Int32) (v : V), sl_X1_lendStones_97 post f2 f4 f5 k0 n x6 v → ∀ (H : Heap) (locs : List Loc) (ls : Array Slot), mw E A s.heap H locs (cM E a v) → lv_has ls 7 [(0, .ref (a 0)), (2, .int f2), (4, .int f4), (5, .int f5), (6, .int x6)] → (∀ (x6 : Int32) (v : V) (H : Heap) (locs : List Loc) (ls : Array Slot), k0 x6 v → mw E A s.heap H locs (cM E a v) → lv_has ls 7 [(0, .ref (a 0)), (2, .int f2), (4, .int f4), (5, .int f5), (6, .int x6)] → W p l e rmX1_lendStones s m args below meth c H locs 0 0 (qI E A post (fun u => cM E a u) below args s) (F0 m 165 ls [])) → W p l e rmX1_lendStones s m args below meth c H locs 0 0 (qI E A post (fun u => cM E a u) below args s) (F0 m 97 ls []) := by
  have hx := C0.1
  have hb := C0.2.1
  have hiX1 : ∀ w ∈ wsX10, w ∈ wsX1_lendStones := fun w h => List.mem_cons_of_mem _ (List.mem_append_left _ (List.mem_append_left _ (List.mem_append_left _ (List.mem_append_right _ h))))
  have hiX5 : ∀ w ∈ wsX50, w ∈ wsX1_lendStones := fun w h => List.mem_cons_of_mem _ (List.mem_append_left _ (List.mem_append_left _ (List.mem_append_right _ h)))
  intro n
  induction n with
  | zero => intro x6 v h; exact False.elim h
  | succ n ih =>
    intro x6 v h H locs ls hw hl hk0
    replace h : sb_X1_lendStones_97 post f2 f4 f5 k0 (sl_X1_lendStones_97 post f2 f4 f5 k0 n) x6 v := h
    unfold sb_X1_lendStones_97 at h
    refine lv_iload hx hb dX1_lendStones_97 (lv_at hl 4 rfl) ?_
    refine lv_aload_n hx hb dX1_lendStones_99 rfl (lv_at hl 0 rfl) ?_
    refine x_get C0 hw 1 hiX1 rfl 0 rfl 1 (by decide) 1 rfl rfl dX1_lendStones_100 ?_
    refine x_getN C0 hw 5 hiX5 rfl 6 rfl 0 (by decide) 3 rfl rfl dX1_lendStones_103 ?_
    refine lv_icmp_ge (tgt := 165) hx hb dX1_lendStones_106 (by decide) (fun c_15 => ?_) (fun c_15 => ?_)
    · replace h := h.1 c_15
      exact hk0 _ _ _ _ _ h hw (lv_sub hl [0, 1, 2, 3, 4] rfl)
    · replace h := h.2 c_15
      refine lv_iload hx hb dX1_lendStones_109 (lv_at hl 2 rfl) ?_
      refine lv_iload hx hb dX1_lendStones_111 (lv_at hl 4 rfl) ?_
      refine lv_ishr hx hb dX1_lendStones_113 ?_
      refine lv_iconst (v := 1) hx hb dX1_lendStones_114 (by decide) ?_
      refine lv_iand hx hb dX1_lendStones_115 ?_
      refine lv_iconst (v := 1) hx hb dX1_lendStones_116 (by decide) ?_
      refine lv_icmp_ne (tgt := 159) hx hb dX1_lendStones_117 (by decide) (fun c_14 => ?_) (fun c_14 => ?_)
      · replace h := h.1 c_14
        refine lv_iinc (v := (x6 + 1)) (lv' := [(6, .int (x6 + 1)), (0, .ref (a 0)), (2, .int f2), (4, .int f4), (5, .int f5)]) hx hb dX1_lendStones_159 hl (k := 4) rfl rfl (by decide) rfl (fun ls hl => ?_)
        refine lv_goto (tgt := 97) hx hb dX1_lendStones_162 (by decide) ?_
        exact ih _ _ h _ _ _ hw (lv_sub hl [1, 2, 3, 4, 0] rfl) hk0
      · replace h := h.2 c_14
        refine lv_aload_n hx hb dX1_lendStones_120 rfl (lv_at hl 0 rfl) ?_
        refine x_get C0 hw 1 hiX1 rfl 0 rfl 1 (by decide) 1 rfl rfl dX1_lendStones_121 ?_
        refine x_getN C0 hw 5 hiX5 rfl 6 rfl 5 (by decide) 8 rfl rfl dX1_lendStones_124 ?_
        refine lv_iload hx hb dX1_lendStones_127 (lv_at hl 4 rfl) ?_
        refine lv_iload_n hx hb dX1_lendStones_129 rfl (lv_at hl 1 rfl) ?_
        obtain ⟨hin, h⟩ := h
        refine x_ast (ws' := (cM E a ((st v 11 (tn x6) f2)))) C0 hw 11 rfl hin rfl dX1_lendStones_130 (fun H locs hw => ?_)
        obtain ⟨v_9, e_v_9⟩ : ∃ z, z = st v 11 (tn x6) f2 := ⟨_, rfl⟩
        rw [← e_v_9] at hw
        replace h := h v_9 e_v_9
        refine lv_aload_n hx hb dX1_lendStones_131 rfl (lv_at hl 0 rfl) ?_
        refine x_get C0 hw 1 hiX1 rfl 0 rfl 1 (by decide) 1 rfl rfl dX1_lendStones_132 ?_
        refine x_getN C0 hw 5 hiX5 rfl 6 rfl 6 (by decide) 9 rfl rfl dX1_lendStones_135 ?_
        refine lv_iload hx hb dX1_lendStones_138 (lv_at hl 4 rfl) ?_
        refine lv_iload hx hb dX1_lendStones_140 (lv_at hl 3 rfl) ?_
        obtain ⟨hin, h⟩ := h
        refine x_ast (ws' := (cM E a ((st v_9 12 (tn x6) f5)))) C0 hw 12 rfl hin rfl dX1_lendStones_142 (fun H locs hw => ?_)
        obtain ⟨v_10, e_v_10⟩ : ∃ z, z = st v_9 12 (tn x6) f5 := ⟨_, rfl⟩
        rw [← e_v_10] at hw
        replace h := h v_10 e_v_10
        refine lv_aload_n hx hb dX1_lendStones_143 rfl (lv_at hl 0 rfl) ?_
        refine x_get C0 hw 1 hiX1 rfl 0 rfl 1 (by decide) 1 rfl rfl dX1_lendStones_144 ?_
        refine x_getN C0 hw 5 hiX5 rfl 6 rfl 7 (by decide) 10 rfl rfl dX1_lendStones_147 ?_
        refine lv_iload hx hb dX1_lendStones_150 (lv_at hl 4 rfl) ?_
        refine lv_aload_n hx hb dX1_lendStones_152 rfl (lv_at hl 0 rfl) ?_
        refine lv_iload hx hb dX1_lendStones_153 (lv_at hl 4 rfl) ?_
        refine x_cV (As := [.int x6]) (rest := [.int x6, .ref (a 13)]) (F := []) C0 hw (p_nil _) hl.1 0 1 rfl rfl (c_X1_priceOf l E a h) 1 gX1_lendStones_X1_priceOf rfl ⟨rfl, rfl⟩ (by decide +kernel) ⟨Nat.le_of_ble_eq_true rfl, Nat.le_of_ble_eq_true rfl⟩ rfl rfl (Nat.le_of_ble_eq_true rfl) dX1_lendStones_155 ⟨Nat.zero_le _, Nat.zero_le _⟩ (fun r_11 v_12 H locs h (hw : mw E A s.heap H locs (cM E a v_12)) => ?_)
        obtain ⟨hin, h⟩ := h
        refine x_ast (ws' := (cM E a ((st v_12 13 (tn x6) r_11)))) C0 hw 13 rfl hin rfl dX1_lendStones_158 (fun H locs hw => ?_)
        obtain ⟨v_13, e_v_13⟩ : ∃ z, z = st v_12 13 (tn x6) r_11 := ⟨_, rfl⟩
        rw [← e_v_13] at hw
        replace h := h v_13 e_v_13
        refine lv_iinc (v := (x6 + 1)) (lv' := [(6, .int (x6 + 1)), (0, .ref (a 0)), (2, .int f2), (4, .int f4), (5, .int f5)]) hx hb dX1_lendStones_159 hl (k := 4) rfl rfl (by decide) rfl (fun ls hl => ?_)
        refine lv_goto (tgt := 97) hx hb dX1_lendStones_162 (by decide) ?_
        exact ih _ _ h _ _ _ hw (lv_sub hl [1, 2, 3, 4, 0] rfl) hk0
set_option maxRecDepth 100000 in
set_option maxHeartbeats 4000000 in
theorem c_X1_lendStones (l : Launch) (E : EE) (a : Nat → Nat) {v : V}  {p1 : Int32} {p2 : Int32} {p3 : Int32} {p4 : Int32} {post : Int32 → V → Prop} (h : s_X1_lendStones v p1 p2 p3 p4 post) : KI l E yX1_lendStones wsX1_lendStones rmX1_lendStones [.ref (a 0), .int p1, .int p2, .int p3, .int p4] (cM E a v) post (fun u => cM E a u) := by
  unfold s_X1_lendStones at h
  refine KI.go (cc := cX1_lendStones) (ret := (some .int)) (maxL := 7) (own := RX1) (by decide) rfl (Nat.le_of_ble_eq_true rfl) rfl (fun p e s m below meth c A ls C0 hw hl => ?_)
  have hx := C0.1
  have hb := C0.2.1
  have hiX1 : ∀ w ∈ wsX10, w ∈ wsX1_lendStones := fun w h => List.mem_cons_of_mem _ (List.mem_append_left _ (List.mem_append_left _ (List.mem_append_left _ (List.mem_append_right _ h))))
  have hiX5 : ∀ w ∈ wsX50, w ∈ wsX1_lendStones := fun w h => List.mem_cons_of_mem _ (List.mem_append_left _ (List.mem_append_left _ (List.mem_append_right _ h)))
  replace hl : lv_has ls 7 [(0, .ref (a 0)), (1, .int p1), (2, .int p2), (3, .int p3), (4, .int p4)] := hl
  refine lv_aload_n hx hb dX1_lendStones_0 rfl (lv_at hl 0 rfl) ?_
  refine lv_iload_n hx hb dX1_lendStones_1 rfl (lv_at hl 1 rfl) ?_
  refine x_cV (As := [.int p1]) (rest := []) (F := []) C0 hw (p_nil _) hl.1 0 1 rfl rfl (c_X1_hasDealer l E a h) 1 gX1_lendStones_X1_hasDealer rfl ⟨rfl, rfl⟩ (by decide +kernel) ⟨Nat.le_of_ble_eq_true rfl, Nat.le_of_ble_eq_true rfl⟩ rfl rfl (Nat.le_of_ble_eq_true rfl) dX1_lendStones_2 ⟨Nat.zero_le _, Nat.zero_le _⟩ (fun r_1 v_2 H locs h (hw : mw E A s.heap H locs (cM E a v_2)) => ?_)
  refine lv_if_eq (tgt := 50) hx hb dX1_lendStones_5 (by decide) (fun c_27 => ?_) (fun c_27 => ?_)
  · replace h := h.1 c_27
    refine x_ldc (v := (-10000001)) C0 2 rfl dX1_lendStones_50 ?_
    exact x_ret C0 v_2 hw h dX1_lendStones_52
  · replace h := h.2 c_27
    refine lv_aload_n hx hb dX1_lendStones_8 rfl (lv_at hl 0 rfl) ?_
    refine lv_iload_n hx hb dX1_lendStones_9 rfl (lv_at hl 2 rfl) ?_
    refine x_cV (As := [.int p2]) (rest := []) (F := []) C0 hw (p_nil _) hl.1 0 1 rfl rfl (c_X1_hasDealer l E a h) 1 gX1_lendStones_X1_hasDealer rfl ⟨rfl, rfl⟩ (by decide +kernel) ⟨Nat.le_of_ble_eq_true rfl, Nat.le_of_ble_eq_true rfl⟩ rfl rfl (Nat.le_of_ble_eq_true rfl) dX1_lendStones_10 ⟨Nat.zero_le _, Nat.zero_le _⟩ (fun r_3 v_4 H locs h (hw : mw E A s.heap H locs (cM E a v_4)) => ?_)
    refine lv_if_eq (tgt := 50) hx hb dX1_lendStones_13 (by decide) (fun c_26 => ?_) (fun c_26 => ?_)
    · replace h := h.1 c_26
      refine x_ldc (v := (-10000001)) C0 2 rfl dX1_lendStones_50 ?_
      exact x_ret C0 v_4 hw h dX1_lendStones_52
    · replace h := h.2 c_26
      refine lv_iload_n hx hb dX1_lendStones_16 rfl (lv_at hl 1 rfl) ?_
      refine lv_iload_n hx hb dX1_lendStones_17 rfl (lv_at hl 2 rfl) ?_
      refine lv_icmp_eq (tgt := 50) hx hb dX1_lendStones_18 (by decide) (fun c_25 => ?_) (fun c_25 => ?_)
      · replace h := h.1 c_25
        refine x_ldc (v := (-10000001)) C0 2 rfl dX1_lendStones_50 ?_
        exact x_ret C0 v_4 hw h dX1_lendStones_52
      · replace h := h.2 c_25
        refine lv_iload_n hx hb dX1_lendStones_21 rfl (lv_at hl 3 rfl) ?_
        refine lv_iconst (v := 1) hx hb dX1_lendStones_22 (by decide) ?_
        refine lv_icmp_lt (tgt := 50) hx hb dX1_lendStones_23 (by decide) (fun c_24 => ?_) (fun c_24 => ?_)
        · replace h := h.1 c_24
          refine x_ldc (v := (-10000001)) C0 2 rfl dX1_lendStones_50 ?_
          exact x_ret C0 v_4 hw h dX1_lendStones_52
        · replace h := h.2 c_24
          refine lv_iload_n hx hb dX1_lendStones_26 rfl (lv_at hl 3 rfl) ?_
          refine lv_bipush (v := 90) hx hb dX1_lendStones_27 (by decide) ?_
          refine lv_icmp_gt (tgt := 50) hx hb dX1_lendStones_29 (by decide) (fun c_23 => ?_) (fun c_23 => ?_)
          · replace h := h.1 c_23
            refine x_ldc (v := (-10000001)) C0 2 rfl dX1_lendStones_50 ?_
            exact x_ret C0 v_4 hw h dX1_lendStones_52
          · replace h := h.2 c_23
            refine lv_iload hx hb dX1_lendStones_32 (lv_at hl 4 rfl) ?_
            refine lv_if_le (tgt := 50) hx hb dX1_lendStones_34 (by decide) (fun c_22 => ?_) (fun c_22 => ?_)
            · replace h := h.1 c_22
              refine x_ldc (v := (-10000001)) C0 2 rfl dX1_lendStones_50 ?_
              exact x_ret C0 v_4 hw h dX1_lendStones_52
            · replace h := h.2 c_22
              refine lv_iload hx hb dX1_lendStones_37 (lv_at hl 4 rfl) ?_
              refine lv_aload_n hx hb dX1_lendStones_39 rfl (lv_at hl 0 rfl) ?_
              refine x_get C0 hw 1 hiX1 rfl 0 rfl 1 (by decide) 1 rfl rfl dX1_lendStones_40 ?_
              refine x_getN C0 hw 5 hiX5 rfl 6 rfl 0 (by decide) 3 rfl rfl dX1_lendStones_43 ?_
              refine lv_ishr hx hb dX1_lendStones_46 ?_
              refine lv_if_eq (tgt := 53) hx hb dX1_lendStones_47 (by decide) (fun c_21 => ?_) (fun c_21 => ?_)
              · replace h := h.1 c_21
                refine lv_aload_n hx hb dX1_lendStones_53 rfl (lv_at hl 0 rfl) ?_
                refine lv_iload_n hx hb dX1_lendStones_54 rfl (lv_at hl 1 rfl) ?_
                refine lv_iload hx hb dX1_lendStones_55 (lv_at hl 4 rfl) ?_
                refine x_cV (As := [.int p1, .int p4]) (rest := []) (F := []) C0 hw (p_nil _) hl.1 0 1 rfl rfl (c_X1_canLend l E a h) 2 gX1_lendStones_X1_canLend rfl ⟨rfl, rfl⟩ (by decide +kernel) ⟨Nat.le_of_ble_eq_true rfl, Nat.le_of_ble_eq_true rfl⟩ rfl rfl (Nat.le_of_ble_eq_true rfl) dX1_lendStones_57 ⟨Nat.zero_le _, Nat.zero_le _⟩ (fun r_5 v_6 H locs h (hw : mw E A s.heap H locs (cM E a v_6)) => ?_)
                refine lv_if_ne (tgt := 66) hx hb dX1_lendStones_60 (by decide) (fun c_20 => ?_) (fun c_20 => ?_)
                · replace h := h.1 c_20
                  refine lv_aload_n hx hb dX1_lendStones_66 rfl (lv_at hl 0 rfl) ?_
                  refine x_get C0 hw 1 hiX1 rfl 0 rfl 2 (by decide) 4 rfl rfl dX1_lendStones_67 ?_
                  refine lv_iload_n hx hb dX1_lendStones_70 rfl (lv_at hl 1 rfl) ?_
                  refine lv_iload_n hx hb dX1_lendStones_71 rfl (lv_at hl 2 rfl) ?_
                  refine lv_aload_n hx hb dX1_lendStones_72 rfl (lv_at hl 0 rfl) ?_
                  refine x_get C0 hw 1 hiX1 rfl 0 rfl 5 (by decide) 5 rfl rfl dX1_lendStones_73 ?_
                  refine lv_iload_n hx hb dX1_lendStones_76 rfl (lv_at hl 3 rfl) ?_
                  refine lv_iadd hx hb dX1_lendStones_77 ?_
                  refine lv_iload hx hb dX1_lendStones_78 (lv_at hl 4 rfl) ?_
                  refine x_cV (As := [.int p1, .int p2, .int ((v_6 0 5) + p3), .int p4]) (rest := []) (F := []) C0 hw (p_nil _) hl.1 16 2 rfl rfl (c_X2_add l E a h) 4 gX1_lendStones_X2_add rfl ⟨rfl, rfl⟩ (by decide +kernel) ⟨Nat.le_of_ble_eq_true rfl, Nat.le_of_ble_eq_true rfl⟩ rfl rfl (Nat.le_of_ble_eq_true rfl) dX1_lendStones_80 ⟨Nat.zero_le _, Nat.zero_le _⟩ (fun r_7 v_8 H locs h (hw : mw E A s.heap H locs (cM E a v_8)) => ?_)
                  refine lv_istore (lv' := [(5, .int r_7), (0, .ref (a 0)), (1, .int p1), (2, .int p2), (3, .int p3), (4, .int p4)]) hx hb dX1_lendStones_83 hl (by decide) rfl (fun ls hl => ?_)
                  refine lv_iload hx hb dX1_lendStones_85 (lv_at hl 0 rfl) ?_
                  refine lv_iconst (v := (-1)) hx hb dX1_lendStones_87 (by decide) ?_
                  refine lv_icmp_ne (tgt := 94) hx hb dX1_lendStones_88 (by decide) (fun c_19 => ?_) (fun c_19 => ?_)
                  · replace h := h.1 c_19
                    refine lv_iconst (v := 0) hx hb dX1_lendStones_94 (by decide) ?_
                    refine lv_istore (lv' := [(6, .int 0), (5, .int r_7), (0, .ref (a 0)), (1, .int p1), (2, .int p2), (3, .int p3), (4, .int p4)]) hx hb dX1_lendStones_95 hl (by decide) rfl (fun ls hl => ?_)
                    obtain ⟨n_16, h⟩ := h
                    refine w_X1_lendStones_97 C0 _ _ _ h _ _ _ hw (lv_sub hl [2, 4, 6, 1, 0] rfl) ?_
                    · intro x6_17 v_18 H locs ls h hw hl
                      refine lv_iload hx hb dX1_lendStones_165 (lv_at hl 3 rfl) ?_
                      exact x_ret C0 v_18 hw h dX1_lendStones_167
                  · replace h := h.2 c_19
                    refine x_ldc (v := (-10000003)) C0 6 rfl dX1_lendStones_91 ?_
                    exact x_ret C0 v_8 hw h dX1_lendStones_93
                · replace h := h.2 c_20
                  refine x_ldc (v := (-10000002)) C0 3 rfl dX1_lendStones_63 ?_
                  exact x_ret C0 v_6 hw h dX1_lendStones_65
              · replace h := h.2 c_21
                refine x_ldc (v := (-10000001)) C0 2 rfl dX1_lendStones_50 ?_
                exact x_ret C0 v_4 hw h dX1_lendStones_52

abbrev rmJ6_bitCount_0f7a4 : Room := { frames := 0, cells := 0, slots := 0, locals := 0 }
set_option maxRecDepth 100000 in
set_option maxHeartbeats 4000000 in
theorem c_J6_bitCount_0f7a4 (l : Launch) (E : EE)    {p0 : Int32} {post : Int32 → Prop} (h : s_J6_bitCount_0f7a4 p0 post) : KI l E yJ6_bitCount_0f7a4 wsJ6_bitCount_0f7a4 rmJ6_bitCount_0f7a4 [.int p0] ([] : va_W) (S := Unit) (fun r (_ : Unit) => post r) (fun (_ : Unit) => ([] : va_W)) := by
  unfold s_J6_bitCount_0f7a4 at h
  refine KI.go (cc := cJ6_bitCount_0f7a4) (ret := (some .int)) (maxL := 1) (own := RJ6) (by decide) rfl (Nat.le_of_ble_eq_true rfl) rfl (fun p e s m below meth c A ls C0 hw hl => ?_)
  have hx := C0.1
  have hb := C0.2.1
  replace hl : lv_has ls 1 [(0, .int p0)] := hl
  refine lv_iload_n hx hb dJ6_bitCount_0f7a4_0 rfl (lv_at hl 0 rfl) ?_
  refine lv_iload_n hx hb dJ6_bitCount_0f7a4_1 rfl (lv_at hl 0 rfl) ?_
  refine lv_iconst (v := 1) hx hb dJ6_bitCount_0f7a4_2 (by decide) ?_
  refine lv_iushr (v := ((p0.toUInt32 >>> ((1 : Int32).toUInt32 &&& Int32.toUInt32 31)).toInt32)) hx hb dJ6_bitCount_0f7a4_3 rfl ?_
  refine x_ldcw (v := 1431655765) C0 1 rfl dJ6_bitCount_0f7a4_4 ?_
  refine lv_iand hx hb dJ6_bitCount_0f7a4_7 ?_
  refine lv_isub hx hb dJ6_bitCount_0f7a4_8 ?_
  refine lv_istore_n (lv' := [(0, .int (p0 - (((p0.toUInt32 >>> ((1 : Int32).toUInt32 &&& Int32.toUInt32 31)).toInt32) &&& 1431655765)))]) hx hb dJ6_bitCount_0f7a4_9 rfl hl (by decide) rfl (fun ls hl => ?_)
  refine lv_iload_n hx hb dJ6_bitCount_0f7a4_10 rfl (lv_at hl 0 rfl) ?_
  refine x_ldcw (v := 858993459) C0 2 rfl dJ6_bitCount_0f7a4_11 ?_
  refine lv_iand hx hb dJ6_bitCount_0f7a4_14 ?_
  refine lv_iload_n hx hb dJ6_bitCount_0f7a4_15 rfl (lv_at hl 0 rfl) ?_
  refine lv_iconst (v := 2) hx hb dJ6_bitCount_0f7a4_16 (by decide) ?_
  refine lv_iushr (v := ((((p0 - (((p0.toUInt32 >>> ((1 : Int32).toUInt32 &&& Int32.toUInt32 31)).toInt32) &&& 1431655765)) : Int32).toUInt32 >>> ((2 : Int32).toUInt32 &&& Int32.toUInt32 31)).toInt32)) hx hb dJ6_bitCount_0f7a4_17 rfl ?_
  refine x_ldcw (v := 858993459) C0 2 rfl dJ6_bitCount_0f7a4_18 ?_
  refine lv_iand hx hb dJ6_bitCount_0f7a4_21 ?_
  refine lv_iadd hx hb dJ6_bitCount_0f7a4_22 ?_
  refine lv_istore_n (lv' := [(0, .int (((p0 - (((p0.toUInt32 >>> ((1 : Int32).toUInt32 &&& Int32.toUInt32 31)).toInt32) &&& 1431655765)) &&& 858993459) + (((((p0 - (((p0.toUInt32 >>> ((1 : Int32).toUInt32 &&& Int32.toUInt32 31)).toInt32) &&& 1431655765)) : Int32).toUInt32 >>> ((2 : Int32).toUInt32 &&& Int32.toUInt32 31)).toInt32) &&& 858993459)))]) hx hb dJ6_bitCount_0f7a4_23 rfl hl (by decide) rfl (fun ls hl => ?_)
  refine lv_iload_n hx hb dJ6_bitCount_0f7a4_24 rfl (lv_at hl 0 rfl) ?_
  refine lv_iload_n hx hb dJ6_bitCount_0f7a4_25 rfl (lv_at hl 0 rfl) ?_
  refine lv_iconst (v := 4) hx hb dJ6_bitCount_0f7a4_26 (by decide) ?_
  refine lv_iushr (v := ((((((p0 - (((p0.toUInt32 >>> ((1 : Int32).toUInt32 &&& Int32.toUInt32 31)).toInt32) &&& 1431655765)) &&& 858993459) + (((((p0 - (((p0.toUInt32 >>> ((1 : Int32).toUInt32 &&& Int32.toUInt32 31)).toInt32) &&& 1431655765)) : Int32).toUInt32 >>> ((2 : Int32).toUInt32 &&& Int32.toUInt32 31)).toInt32) &&& 858993459)) : Int32).toUInt32 >>> ((4 : Int32).toUInt32 &&& Int32.toUInt32 31)).toInt32)) hx hb dJ6_bitCount_0f7a4_27 rfl ?_
  refine lv_iadd hx hb dJ6_bitCount_0f7a4_28 ?_
  refine x_ldcw (v := 252645135) C0 3 rfl dJ6_bitCount_0f7a4_29 ?_
  refine lv_iand hx hb dJ6_bitCount_0f7a4_32 ?_
  refine lv_istore_n (lv' := [(0, .int (((((p0 - (((p0.toUInt32 >>> ((1 : Int32).toUInt32 &&& Int32.toUInt32 31)).toInt32) &&& 1431655765)) &&& 858993459) + (((((p0 - (((p0.toUInt32 >>> ((1 : Int32).toUInt32 &&& Int32.toUInt32 31)).toInt32) &&& 1431655765)) : Int32).toUInt32 >>> ((2 : Int32).toUInt32 &&& Int32.toUInt32 31)).toInt32) &&& 858993459)) + ((((((p0 - (((p0.toUInt32 >>> ((1 : Int32).toUInt32 &&& Int32.toUInt32 31)).toInt32) &&& 1431655765)) &&& 858993459) + (((((p0 - (((p0.toUInt32 >>> ((1 : Int32).toUInt32 &&& Int32.toUInt32 31)).toInt32) &&& 1431655765)) : Int32).toUInt32 >>> ((2 : Int32).toUInt32 &&& Int32.toUInt32 31)).toInt32) &&& 858993459)) : Int32).toUInt32 >>> ((4 : Int32).toUInt32 &&& Int32.toUInt32 31)).toInt32)) &&& 252645135))]) hx hb dJ6_bitCount_0f7a4_33 rfl hl (by decide) rfl (fun ls hl => ?_)
  refine lv_iload_n hx hb dJ6_bitCount_0f7a4_34 rfl (lv_at hl 0 rfl) ?_
  refine lv_iload_n hx hb dJ6_bitCount_0f7a4_35 rfl (lv_at hl 0 rfl) ?_
  refine lv_bipush (v := 8) hx hb dJ6_bitCount_0f7a4_36 (by decide) ?_
  refine lv_iushr (v := ((((((((p0 - (((p0.toUInt32 >>> ((1 : Int32).toUInt32 &&& Int32.toUInt32 31)).toInt32) &&& 1431655765)) &&& 858993459) + (((((p0 - (((p0.toUInt32 >>> ((1 : Int32).toUInt32 &&& Int32.toUInt32 31)).toInt32) &&& 1431655765)) : Int32).toUInt32 >>> ((2 : Int32).toUInt32 &&& Int32.toUInt32 31)).toInt32) &&& 858993459)) + ((((((p0 - (((p0.toUInt32 >>> ((1 : Int32).toUInt32 &&& Int32.toUInt32 31)).toInt32) &&& 1431655765)) &&& 858993459) + (((((p0 - (((p0.toUInt32 >>> ((1 : Int32).toUInt32 &&& Int32.toUInt32 31)).toInt32) &&& 1431655765)) : Int32).toUInt32 >>> ((2 : Int32).toUInt32 &&& Int32.toUInt32 31)).toInt32) &&& 858993459)) : Int32).toUInt32 >>> ((4 : Int32).toUInt32 &&& Int32.toUInt32 31)).toInt32)) &&& 252645135) : Int32).toUInt32 >>> ((8 : Int32).toUInt32 &&& Int32.toUInt32 31)).toInt32)) hx hb dJ6_bitCount_0f7a4_38 rfl ?_
  refine lv_iadd hx hb dJ6_bitCount_0f7a4_39 ?_
  refine lv_istore_n (lv' := [(0, .int ((((((p0 - (((p0.toUInt32 >>> ((1 : Int32).toUInt32 &&& Int32.toUInt32 31)).toInt32) &&& 1431655765)) &&& 858993459) + (((((p0 - (((p0.toUInt32 >>> ((1 : Int32).toUInt32 &&& Int32.toUInt32 31)).toInt32) &&& 1431655765)) : Int32).toUInt32 >>> ((2 : Int32).toUInt32 &&& Int32.toUInt32 31)).toInt32) &&& 858993459)) + ((((((p0 - (((p0.toUInt32 >>> ((1 : Int32).toUInt32 &&& Int32.toUInt32 31)).toInt32) &&& 1431655765)) &&& 858993459) + (((((p0 - (((p0.toUInt32 >>> ((1 : Int32).toUInt32 &&& Int32.toUInt32 31)).toInt32) &&& 1431655765)) : Int32).toUInt32 >>> ((2 : Int32).toUInt32 &&& Int32.toUInt32 31)).toInt32) &&& 858993459)) : Int32).toUInt32 >>> ((4 : Int32).toUInt32 &&& Int32.toUInt32 31)).toInt32)) &&& 252645135) + ((((((((p0 - (((p0.toUInt32 >>> ((1 : Int32).toUInt32 &&& Int32.toUInt32 31)).toInt32) &&& 1431655765)) &&& 858993459) + (((((p0 - (((p0.toUInt32 >>> ((1 : Int32).toUInt32 &&& Int32.toUInt32 31)).toInt32) &&& 1431655765)) : Int32).toUInt32 >>> ((2 : Int32).toUInt32 &&& Int32.toUInt32 31)).toInt32) &&& 858993459)) + ((((((p0 - (((p0.toUInt32 >>> ((1 : Int32).toUInt32 &&& Int32.toUInt32 31)).toInt32) &&& 1431655765)) &&& 858993459) + (((((p0 - (((p0.toUInt32 >>> ((1 : Int32).toUInt32 &&& Int32.toUInt32 31)).toInt32) &&& 1431655765)) : Int32).toUInt32 >>> ((2 : Int32).toUInt32 &&& Int32.toUInt32 31)).toInt32) &&& 858993459)) : Int32).toUInt32 >>> ((4 : Int32).toUInt32 &&& Int32.toUInt32 31)).toInt32)) &&& 252645135) : Int32).toUInt32 >>> ((8 : Int32).toUInt32 &&& Int32.toUInt32 31)).toInt32)))]) hx hb dJ6_bitCount_0f7a4_40 rfl hl (by decide) rfl (fun ls hl => ?_)
  refine lv_iload_n hx hb dJ6_bitCount_0f7a4_41 rfl (lv_at hl 0 rfl) ?_
  refine lv_iload_n hx hb dJ6_bitCount_0f7a4_42 rfl (lv_at hl 0 rfl) ?_
  refine lv_bipush (v := 16) hx hb dJ6_bitCount_0f7a4_43 (by decide) ?_
  refine lv_iushr (v := (((((((((p0 - (((p0.toUInt32 >>> ((1 : Int32).toUInt32 &&& Int32.toUInt32 31)).toInt32) &&& 1431655765)) &&& 858993459) + (((((p0 - (((p0.toUInt32 >>> ((1 : Int32).toUInt32 &&& Int32.toUInt32 31)).toInt32) &&& 1431655765)) : Int32).toUInt32 >>> ((2 : Int32).toUInt32 &&& Int32.toUInt32 31)).toInt32) &&& 858993459)) + ((((((p0 - (((p0.toUInt32 >>> ((1 : Int32).toUInt32 &&& Int32.toUInt32 31)).toInt32) &&& 1431655765)) &&& 858993459) + (((((p0 - (((p0.toUInt32 >>> ((1 : Int32).toUInt32 &&& Int32.toUInt32 31)).toInt32) &&& 1431655765)) : Int32).toUInt32 >>> ((2 : Int32).toUInt32 &&& Int32.toUInt32 31)).toInt32) &&& 858993459)) : Int32).toUInt32 >>> ((4 : Int32).toUInt32 &&& Int32.toUInt32 31)).toInt32)) &&& 252645135) + ((((((((p0 - (((p0.toUInt32 >>> ((1 : Int32).toUInt32 &&& Int32.toUInt32 31)).toInt32) &&& 1431655765)) &&& 858993459) + (((((p0 - (((p0.toUInt32 >>> ((1 : Int32).toUInt32 &&& Int32.toUInt32 31)).toInt32) &&& 1431655765)) : Int32).toUInt32 >>> ((2 : Int32).toUInt32 &&& Int32.toUInt32 31)).toInt32) &&& 858993459)) + ((((((p0 - (((p0.toUInt32 >>> ((1 : Int32).toUInt32 &&& Int32.toUInt32 31)).toInt32) &&& 1431655765)) &&& 858993459) + (((((p0 - (((p0.toUInt32 >>> ((1 : Int32).toUInt32 &&& Int32.toUInt32 31)).toInt32) &&& 1431655765)) : Int32).toUInt32 >>> ((2 : Int32).toUInt32 &&& Int32.toUInt32 31)).toInt32) &&& 858993459)) : Int32).toUInt32 >>> ((4 : Int32).toUInt32 &&& Int32.toUInt32 31)).toInt32)) &&& 252645135) : Int32).toUInt32 >>> ((8 : Int32).toUInt32 &&& Int32.toUInt32 31)).toInt32)) : Int32).toUInt32 >>> ((16 : Int32).toUInt32 &&& Int32.toUInt32 31)).toInt32)) hx hb dJ6_bitCount_0f7a4_45 rfl ?_
  refine lv_iadd hx hb dJ6_bitCount_0f7a4_46 ?_
  refine lv_istore_n (lv' := [(0, .int (((((((p0 - (((p0.toUInt32 >>> ((1 : Int32).toUInt32 &&& Int32.toUInt32 31)).toInt32) &&& 1431655765)) &&& 858993459) + (((((p0 - (((p0.toUInt32 >>> ((1 : Int32).toUInt32 &&& Int32.toUInt32 31)).toInt32) &&& 1431655765)) : Int32).toUInt32 >>> ((2 : Int32).toUInt32 &&& Int32.toUInt32 31)).toInt32) &&& 858993459)) + ((((((p0 - (((p0.toUInt32 >>> ((1 : Int32).toUInt32 &&& Int32.toUInt32 31)).toInt32) &&& 1431655765)) &&& 858993459) + (((((p0 - (((p0.toUInt32 >>> ((1 : Int32).toUInt32 &&& Int32.toUInt32 31)).toInt32) &&& 1431655765)) : Int32).toUInt32 >>> ((2 : Int32).toUInt32 &&& Int32.toUInt32 31)).toInt32) &&& 858993459)) : Int32).toUInt32 >>> ((4 : Int32).toUInt32 &&& Int32.toUInt32 31)).toInt32)) &&& 252645135) + ((((((((p0 - (((p0.toUInt32 >>> ((1 : Int32).toUInt32 &&& Int32.toUInt32 31)).toInt32) &&& 1431655765)) &&& 858993459) + (((((p0 - (((p0.toUInt32 >>> ((1 : Int32).toUInt32 &&& Int32.toUInt32 31)).toInt32) &&& 1431655765)) : Int32).toUInt32 >>> ((2 : Int32).toUInt32 &&& Int32.toUInt32 31)).toInt32) &&& 858993459)) + ((((((p0 - (((p0.toUInt32 >>> ((1 : Int32).toUInt32 &&& Int32.toUInt32 31)).toInt32) &&& 1431655765)) &&& 858993459) + (((((p0 - (((p0.toUInt32 >>> ((1 : Int32).toUInt32 &&& Int32.toUInt32 31)).toInt32) &&& 1431655765)) : Int32).toUInt32 >>> ((2 : Int32).toUInt32 &&& Int32.toUInt32 31)).toInt32) &&& 858993459)) : Int32).toUInt32 >>> ((4 : Int32).toUInt32 &&& Int32.toUInt32 31)).toInt32)) &&& 252645135) : Int32).toUInt32 >>> ((8 : Int32).toUInt32 &&& Int32.toUInt32 31)).toInt32)) + (((((((((p0 - (((p0.toUInt32 >>> ((1 : Int32).toUInt32 &&& Int32.toUInt32 31)).toInt32) &&& 1431655765)) &&& 858993459) + (((((p0 - (((p0.toUInt32 >>> ((1 : Int32).toUInt32 &&& Int32.toUInt32 31)).toInt32) &&& 1431655765)) : Int32).toUInt32 >>> ((2 : Int32).toUInt32 &&& Int32.toUInt32 31)).toInt32) &&& 858993459)) + ((((((p0 - (((p0.toUInt32 >>> ((1 : Int32).toUInt32 &&& Int32.toUInt32 31)).toInt32) &&& 1431655765)) &&& 858993459) + (((((p0 - (((p0.toUInt32 >>> ((1 : Int32).toUInt32 &&& Int32.toUInt32 31)).toInt32) &&& 1431655765)) : Int32).toUInt32 >>> ((2 : Int32).toUInt32 &&& Int32.toUInt32 31)).toInt32) &&& 858993459)) : Int32).toUInt32 >>> ((4 : Int32).toUInt32 &&& Int32.toUInt32 31)).toInt32)) &&& 252645135) + ((((((((p0 - (((p0.toUInt32 >>> ((1 : Int32).toUInt32 &&& Int32.toUInt32 31)).toInt32) &&& 1431655765)) &&& 858993459) + (((((p0 - (((p0.toUInt32 >>> ((1 : Int32).toUInt32 &&& Int32.toUInt32 31)).toInt32) &&& 1431655765)) : Int32).toUInt32 >>> ((2 : Int32).toUInt32 &&& Int32.toUInt32 31)).toInt32) &&& 858993459)) + ((((((p0 - (((p0.toUInt32 >>> ((1 : Int32).toUInt32 &&& Int32.toUInt32 31)).toInt32) &&& 1431655765)) &&& 858993459) + (((((p0 - (((p0.toUInt32 >>> ((1 : Int32).toUInt32 &&& Int32.toUInt32 31)).toInt32) &&& 1431655765)) : Int32).toUInt32 >>> ((2 : Int32).toUInt32 &&& Int32.toUInt32 31)).toInt32) &&& 858993459)) : Int32).toUInt32 >>> ((4 : Int32).toUInt32 &&& Int32.toUInt32 31)).toInt32)) &&& 252645135) : Int32).toUInt32 >>> ((8 : Int32).toUInt32 &&& Int32.toUInt32 31)).toInt32)) : Int32).toUInt32 >>> ((16 : Int32).toUInt32 &&& Int32.toUInt32 31)).toInt32)))]) hx hb dJ6_bitCount_0f7a4_47 rfl hl (by decide) rfl (fun ls hl => ?_)
  refine lv_iload_n hx hb dJ6_bitCount_0f7a4_48 rfl (lv_at hl 0 rfl) ?_
  refine lv_bipush (v := 63) hx hb dJ6_bitCount_0f7a4_49 (by decide) ?_
  refine lv_iand hx hb dJ6_bitCount_0f7a4_51 ?_
  exact x_ret C0 () hw h dJ6_bitCount_0f7a4_52

abbrev rmX5_has : Room := { frames := 0, cells := 0, slots := 0, locals := 0 }
set_option maxRecDepth 100000 in
set_option maxHeartbeats 4000000 in
theorem c_X5_has (l : Launch) (E : EE) (a : Nat → Nat) {v : V}  {p1 : Int32} {post : Int32 → V → Prop} (h : s_X5_has v p1 post) : KI l E yX5_has wsX5_has rmX5_has [.ref (a 6), .int p1] (cM E a v) post (fun u => cM E a u) := by
  unfold s_X5_has at h
  refine KI.go (cc := cX5_has) (ret := (some .boolean)) (maxL := 2) (own := RX5) (by decide) rfl (Nat.le_of_ble_eq_true rfl) rfl (fun p e s m below meth c A ls C0 hw hl => ?_)
  have hx := C0.1
  have hb := C0.2.1
  have hiX5 : ∀ w ∈ wsX50, w ∈ wsX5_has := fun w h => List.mem_cons_of_mem _ (List.mem_append_right _ h)
  replace hl : lv_has ls 2 [(0, .ref (a 6)), (1, .int p1)] := hl
  refine lv_iload_n hx hb dX5_has_0 rfl (lv_at hl 1 rfl) ?_
  refine lv_if_lt (tgt := 22) hx hb dX5_has_1 (by decide) (fun c_3 => ?_) (fun c_3 => ?_)
  · replace h := h.1 c_3
    refine lv_iconst (v := 0) hx hb dX5_has_22 (by decide) ?_
    exact x_retz C0 rfl v hw h dX5_has_23
  · replace h := h.2 c_3
    refine lv_iload_n hx hb dX5_has_4 rfl (lv_at hl 1 rfl) ?_
    refine lv_aload_n hx hb dX5_has_5 rfl (lv_at hl 0 rfl) ?_
    refine x_get C0 hw 5 hiX5 rfl 6 rfl 0 (by decide) 1 rfl rfl dX5_has_6 ?_
    refine lv_icmp_ge (tgt := 22) hx hb dX5_has_9 (by decide) (fun c_2 => ?_) (fun c_2 => ?_)
    · replace h := h.1 c_2
      refine lv_iconst (v := 0) hx hb dX5_has_22 (by decide) ?_
      exact x_retz C0 rfl v hw h dX5_has_23
    · replace h := h.2 c_2
      refine lv_iload_n hx hb dX5_has_12 rfl (lv_at hl 1 rfl) ?_
      refine lv_bipush (v := 20) hx hb dX5_has_13 (by decide) ?_
      refine lv_icmp_ge (tgt := 22) hx hb dX5_has_15 (by decide) (fun c_1 => ?_) (fun c_1 => ?_)
      · replace h := h.1 c_1
        refine lv_iconst (v := 0) hx hb dX5_has_22 (by decide) ?_
        exact x_retz C0 rfl v hw h dX5_has_23
      · replace h := h.2 c_1
        refine lv_iconst (v := 1) hx hb dX5_has_18 (by decide) ?_
        refine lv_goto (tgt := 23) hx hb dX5_has_19 (by decide) ?_
        exact x_retz C0 rfl v hw h dX5_has_23

abbrev rmX5_isOut : Room := { frames := 0, cells := 0, slots := 0, locals := 0 }
set_option maxRecDepth 100000 in
set_option maxHeartbeats 4000000 in
theorem c_X5_isOut (l : Launch) (E : EE) (a : Nat → Nat) {v : V}  {p1 : Int32} {post : Int32 → V → Prop} (h : s_X5_isOut v p1 post) : KI l E yX5_isOut wsX5_isOut rmX5_isOut [.ref (a 6), .int p1] (cM E a v) post (fun u => cM E a u) := by
  unfold s_X5_isOut at h
  refine KI.go (cc := cX5_isOut) (ret := (some .boolean)) (maxL := 2) (own := RX5) (by decide) rfl (Nat.le_of_ble_eq_true rfl) rfl (fun p e s m below meth c A ls C0 hw hl => ?_)
  have hx := C0.1
  have hb := C0.2.1
  have hiX5 : ∀ w ∈ wsX50, w ∈ wsX5_isOut := fun w h => List.mem_cons_of_mem _ (List.mem_append_right _ h)
  replace hl : lv_has ls 2 [(0, .ref (a 6)), (1, .int p1)] := hl
  refine lv_aload_n hx hb dX5_isOut_0 rfl (lv_at hl 0 rfl) ?_
  refine x_get C0 hw 5 hiX5 rfl 6 rfl 6 (by decide) 1 rfl rfl dX5_isOut_1 ?_
  refine lv_iload_n hx hb dX5_isOut_4 rfl (lv_at hl 1 rfl) ?_
  obtain ⟨hin, h⟩ := h
  refine x_ald C0 hw 12 rfl hin dX5_isOut_5 ?_
  refine lv_iconst (v := (-1)) hx hb dX5_isOut_6 (by decide) ?_
  refine lv_icmp_eq (tgt := 14) hx hb dX5_isOut_7 (by decide) (fun c_1 => ?_) (fun c_1 => ?_)
  · replace h := h.1 c_1
    refine lv_iconst (v := 0) hx hb dX5_isOut_14 (by decide) ?_
    exact x_retz C0 rfl v hw h dX5_isOut_15
  · replace h := h.2 c_1
    refine lv_iconst (v := 1) hx hb dX5_isOut_10 (by decide) ?_
    refine lv_goto (tgt := 15) hx hb dX5_isOut_11 (by decide) ?_
    exact x_retz C0 rfl v hw h dX5_isOut_15

abbrev rmX5_setWhere : Room := { frames := 0, cells := 0, slots := 0, locals := 0 }
set_option maxRecDepth 100000 in
set_option maxHeartbeats 4000000 in
theorem w_X5_setWhere_12_5 {p : Program} {l : Launch} {e : Env} {s : State} {m : MethodId} {below : List Frame} {meth : Method} {c : Code} {E : EE} {A : Nat → Prop} {a : Nat → Nat} {args : Array Value} (C0 : Cx E p s m args meth c A cX5_setWhere 5 RX5 wsX5_setWhere (some .int)) {post : Int32 → V → Prop}  {f2 : Int32} {k0 : Int32 → Int32 → V → Prop} : ∀ (n : Nat) (x3 : Int32) (x4 : Int32) (v : V), sl_X5_setWhere_12_5 post f2 k0 n x3 x4 v → ∀ (H : Heap) (locs : List Loc) (ls : Array Slot), mw E A s.heap H locs (cM E a v) → lv_has ls 5 [(0, .ref (a 6)), (1, .ref (a 12)), (2, .int f2), (3, .int x3), (4, .int x4)] → (∀ (x3 : Int32) (x4 : Int32) (v : V) (H : Heap) (locs : List Loc) (ls : Array Slot), k0 x3 x4 v → mw E A s.heap H locs (cM E a v) → lv_has ls 5 [(0, .ref (a 6)), (1, .ref (a 12)), (2, .int f2), (3, .int x3), (4, .int x4)] → W p l e rmX5_setWhere s m args below meth c H locs 0 0 (qI E A post (fun u => cM E a u) below args s) (F0 m 35 ls [])) → W p l e rmX5_setWhere s m args below meth c H locs 0 0 (qI E A post (fun u => cM E a u) below args s) (F0 m 5 ls []) := by
  have hx := C0.1
  have hb := C0.2.1
  have hiX5 : ∀ w ∈ wsX50, w ∈ wsX5_setWhere := fun w h => List.mem_cons_of_mem _ (List.mem_append_right _ h)
  intro n
  induction n with
  | zero => intro x3 x4 v h; exact False.elim h
  | succ n ih =>
    intro x3 x4 v h H locs ls hw hl hk0
    replace h : sb_X5_setWhere_12_5 post f2 k0 (sl_X5_setWhere_12_5 post f2 k0 n) x3 x4 v := h
    unfold sb_X5_setWhere_12_5 at h
    refine lv_iload hx hb dX5_setWhere_5 (lv_at hl 4 rfl) ?_
    refine lv_aload_n hx hb dX5_setWhere_7 rfl (lv_at hl 0 rfl) ?_
    refine x_get C0 hw 5 hiX5 rfl 6 rfl 0 (by decide) 1 rfl rfl dX5_setWhere_8 ?_
    refine lv_icmp_ge (tgt := 35) hx hb dX5_setWhere_11 (by decide) (fun c_2 => ?_) (fun c_2 => ?_)
    · replace h := h.1 c_2
      exact hk0 _ _ _ _ _ _ h hw (lv_sub hl [0, 1, 2, 3, 4] rfl)
    · replace h := h.2 c_2
      refine lv_aload_n hx hb dX5_setWhere_14 rfl (lv_at hl 1 rfl) ?_
      refine lv_iload hx hb dX5_setWhere_15 (lv_at hl 4 rfl) ?_
      obtain ⟨hin, h⟩ := h
      refine x_ald C0 hw 12 rfl hin dX5_setWhere_17 ?_
      refine lv_iload_n hx hb dX5_setWhere_18 rfl (lv_at hl 2 rfl) ?_
      refine lv_icmp_ne (tgt := 29) hx hb dX5_setWhere_19 (by decide) (fun c_1 => ?_) (fun c_1 => ?_)
      · replace h := h.1 c_1
        refine lv_iinc (v := (x4 + 1)) (lv' := [(4, .int (x4 + 1)), (0, .ref (a 6)), (1, .ref (a 12)), (2, .int f2), (3, .int x3)]) hx hb dX5_setWhere_29 hl (k := 4) rfl rfl (by decide) rfl (fun ls hl => ?_)
        refine lv_goto (tgt := 5) hx hb dX5_setWhere_32 (by decide) ?_
        exact ih _ _ _ h _ _ _ hw (lv_sub hl [1, 2, 3, 4, 0] rfl) hk0
      · replace h := h.2 c_1
        refine lv_iload_n hx hb dX5_setWhere_22 rfl (lv_at hl 3 rfl) ?_
        refine lv_iconst (v := 1) hx hb dX5_setWhere_23 (by decide) ?_
        refine lv_iload hx hb dX5_setWhere_24 (lv_at hl 4 rfl) ?_
        refine lv_ishl hx hb dX5_setWhere_26 ?_
        refine lv_ior hx hb dX5_setWhere_27 ?_
        refine lv_istore_n (lv' := [(3, .int (x3 ||| (1 <<< (x4 &&& 31)))), (0, .ref (a 6)), (1, .ref (a 12)), (2, .int f2), (4, .int x4)]) hx hb dX5_setWhere_28 rfl hl (by decide) rfl (fun ls hl => ?_)
        refine lv_iinc (v := (x4 + 1)) (lv' := [(4, .int (x4 + 1)), (3, .int (x3 ||| (1 <<< (x4 &&& 31)))), (0, .ref (a 6)), (1, .ref (a 12)), (2, .int f2)]) hx hb dX5_setWhere_29 hl (k := 4) rfl rfl (by decide) rfl (fun ls hl => ?_)
        refine lv_goto (tgt := 5) hx hb dX5_setWhere_32 (by decide) ?_
        exact ih _ _ _ h _ _ _ hw (lv_sub hl [2, 3, 4, 1, 0] rfl) hk0
set_option maxRecDepth 100000 in
set_option maxHeartbeats 4000000 in
theorem c_X5_setWhere_12 (l : Launch) (E : EE) (a : Nat → Nat) {v : V}  {p2 : Int32} {post : Int32 → V → Prop} (h : s_X5_setWhere_12 v p2 post) : KI l E yX5_setWhere wsX5_setWhere rmX5_setWhere [.ref (a 6), .ref (a 12), .int p2] (cM E a v) post (fun u => cM E a u) := by
  unfold s_X5_setWhere_12 at h
  refine KI.go (cc := cX5_setWhere) (ret := (some .int)) (maxL := 5) (own := RX5) (by decide) rfl (Nat.le_of_ble_eq_true rfl) rfl (fun p e s m below meth c A ls C0 hw hl => ?_)
  have hx := C0.1
  have hb := C0.2.1
  have hiX5 : ∀ w ∈ wsX50, w ∈ wsX5_setWhere := fun w h => List.mem_cons_of_mem _ (List.mem_append_right _ h)
  replace hl : lv_has ls 5 [(0, .ref (a 6)), (1, .ref (a 12)), (2, .int p2)] := hl
  refine lv_iconst (v := 0) hx hb dX5_setWhere_0 (by decide) ?_
  refine lv_istore_n (lv' := [(3, .int 0), (0, .ref (a 6)), (1, .ref (a 12)), (2, .int p2)]) hx hb dX5_setWhere_1 rfl hl (by decide) rfl (fun ls hl => ?_)
  refine lv_iconst (v := 0) hx hb dX5_setWhere_2 (by decide) ?_
  refine lv_istore (lv' := [(4, .int 0), (3, .int 0), (0, .ref (a 6)), (1, .ref (a 12)), (2, .int p2)]) hx hb dX5_setWhere_3 hl (by decide) rfl (fun ls hl => ?_)
  obtain ⟨n_3, h⟩ := h
  refine w_X5_setWhere_12_5 C0 _ _ _ _ h _ _ _ hw (lv_sub hl [2, 3, 4, 1, 0] rfl) ?_
  · intro x3_4 x4_5 v_6 H locs ls h hw hl
    refine lv_iload_n hx hb dX5_setWhere_35 rfl (lv_at hl 3 rfl) ?_
    exact x_ret C0 v_6 hw h dX5_setWhere_36

abbrev rmX1_giveBack : Room := { frames := 1, cells := 0, slots := 0, locals := 24 }
set_option maxRecDepth 100000 in
set_option maxHeartbeats 4000000 in
theorem c_X1_giveBack (l : Launch) (E : EE) (a : Nat → Nat) {v : V}  {p1 : Int32} {post : Int32 → V → Prop} (h : s_X1_giveBack v p1 post) : KI l E yX1_giveBack wsX1_giveBack rmX1_giveBack [.ref (a 0), .int p1] (cM E a v) post (fun u => cM E a u) := by
  unfold s_X1_giveBack at h
  refine KI.go (cc := cX1_giveBack) (ret := (some .int)) (maxL := 3) (own := RX1) (by decide) rfl (Nat.le_of_ble_eq_true rfl) rfl (fun p e s m below meth c A ls C0 hw hl => ?_)
  have hx := C0.1
  have hb := C0.2.1
  have hiX1 : ∀ w ∈ wsX10, w ∈ wsX1_giveBack := fun w h => List.mem_cons_of_mem _ (List.mem_append_left _ (List.mem_append_right _ h))
  have hiX5 : ∀ w ∈ wsX50, w ∈ wsX1_giveBack := fun w h => List.mem_cons_of_mem _ (List.mem_append_right _ h)
  replace hl : lv_has ls 3 [(0, .ref (a 0)), (1, .int p1)] := hl
  refine lv_aload_n hx hb dX1_giveBack_0 rfl (lv_at hl 0 rfl) ?_
  refine x_get C0 hw 1 hiX1 rfl 0 rfl 1 (by decide) 1 rfl rfl dX1_giveBack_1 ?_
  refine lv_iload_n hx hb dX1_giveBack_4 rfl (lv_at hl 1 rfl) ?_
  refine x_cV (As := [.int p1]) (rest := []) (F := []) C0 hw (p_nil _) hl.1 6 5 rfl rfl (c_X5_has l E a h) 1 gX1_giveBack_X5_has rfl ⟨rfl, rfl⟩ (by decide +kernel) ⟨Nat.le_of_ble_eq_true rfl, Nat.le_of_ble_eq_true rfl⟩ rfl rfl (Nat.le_of_ble_eq_true rfl) dX1_giveBack_5 ⟨Nat.zero_le _, Nat.zero_le _⟩ (fun r_1 v_2 H locs h (hw : mw E A s.heap H locs (cM E a v_2)) => ?_)
  refine lv_if_ne (tgt := 14) hx hb dX1_giveBack_8 (by decide) (fun c_12 => ?_) (fun c_12 => ?_)
  · replace h := h.1 c_12
    refine lv_aload_n hx hb dX1_giveBack_14 rfl (lv_at hl 0 rfl) ?_
    refine x_get C0 hw 1 hiX1 rfl 0 rfl 1 (by decide) 1 rfl rfl dX1_giveBack_15 ?_
    refine lv_iload_n hx hb dX1_giveBack_18 rfl (lv_at hl 1 rfl) ?_
    refine x_cV (As := [.int p1]) (rest := []) (F := []) C0 hw (p_nil _) hl.1 6 5 rfl rfl (c_X5_isOut l E a h) 1 gX1_giveBack_X5_isOut rfl ⟨rfl, rfl⟩ (by decide +kernel) ⟨Nat.le_of_ble_eq_true rfl, Nat.le_of_ble_eq_true rfl⟩ rfl rfl (Nat.le_of_ble_eq_true rfl) dX1_giveBack_19 ⟨Nat.zero_le _, Nat.zero_le _⟩ (fun r_3 v_4 H locs h (hw : mw E A s.heap H locs (cM E a v_4)) => ?_)
    refine lv_if_ne (tgt := 28) hx hb dX1_giveBack_22 (by decide) (fun c_11 => ?_) (fun c_11 => ?_)
    · replace h := h.1 c_11
      refine lv_aload_n hx hb dX1_giveBack_28 rfl (lv_at hl 0 rfl) ?_
      refine x_get C0 hw 1 hiX1 rfl 0 rfl 1 (by decide) 1 rfl rfl dX1_giveBack_29 ?_
      refine x_getN C0 hw 5 hiX5 rfl 6 rfl 6 (by decide) 9 rfl rfl dX1_giveBack_32 ?_
      refine lv_iload_n hx hb dX1_giveBack_35 rfl (lv_at hl 1 rfl) ?_
      obtain ⟨hin, h⟩ := h
      refine x_ald C0 hw 12 rfl hin dX1_giveBack_36 ?_
      refine lv_istore_n (lv' := [(2, .int (v_4 12 (tn p1))), (0, .ref (a 0)), (1, .int p1)]) hx hb dX1_giveBack_37 rfl hl (by decide) rfl (fun ls hl => ?_)
      refine lv_aload_n hx hb dX1_giveBack_38 rfl (lv_at hl 1 rfl) ?_
      refine x_get C0 hw 1 hiX1 rfl 0 rfl 1 (by decide) 1 rfl rfl dX1_giveBack_39 ?_
      refine x_getN C0 hw 5 hiX5 rfl 6 rfl 5 (by decide) 8 rfl rfl dX1_giveBack_42 ?_
      refine lv_iload_n hx hb dX1_giveBack_45 rfl (lv_at hl 2 rfl) ?_
      refine lv_aload_n hx hb dX1_giveBack_46 rfl (lv_at hl 1 rfl) ?_
      refine x_get C0 hw 1 hiX1 rfl 0 rfl 1 (by decide) 1 rfl rfl dX1_giveBack_47 ?_
      refine x_getN C0 hw 5 hiX5 rfl 6 rfl 4 (by decide) 7 rfl rfl dX1_giveBack_50 ?_
      refine lv_iload_n hx hb dX1_giveBack_53 rfl (lv_at hl 2 rfl) ?_
      obtain ⟨hin, h⟩ := h
      refine x_ald C0 hw 10 rfl hin dX1_giveBack_54 ?_
      obtain ⟨hin, h⟩ := h
      refine x_ast (ws' := (cM E a ((st v_4 11 (tn p1) (v_4 10 (tn p1)))))) C0 hw 11 rfl hin rfl dX1_giveBack_55 (fun H locs hw => ?_)
      obtain ⟨v_5, e_v_5⟩ : ∃ z, z = st v_4 11 (tn p1) (v_4 10 (tn p1)) := ⟨_, rfl⟩
      rw [← e_v_5] at hw
      replace h := h v_5 e_v_5
      refine lv_aload_n hx hb dX1_giveBack_56 rfl (lv_at hl 1 rfl) ?_
      refine x_get C0 hw 1 hiX1 rfl 0 rfl 1 (by decide) 1 rfl rfl dX1_giveBack_57 ?_
      refine x_getN C0 hw 5 hiX5 rfl 6 rfl 6 (by decide) 9 rfl rfl dX1_giveBack_60 ?_
      refine lv_iload_n hx hb dX1_giveBack_63 rfl (lv_at hl 2 rfl) ?_
      refine lv_iconst (v := (-1)) hx hb dX1_giveBack_64 (by decide) ?_
      obtain ⟨hin, h⟩ := h
      refine x_ast (ws' := (cM E a ((st v_5 12 (tn p1) (-1))))) C0 hw 12 rfl hin rfl dX1_giveBack_65 (fun H locs hw => ?_)
      obtain ⟨v_6, e_v_6⟩ : ∃ z, z = st v_5 12 (tn p1) (-1) := ⟨_, rfl⟩
      rw [← e_v_6] at hw
      replace h := h v_6 e_v_6
      refine lv_aload_n hx hb dX1_giveBack_66 rfl (lv_at hl 1 rfl) ?_
      refine x_get C0 hw 1 hiX1 rfl 0 rfl 1 (by decide) 1 rfl rfl dX1_giveBack_67 ?_
      refine lv_aload_n hx hb dX1_giveBack_70 rfl (lv_at hl 1 rfl) ?_
      refine x_get C0 hw 1 hiX1 rfl 0 rfl 1 (by decide) 1 rfl rfl dX1_giveBack_71 ?_
      refine x_getN C0 hw 5 hiX5 rfl 6 rfl 6 (by decide) 9 rfl rfl dX1_giveBack_74 ?_
      refine lv_iload_n hx hb dX1_giveBack_77 rfl (lv_at hl 0 rfl) ?_
      refine x_cV (As := [.ref (a 12), .int (v_4 12 (tn p1))]) (rest := []) (F := []) C0 hw (p_nil _) hl.1 6 5 rfl rfl (c_X5_setWhere_12 l E a h) 2 gX1_giveBack_X5_setWhere rfl ⟨rfl, rfl⟩ (by decide +kernel) ⟨Nat.le_of_ble_eq_true rfl, Nat.le_of_ble_eq_true rfl⟩ rfl rfl (Nat.le_of_ble_eq_true rfl) dX1_giveBack_78 ⟨Nat.zero_le _, Nat.zero_le _⟩ (fun r_7 v_8 H locs h (hw : mw E A s.heap H locs (cM E a v_8)) => ?_)
      refine x_cS (As := [.int r_7]) (rest := []) (F := (cM E a v_8)) C0 hw (p_non _) hl.1 (c_J6_bitCount_0f7a4 l E  h) 1 gX1_giveBack_J6_bitCount_0f7a4 rfl ⟨rfl, rfl⟩ (by decide +kernel) ⟨Nat.le_of_ble_eq_true rfl, Nat.le_of_ble_eq_true rfl⟩ rfl rfl (Nat.le_of_ble_eq_true rfl) dX1_giveBack_81 ⟨Nat.zero_le _, Nat.zero_le _⟩ (fun r_9 _u H locs h (hw : mw E A s.heap H locs (cM E a v_8)) => ?_)
      exact x_ret C0 v_8 hw h dX1_giveBack_84
    · replace h := h.2 c_11
      refine x_ldc (v := (-10000002)) C0 3 rfl dX1_giveBack_25 ?_
      exact x_ret C0 v_4 hw h dX1_giveBack_27
  · replace h := h.2 c_12
    refine x_ldc (v := (-10000001)) C0 2 rfl dX1_giveBack_11 ?_
    exact x_ret C0 v_2 hw h dX1_giveBack_13

abbrev rmX2_has : Room := { frames := 0, cells := 0, slots := 0, locals := 0 }
set_option maxRecDepth 100000 in
set_option maxHeartbeats 4000000 in
theorem c_X2_has (l : Launch) (E : EE) (a : Nat → Nat) {v : V}  {p1 : Int32} {post : Int32 → V → Prop} (h : s_X2_has v p1 post) : KI l E yX2_has wsX2_has rmX2_has [.ref (a 16), .int p1] (cM E a v) post (fun u => cM E a u) := by
  unfold s_X2_has at h
  refine KI.go (cc := cX2_has) (ret := (some .boolean)) (maxL := 2) (own := RX2) (by decide) rfl (Nat.le_of_ble_eq_true rfl) rfl (fun p e s m below meth c A ls C0 hw hl => ?_)
  have hx := C0.1
  have hb := C0.2.1
  have hiX2 : ∀ w ∈ wsX20, w ∈ wsX2_has := fun w h => List.mem_cons_of_mem _ (List.mem_append_right _ h)
  replace hl : lv_has ls 2 [(0, .ref (a 16)), (1, .int p1)] := hl
  refine lv_iload_n hx hb dX2_has_0 rfl (lv_at hl 1 rfl) ?_
  refine lv_if_lt (tgt := 22) hx hb dX2_has_1 (by decide) (fun c_3 => ?_) (fun c_3 => ?_)
  · replace h := h.1 c_3
    refine lv_iconst (v := 0) hx hb dX2_has_22 (by decide) ?_
    exact x_retz C0 rfl v hw h dX2_has_23
  · replace h := h.2 c_3
    refine lv_iload_n hx hb dX2_has_4 rfl (lv_at hl 1 rfl) ?_
    refine lv_aload_n hx hb dX2_has_5 rfl (lv_at hl 0 rfl) ?_
    refine x_get C0 hw 2 hiX2 rfl 16 rfl 0 (by decide) 1 rfl rfl dX2_has_6 ?_
    refine lv_icmp_ge (tgt := 22) hx hb dX2_has_9 (by decide) (fun c_2 => ?_) (fun c_2 => ?_)
    · replace h := h.1 c_2
      refine lv_iconst (v := 0) hx hb dX2_has_22 (by decide) ?_
      exact x_retz C0 rfl v hw h dX2_has_23
    · replace h := h.2 c_2
      refine lv_iload_n hx hb dX2_has_12 rfl (lv_at hl 1 rfl) ?_
      refine lv_bipush (v := 10) hx hb dX2_has_13 (by decide) ?_
      refine lv_icmp_ge (tgt := 22) hx hb dX2_has_15 (by decide) (fun c_1 => ?_) (fun c_1 => ?_)
      · replace h := h.1 c_1
        refine lv_iconst (v := 0) hx hb dX2_has_22 (by decide) ?_
        exact x_retz C0 rfl v hw h dX2_has_23
      · replace h := h.2 c_1
        refine lv_iconst (v := 1) hx hb dX2_has_18 (by decide) ?_
        refine lv_goto (tgt := 23) hx hb dX2_has_19 (by decide) ?_
        exact x_retz C0 rfl v hw h dX2_has_23

abbrev rmX1_keepFor : Room := { frames := 1, cells := 0, slots := 0, locals := 21 }
set_option maxRecDepth 100000 in
set_option maxHeartbeats 4000000 in
theorem c_X1_keepFor (l : Launch) (E : EE) (a : Nat → Nat) {v : V}  {p1 : Int32} {p2 : Int32} {post : V → Prop} (h : s_X1_keepFor v p1 p2 post) : KV l E yX1_keepFor wsX1_keepFor rmX1_keepFor [.ref (a 0), .int p1, .int p2] (cM E a v) post (fun u => cM E a u) := by
  unfold s_X1_keepFor at h
  refine KV.go (cc := cX1_keepFor) (ret := none) (maxL := 6) (own := RX1) (by decide) rfl (Nat.le_of_ble_eq_true rfl) rfl (fun p e s m below meth c A ls C0 hw hl => ?_)
  have hx := C0.1
  have hb := C0.2.1
  have hiX1 : ∀ w ∈ wsX10, w ∈ wsX1_keepFor := fun w h => List.mem_cons_of_mem _ (List.mem_append_left _ (List.mem_append_left _ (List.mem_append_right _ h)))
  have hiX2 : ∀ w ∈ wsX20, w ∈ wsX1_keepFor := fun w h => List.mem_cons_of_mem _ (List.mem_append_right _ h)
  have hiX5 : ∀ w ∈ wsX50, w ∈ wsX1_keepFor := fun w h => List.mem_cons_of_mem _ (List.mem_append_left _ (List.mem_append_right _ h))
  replace hl : lv_has ls 6 [(0, .ref (a 0)), (1, .int p1), (2, .int p2)] := hl
  refine lv_aload_n hx hb dX1_keepFor_0 rfl (lv_at hl 0 rfl) ?_
  refine x_get C0 hw 1 hiX1 rfl 0 rfl 1 (by decide) 1 rfl rfl dX1_keepFor_1 ?_
  refine x_getN C0 hw 5 hiX5 rfl 6 rfl 4 (by decide) 7 rfl rfl dX1_keepFor_4 ?_
  refine lv_iload_n hx hb dX1_keepFor_7 rfl (lv_at hl 1 rfl) ?_
  obtain ⟨hin, h⟩ := h
  refine x_ald C0 hw 10 rfl hin dX1_keepFor_8 ?_
  refine lv_istore_n (lv' := [(3, .int (v 10 (tn p1))), (0, .ref (a 0)), (1, .int p1), (2, .int p2)]) hx hb dX1_keepFor_9 rfl hl (by decide) rfl (fun ls hl => ?_)
  refine lv_aload_n hx hb dX1_keepFor_10 rfl (lv_at hl 1 rfl) ?_
  refine x_get C0 hw 1 hiX1 rfl 0 rfl 1 (by decide) 1 rfl rfl dX1_keepFor_11 ?_
  refine x_getN C0 hw 5 hiX5 rfl 6 rfl 5 (by decide) 8 rfl rfl dX1_keepFor_14 ?_
  refine lv_iload_n hx hb dX1_keepFor_17 rfl (lv_at hl 2 rfl) ?_
  obtain ⟨hin, h⟩ := h
  refine x_ald C0 hw 11 rfl hin dX1_keepFor_18 ?_
  refine lv_istore (lv' := [(4, .int (v 11 (tn p1))), (3, .int (v 10 (tn p1))), (0, .ref (a 0)), (1, .int p1), (2, .int p2)]) hx hb dX1_keepFor_19 hl (by decide) rfl (fun ls hl => ?_)
  refine lv_aload_n hx hb dX1_keepFor_21 rfl (lv_at hl 2 rfl) ?_
  refine x_get C0 hw 1 hiX1 rfl 0 rfl 1 (by decide) 1 rfl rfl dX1_keepFor_22 ?_
  refine x_getN C0 hw 5 hiX5 rfl 6 rfl 6 (by decide) 9 rfl rfl dX1_keepFor_25 ?_
  refine lv_iload_n hx hb dX1_keepFor_28 rfl (lv_at hl 3 rfl) ?_
  obtain ⟨hin, h⟩ := h
  refine x_ald C0 hw 12 rfl hin dX1_keepFor_29 ?_
  refine lv_istore (lv' := [(5, .int (v 12 (tn p1))), (4, .int (v 11 (tn p1))), (3, .int (v 10 (tn p1))), (0, .ref (a 0)), (1, .int p1), (2, .int p2)]) hx hb dX1_keepFor_30 hl (by decide) rfl (fun ls hl => ?_)
  refine lv_aload_n hx hb dX1_keepFor_32 rfl (lv_at hl 3 rfl) ?_
  refine lv_iload_n hx hb dX1_keepFor_33 rfl (lv_at hl 2 rfl) ?_
  refine x_cV (As := [.int (v 10 (tn p1))]) (rest := []) (F := []) C0 hw (p_nil _) hl.1 0 1 rfl rfl (c_X1_hasDealer l E a h) 1 gX1_keepFor_X1_hasDealer rfl ⟨rfl, rfl⟩ (by decide +kernel) ⟨Nat.le_of_ble_eq_true rfl, Nat.le_of_ble_eq_true rfl⟩ rfl rfl (Nat.le_of_ble_eq_true rfl) dX1_keepFor_34 ⟨Nat.zero_le _, Nat.zero_le _⟩ (fun r_1 v_2 H locs h (hw : mw E A s.heap H locs (cM E a v_2)) => ?_)
  refine lv_if_eq (tgt := 61) hx hb dX1_keepFor_37 (by decide) (fun c_15 => ?_) (fun c_15 => ?_)
  · replace h := h.1 c_15
    exact x_retv C0 v_2 hw h dX1_keepFor_61
  · replace h := h.2 c_15
    refine lv_aload_n hx hb dX1_keepFor_40 rfl (lv_at hl 3 rfl) ?_
    refine lv_iload hx hb dX1_keepFor_41 (lv_at hl 1 rfl) ?_
    refine x_cV (As := [.int (v 11 (tn p1))]) (rest := []) (F := []) C0 hw (p_nil _) hl.1 0 1 rfl rfl (c_X1_hasDealer l E a h) 1 gX1_keepFor_X1_hasDealer rfl ⟨rfl, rfl⟩ (by decide +kernel) ⟨Nat.le_of_ble_eq_true rfl, Nat.le_of_ble_eq_true rfl⟩ rfl rfl (Nat.le_of_ble_eq_true rfl) dX1_keepFor_43 ⟨Nat.zero_le _, Nat.zero_le _⟩ (fun r_3 v_4 H locs h (hw : mw E A s.heap H locs (cM E a v_4)) => ?_)
    refine lv_if_eq (tgt := 61) hx hb dX1_keepFor_46 (by decide) (fun c_14 => ?_) (fun c_14 => ?_)
    · replace h := h.1 c_14
      exact x_retv C0 v_4 hw h dX1_keepFor_61
    · replace h := h.2 c_14
      refine lv_aload_n hx hb dX1_keepFor_49 rfl (lv_at hl 3 rfl) ?_
      refine x_get C0 hw 1 hiX1 rfl 0 rfl 2 (by decide) 2 rfl rfl dX1_keepFor_50 ?_
      refine lv_iload hx hb dX1_keepFor_53 (lv_at hl 0 rfl) ?_
      refine x_cV (As := [.int (v 12 (tn p1))]) (rest := []) (F := []) C0 hw (p_nil _) hl.1 16 2 rfl rfl (c_X2_has l E a h) 1 gX1_keepFor_X2_has rfl ⟨rfl, rfl⟩ (by decide +kernel) ⟨Nat.le_of_ble_eq_true rfl, Nat.le_of_ble_eq_true rfl⟩ rfl rfl (Nat.le_of_ble_eq_true rfl) dX1_keepFor_55 ⟨Nat.zero_le _, Nat.zero_le _⟩ (fun r_5 v_6 H locs h (hw : mw E A s.heap H locs (cM E a v_6)) => ?_)
      refine lv_if_ne (tgt := 62) hx hb dX1_keepFor_58 (by decide) (fun c_13 => ?_) (fun c_13 => ?_)
      · replace h := h.1 c_13
        refine lv_aload_n hx hb dX1_keepFor_62 rfl (lv_at hl 3 rfl) ?_
        refine x_get C0 hw 1 hiX1 rfl 0 rfl 3 (by decide) 3 rfl rfl dX1_keepFor_63 ?_
        refine lv_iload hx hb dX1_keepFor_66 (lv_at hl 1 rfl) ?_
        refine lv_dup2_11 hx hb dX1_keepFor_68 rfl rfl ?_
        obtain ⟨hin, h⟩ := h
        refine x_ald C0 hw 22 rfl hin dX1_keepFor_69 ?_
        refine lv_iload_n hx hb dX1_keepFor_70 rfl (lv_at hl 5 rfl) ?_
        refine lv_isub hx hb dX1_keepFor_71 ?_
        obtain ⟨hin, h⟩ := h
        refine x_ast (ws' := (cM E a ((st v_6 22 (tn (v 11 (tn p1))) ((v_6 22 (tn (v 11 (tn p1)))) - p2))))) C0 hw 22 rfl hin rfl dX1_keepFor_72 (fun H locs hw => ?_)
        obtain ⟨v_7, e_v_7⟩ : ∃ z, z = st v_6 22 (tn (v 11 (tn p1))) ((v_6 22 (tn (v 11 (tn p1)))) - p2) := ⟨_, rfl⟩
        rw [← e_v_7] at hw
        replace h := h v_7 e_v_7
        refine lv_aload_n hx hb dX1_keepFor_73 rfl (lv_at hl 3 rfl) ?_
        refine x_get C0 hw 1 hiX1 rfl 0 rfl 3 (by decide) 3 rfl rfl dX1_keepFor_74 ?_
        refine lv_iload_n hx hb dX1_keepFor_77 rfl (lv_at hl 2 rfl) ?_
        refine lv_dup2_11 hx hb dX1_keepFor_78 rfl rfl ?_
        obtain ⟨hin, h⟩ := h
        refine x_ald C0 hw 22 rfl hin dX1_keepFor_79 ?_
        refine lv_iload_n hx hb dX1_keepFor_80 rfl (lv_at hl 5 rfl) ?_
        refine lv_iadd hx hb dX1_keepFor_81 ?_
        obtain ⟨hin, h⟩ := h
        refine x_ast (ws' := (cM E a ((st v_7 22 (tn (v 10 (tn p1))) ((v_7 22 (tn (v 10 (tn p1)))) + p2))))) C0 hw 22 rfl hin rfl dX1_keepFor_82 (fun H locs hw => ?_)
        obtain ⟨v_8, e_v_8⟩ : ∃ z, z = st v_7 22 (tn (v 10 (tn p1))) ((v_7 22 (tn (v 10 (tn p1)))) + p2) := ⟨_, rfl⟩
        rw [← e_v_8] at hw
        replace h := h v_8 e_v_8
        refine lv_aload_n hx hb dX1_keepFor_83 rfl (lv_at hl 3 rfl) ?_
        refine x_get C0 hw 1 hiX1 rfl 0 rfl 2 (by decide) 2 rfl rfl dX1_keepFor_84 ?_
        refine x_getN C0 hw 2 hiX2 rfl 16 rfl 5 (by decide) 19 rfl rfl dX1_keepFor_87 ?_
        refine lv_iload hx hb dX1_keepFor_90 (lv_at hl 0 rfl) ?_
        refine lv_dup2_11 hx hb dX1_keepFor_92 rfl rfl ?_
        obtain ⟨hin, h⟩ := h
        refine x_ald C0 hw 21 rfl hin dX1_keepFor_93 ?_
        refine lv_iconst (v := 1) hx hb dX1_keepFor_94 (by decide) ?_
        refine lv_iadd hx hb dX1_keepFor_95 ?_
        obtain ⟨hin, h⟩ := h
        refine x_ast (ws' := (cM E a ((st v_8 21 (tn (v 12 (tn p1))) ((v_8 21 (tn (v 12 (tn p1)))) + 1))))) C0 hw 21 rfl hin rfl dX1_keepFor_96 (fun H locs hw => ?_)
        obtain ⟨v_9, e_v_9⟩ : ∃ z, z = st v_8 21 (tn (v 12 (tn p1))) ((v_8 21 (tn (v 12 (tn p1)))) + 1) := ⟨_, rfl⟩
        rw [← e_v_9] at hw
        replace h := h v_9 e_v_9
        refine lv_aload_n hx hb dX1_keepFor_97 rfl (lv_at hl 3 rfl) ?_
        refine x_get C0 hw 1 hiX1 rfl 0 rfl 1 (by decide) 1 rfl rfl dX1_keepFor_98 ?_
        refine x_getN C0 hw 5 hiX5 rfl 6 rfl 4 (by decide) 7 rfl rfl dX1_keepFor_101 ?_
        refine lv_iload_n hx hb dX1_keepFor_104 rfl (lv_at hl 4 rfl) ?_
        refine lv_iload hx hb dX1_keepFor_105 (lv_at hl 1 rfl) ?_
        obtain ⟨hin, h⟩ := h
        refine x_ast (ws' := (cM E a ((st v_9 10 (tn p1) (v 11 (tn p1)))))) C0 hw 10 rfl hin rfl dX1_keepFor_107 (fun H locs hw => ?_)
        obtain ⟨v_10, e_v_10⟩ : ∃ z, z = st v_9 10 (tn p1) (v 11 (tn p1)) := ⟨_, rfl⟩
        rw [← e_v_10] at hw
        replace h := h v_10 e_v_10
        refine lv_aload_n hx hb dX1_keepFor_108 rfl (lv_at hl 3 rfl) ?_
        refine x_get C0 hw 1 hiX1 rfl 0 rfl 1 (by decide) 1 rfl rfl dX1_keepFor_109 ?_
        refine x_getN C0 hw 5 hiX5 rfl 6 rfl 6 (by decide) 9 rfl rfl dX1_keepFor_112 ?_
        refine lv_iload_n hx hb dX1_keepFor_115 rfl (lv_at hl 4 rfl) ?_
        refine lv_iconst (v := (-1)) hx hb dX1_keepFor_116 (by decide) ?_
        obtain ⟨hin, h⟩ := h
        refine x_ast (ws' := (cM E a ((st v_10 12 (tn p1) (-1))))) C0 hw 12 rfl hin rfl dX1_keepFor_117 (fun H locs hw => ?_)
        obtain ⟨v_11, e_v_11⟩ : ∃ z, z = st v_10 12 (tn p1) (-1) := ⟨_, rfl⟩
        rw [← e_v_11] at hw
        replace h := h v_11 e_v_11
        refine lv_aload_n hx hb dX1_keepFor_118 rfl (lv_at hl 3 rfl) ?_
        refine x_get C0 hw 1 hiX1 rfl 0 rfl 1 (by decide) 1 rfl rfl dX1_keepFor_119 ?_
        refine x_getN C0 hw 5 hiX5 rfl 6 rfl 9 (by decide) 12 rfl rfl dX1_keepFor_122 ?_
        refine lv_iload_n hx hb dX1_keepFor_125 rfl (lv_at hl 4 rfl) ?_
        refine lv_dup2_11 hx hb dX1_keepFor_126 rfl rfl ?_
        obtain ⟨hin, h⟩ := h
        refine x_ald C0 hw 15 rfl hin dX1_keepFor_127 ?_
        refine lv_iconst (v := 1) hx hb dX1_keepFor_128 (by decide) ?_
        refine lv_iadd hx hb dX1_keepFor_129 ?_
        obtain ⟨hin, h⟩ := h
        refine x_ast (ws' := (cM E a ((st v_11 15 (tn p1) ((v_11 15 (tn p1)) + 1))))) C0 hw 15 rfl hin rfl dX1_keepFor_130 (fun H locs hw => ?_)
        obtain ⟨v_12, e_v_12⟩ : ∃ z, z = st v_11 15 (tn p1) ((v_11 15 (tn p1)) + 1) := ⟨_, rfl⟩
        rw [← e_v_12] at hw
        replace h := h v_12 e_v_12
        exact x_retv C0 v_12 hw h dX1_keepFor_131
      · replace h := h.2 c_13
        exact x_retv C0 v_6 hw h dX1_keepFor_61

abbrev rmX1_keepStone : Room := { frames := 2, cells := 0, slots := 0, locals := 46 }
set_option maxRecDepth 100000 in
set_option maxHeartbeats 4000000 in
theorem c_X1_keepStone (l : Launch) (E : EE) (a : Nat → Nat) {v : V}  {p1 : Int32} {post : Int32 → V → Prop} (h : s_X1_keepStone v p1 post) : KI l E yX1_keepStone wsX1_keepStone rmX1_keepStone [.ref (a 0), .int p1] (cM E a v) post (fun u => cM E a u) := by
  unfold s_X1_keepStone at h
  refine KI.go (cc := cX1_keepStone) (ret := (some .int)) (maxL := 3) (own := RX1) (by decide) rfl (Nat.le_of_ble_eq_true rfl) rfl (fun p e s m below meth c A ls C0 hw hl => ?_)
  have hx := C0.1
  have hb := C0.2.1
  have hiX1 : ∀ w ∈ wsX10, w ∈ wsX1_keepStone := fun w h => List.mem_cons_of_mem _ (List.mem_append_left _ (List.mem_append_left _ (List.mem_append_right _ h)))
  have hiX5 : ∀ w ∈ wsX50, w ∈ wsX1_keepStone := fun w h => List.mem_cons_of_mem _ (List.mem_append_left _ (List.mem_append_right _ h))
  replace hl : lv_has ls 3 [(0, .ref (a 0)), (1, .int p1)] := hl
  refine lv_aload_n hx hb dX1_keepStone_0 rfl (lv_at hl 0 rfl) ?_
  refine x_get C0 hw 1 hiX1 rfl 0 rfl 1 (by decide) 1 rfl rfl dX1_keepStone_1 ?_
  refine lv_iload_n hx hb dX1_keepStone_4 rfl (lv_at hl 1 rfl) ?_
  refine x_cV (As := [.int p1]) (rest := []) (F := []) C0 hw (p_nil _) hl.1 6 5 rfl rfl (c_X5_has l E a h) 1 gX1_keepStone_X5_has rfl ⟨rfl, rfl⟩ (by decide +kernel) ⟨Nat.le_of_ble_eq_true rfl, Nat.le_of_ble_eq_true rfl⟩ rfl rfl (Nat.le_of_ble_eq_true rfl) dX1_keepStone_5 ⟨Nat.zero_le _, Nat.zero_le _⟩ (fun r_1 v_2 H locs h (hw : mw E A s.heap H locs (cM E a v_2)) => ?_)
  refine lv_if_ne (tgt := 14) hx hb dX1_keepStone_8 (by decide) (fun c_7 => ?_) (fun c_7 => ?_)
  · replace h := h.1 c_7
    refine lv_aload_n hx hb dX1_keepStone_14 rfl (lv_at hl 0 rfl) ?_
    refine x_get C0 hw 1 hiX1 rfl 0 rfl 1 (by decide) 1 rfl rfl dX1_keepStone_15 ?_
    refine lv_iload_n hx hb dX1_keepStone_18 rfl (lv_at hl 1 rfl) ?_
    refine x_cV (As := [.int p1]) (rest := []) (F := []) C0 hw (p_nil _) hl.1 6 5 rfl rfl (c_X5_isOut l E a h) 1 gX1_keepStone_X5_isOut rfl ⟨rfl, rfl⟩ (by decide +kernel) ⟨Nat.le_of_ble_eq_true rfl, Nat.le_of_ble_eq_true rfl⟩ rfl rfl (Nat.le_of_ble_eq_true rfl) dX1_keepStone_19 ⟨Nat.zero_le _, Nat.zero_le _⟩ (fun r_3 v_4 H locs h (hw : mw E A s.heap H locs (cM E a v_4)) => ?_)
    refine lv_if_ne (tgt := 28) hx hb dX1_keepStone_22 (by decide) (fun c_6 => ?_) (fun c_6 => ?_)
    · replace h := h.1 c_6
      refine lv_aload_n hx hb dX1_keepStone_28 rfl (lv_at hl 0 rfl) ?_
      refine x_get C0 hw 1 hiX1 rfl 0 rfl 1 (by decide) 1 rfl rfl dX1_keepStone_29 ?_
      refine x_getN C0 hw 5 hiX5 rfl 6 rfl 7 (by decide) 10 rfl rfl dX1_keepStone_32 ?_
      refine lv_iload_n hx hb dX1_keepStone_35 rfl (lv_at hl 1 rfl) ?_
      obtain ⟨hin, h⟩ := h
      refine x_ald C0 hw 13 rfl hin dX1_keepStone_36 ?_
      refine lv_istore_n (lv' := [(2, .int (v_4 13 (tn p1))), (0, .ref (a 0)), (1, .int p1)]) hx hb dX1_keepStone_37 rfl hl (by decide) rfl (fun ls hl => ?_)
      refine lv_aload_n hx hb dX1_keepStone_38 rfl (lv_at hl 1 rfl) ?_
      refine lv_iload_n hx hb dX1_keepStone_39 rfl (lv_at hl 2 rfl) ?_
      refine lv_iload_n hx hb dX1_keepStone_40 rfl (lv_at hl 0 rfl) ?_
      refine x_cVv (As := [.int p1, .int (v_4 13 (tn p1))]) (rest := []) (F := []) C0 hw (p_nil _) hl.1 0 1 rfl rfl (c_X1_keepFor l E a h) 2 gX1_keepStone_X1_keepFor rfl ⟨rfl, rfl⟩ (by decide +kernel) ⟨Nat.le_of_ble_eq_true rfl, Nat.le_of_ble_eq_true rfl⟩ rfl rfl (Nat.le_of_ble_eq_true rfl) dX1_keepStone_41 ⟨Nat.zero_le _, Nat.zero_le _⟩ (fun v_5 H locs h (hw : mw E A s.heap H locs (cM E a v_5)) => ?_)
      refine lv_iload_n hx hb dX1_keepStone_44 rfl (lv_at hl 0 rfl) ?_
      exact x_ret C0 v_5 hw h dX1_keepStone_45
    · replace h := h.2 c_6
      refine x_ldc (v := (-10000002)) C0 3 rfl dX1_keepStone_25 ?_
      exact x_ret C0 v_4 hw h dX1_keepStone_27
  · replace h := h.2 c_7
    refine x_ldc (v := (-10000001)) C0 2 rfl dX1_keepStone_11 ?_
    exact x_ret C0 v_2 hw h dX1_keepStone_13

abbrev rmX5_isSold : Room := { frames := 0, cells := 0, slots := 0, locals := 0 }
set_option maxRecDepth 100000 in
set_option maxHeartbeats 4000000 in
theorem c_X5_isSold (l : Launch) (E : EE) (a : Nat → Nat) {v : V}  {p1 : Int32} {post : Int32 → V → Prop} (h : s_X5_isSold v p1 post) : KI l E yX5_isSold wsX5_isSold rmX5_isSold [.ref (a 6), .int p1] (cM E a v) post (fun u => cM E a u) := by
  unfold s_X5_isSold at h
  refine KI.go (cc := cX5_isSold) (ret := (some .boolean)) (maxL := 2) (own := RX5) (by decide) rfl (Nat.le_of_ble_eq_true rfl) rfl (fun p e s m below meth c A ls C0 hw hl => ?_)
  have hx := C0.1
  have hb := C0.2.1
  have hiX5 : ∀ w ∈ wsX50, w ∈ wsX5_isSold := fun w h => List.mem_cons_of_mem _ (List.mem_append_right _ h)
  replace hl : lv_has ls 2 [(0, .ref (a 6)), (1, .int p1)] := hl
  refine lv_aload_n hx hb dX5_isSold_0 rfl (lv_at hl 0 rfl) ?_
  refine x_get C0 hw 5 hiX5 rfl 6 rfl 8 (by decide) 1 rfl rfl dX5_isSold_1 ?_
  refine lv_iload_n hx hb dX5_isSold_4 rfl (lv_at hl 1 rfl) ?_
  obtain ⟨hin, h⟩ := h
  refine x_ald C0 hw 14 rfl hin dX5_isSold_5 ?_
  refine lv_if_eq (tgt := 13) hx hb dX5_isSold_6 (by decide) (fun c_1 => ?_) (fun c_1 => ?_)
  · replace h := h.1 c_1
    refine lv_iconst (v := 0) hx hb dX5_isSold_13 (by decide) ?_
    exact x_retz C0 rfl v hw h dX5_isSold_14
  · replace h := h.2 c_1
    refine lv_iconst (v := 1) hx hb dX5_isSold_9 (by decide) ?_
    refine lv_goto (tgt := 14) hx hb dX5_isSold_10 (by decide) ?_
    exact x_retz C0 rfl v hw h dX5_isSold_14

abbrev rmX1_sellStone : Room := { frames := 1, cells := 0, slots := 0, locals := 21 }
set_option maxRecDepth 100000 in
set_option maxHeartbeats 4000000 in
theorem c_X1_sellStone (l : Launch) (E : EE) (a : Nat → Nat) {v : V}  {p1 : Int32} {p2 : Int32} {post : Int32 → V → Prop} (h : s_X1_sellStone v p1 p2 post) : KI l E yX1_sellStone wsX1_sellStone rmX1_sellStone [.ref (a 0), .int p1, .int p2] (cM E a v) post (fun u => cM E a u) := by
  unfold s_X1_sellStone at h
  refine KI.go (cc := cX1_sellStone) (ret := (some .int)) (maxL := 4) (own := RX1) (by decide) rfl (Nat.le_of_ble_eq_true rfl) rfl (fun p e s m below meth c A ls C0 hw hl => ?_)
  have hx := C0.1
  have hb := C0.2.1
  have hiX1 : ∀ w ∈ wsX10, w ∈ wsX1_sellStone := fun w h => List.mem_cons_of_mem _ (List.mem_append_left _ (List.mem_append_right _ h))
  have hiX5 : ∀ w ∈ wsX50, w ∈ wsX1_sellStone := fun w h => List.mem_cons_of_mem _ (List.mem_append_right _ h)
  replace hl : lv_has ls 4 [(0, .ref (a 0)), (1, .int p1), (2, .int p2)] := hl
  refine lv_aload_n hx hb dX1_sellStone_0 rfl (lv_at hl 0 rfl) ?_
  refine x_get C0 hw 1 hiX1 rfl 0 rfl 1 (by decide) 1 rfl rfl dX1_sellStone_1 ?_
  refine lv_iload_n hx hb dX1_sellStone_4 rfl (lv_at hl 1 rfl) ?_
  refine x_cV (As := [.int p1]) (rest := []) (F := []) C0 hw (p_nil _) hl.1 6 5 rfl rfl (c_X5_has l E a h) 1 gX1_sellStone_X5_has rfl ⟨rfl, rfl⟩ (by decide +kernel) ⟨Nat.le_of_ble_eq_true rfl, Nat.le_of_ble_eq_true rfl⟩ rfl rfl (Nat.le_of_ble_eq_true rfl) dX1_sellStone_5 ⟨Nat.zero_le _, Nat.zero_le _⟩ (fun r_1 v_2 H locs h (hw : mw E A s.heap H locs (cM E a v_2)) => ?_)
  refine lv_if_eq (tgt := 23) hx hb dX1_sellStone_8 (by decide) (fun c_18 => ?_) (fun c_18 => ?_)
  · replace h := h.1 c_18
    refine x_ldc (v := (-10000001)) C0 2 rfl dX1_sellStone_23 ?_
    exact x_ret C0 v_2 hw h dX1_sellStone_25
  · replace h := h.2 c_18
    refine lv_iload_n hx hb dX1_sellStone_11 rfl (lv_at hl 2 rfl) ?_
    refine lv_iconst (v := 1) hx hb dX1_sellStone_12 (by decide) ?_
    refine lv_icmp_lt (tgt := 23) hx hb dX1_sellStone_13 (by decide) (fun c_17 => ?_) (fun c_17 => ?_)
    · replace h := h.1 c_17
      refine x_ldc (v := (-10000001)) C0 2 rfl dX1_sellStone_23 ?_
      exact x_ret C0 v_2 hw h dX1_sellStone_25
    · replace h := h.2 c_17
      refine lv_iload_n hx hb dX1_sellStone_16 rfl (lv_at hl 2 rfl) ?_
      refine lv_sipush (v := 9999) hx hb dX1_sellStone_17 (by decide) ?_
      refine lv_icmp_le (tgt := 26) hx hb dX1_sellStone_20 (by decide) (fun c_16 => ?_) (fun c_16 => ?_)
      · replace h := h.1 c_16
        refine lv_aload_n hx hb dX1_sellStone_26 rfl (lv_at hl 0 rfl) ?_
        refine x_get C0 hw 1 hiX1 rfl 0 rfl 1 (by decide) 1 rfl rfl dX1_sellStone_27 ?_
        refine x_getN C0 hw 5 hiX5 rfl 6 rfl 4 (by decide) 7 rfl rfl dX1_sellStone_30 ?_
        refine lv_iload_n hx hb dX1_sellStone_33 rfl (lv_at hl 1 rfl) ?_
        obtain ⟨hin, h⟩ := h
        refine x_ald C0 hw 10 rfl hin dX1_sellStone_34 ?_
        refine lv_istore_n (lv' := [(3, .int (v_2 10 (tn p1))), (0, .ref (a 0)), (1, .int p1), (2, .int p2)]) hx hb dX1_sellStone_35 rfl hl (by decide) rfl (fun ls hl => ?_)
        refine lv_aload_n hx hb dX1_sellStone_36 rfl (lv_at hl 1 rfl) ?_
        refine x_get C0 hw 1 hiX1 rfl 0 rfl 1 (by decide) 1 rfl rfl dX1_sellStone_37 ?_
        refine lv_iload_n hx hb dX1_sellStone_40 rfl (lv_at hl 2 rfl) ?_
        refine x_cV (As := [.int p1]) (rest := []) (F := []) C0 hw (p_nil _) hl.1 6 5 rfl rfl (c_X5_isOut l E a h) 1 gX1_sellStone_X5_isOut rfl ⟨rfl, rfl⟩ (by decide +kernel) ⟨Nat.le_of_ble_eq_true rfl, Nat.le_of_ble_eq_true rfl⟩ rfl rfl (Nat.le_of_ble_eq_true rfl) dX1_sellStone_41 ⟨Nat.zero_le _, Nat.zero_le _⟩ (fun r_3 v_4 H locs h (hw : mw E A s.heap H locs (cM E a v_4)) => ?_)
        refine lv_if_ne (tgt := 66) hx hb dX1_sellStone_44 (by decide) (fun c_15 => ?_) (fun c_15 => ?_)
        · replace h := h.1 c_15
          refine x_ldc (v := (-10000002)) C0 3 rfl dX1_sellStone_66 ?_
          exact x_ret C0 v_4 hw h dX1_sellStone_68
        · replace h := h.2 c_15
          refine lv_aload_n hx hb dX1_sellStone_47 rfl (lv_at hl 1 rfl) ?_
          refine x_get C0 hw 1 hiX1 rfl 0 rfl 1 (by decide) 1 rfl rfl dX1_sellStone_48 ?_
          refine lv_iload_n hx hb dX1_sellStone_51 rfl (lv_at hl 2 rfl) ?_
          refine x_cV (As := [.int p1]) (rest := []) (F := []) C0 hw (p_nil _) hl.1 6 5 rfl rfl (c_X5_isSold l E a h) 1 gX1_sellStone_X5_isSold rfl ⟨rfl, rfl⟩ (by decide +kernel) ⟨Nat.le_of_ble_eq_true rfl, Nat.le_of_ble_eq_true rfl⟩ rfl rfl (Nat.le_of_ble_eq_true rfl) dX1_sellStone_52 ⟨Nat.zero_le _, Nat.zero_le _⟩ (fun r_5 v_6 H locs h (hw : mw E A s.heap H locs (cM E a v_6)) => ?_)
          refine lv_if_ne (tgt := 66) hx hb dX1_sellStone_55 (by decide) (fun c_14 => ?_) (fun c_14 => ?_)
          · replace h := h.1 c_14
            refine x_ldc (v := (-10000002)) C0 3 rfl dX1_sellStone_66 ?_
            exact x_ret C0 v_6 hw h dX1_sellStone_68
          · replace h := h.2 c_14
            refine lv_aload_n hx hb dX1_sellStone_58 rfl (lv_at hl 1 rfl) ?_
            refine lv_iload_n hx hb dX1_sellStone_59 rfl (lv_at hl 0 rfl) ?_
            refine x_cV (As := [.int (v_2 10 (tn p1))]) (rest := []) (F := []) C0 hw (p_nil _) hl.1 0 1 rfl rfl (c_X1_hasDealer l E a h) 1 gX1_sellStone_X1_hasDealer rfl ⟨rfl, rfl⟩ (by decide +kernel) ⟨Nat.le_of_ble_eq_true rfl, Nat.le_of_ble_eq_true rfl⟩ rfl rfl (Nat.le_of_ble_eq_true rfl) dX1_sellStone_60 ⟨Nat.zero_le _, Nat.zero_le _⟩ (fun r_7 v_8 H locs h (hw : mw E A s.heap H locs (cM E a v_8)) => ?_)
            refine lv_if_ne (tgt := 69) hx hb dX1_sellStone_63 (by decide) (fun c_13 => ?_) (fun c_13 => ?_)
            · replace h := h.1 c_13
              refine lv_aload_n hx hb dX1_sellStone_69 rfl (lv_at hl 1 rfl) ?_
              refine x_get C0 hw 1 hiX1 rfl 0 rfl 1 (by decide) 1 rfl rfl dX1_sellStone_70 ?_
              refine x_getN C0 hw 5 hiX5 rfl 6 rfl 8 (by decide) 11 rfl rfl dX1_sellStone_73 ?_
              refine lv_iload_n hx hb dX1_sellStone_76 rfl (lv_at hl 2 rfl) ?_
              refine lv_iload_n hx hb dX1_sellStone_77 rfl (lv_at hl 3 rfl) ?_
              obtain ⟨hin, h⟩ := h
              refine x_ast (ws' := (cM E a ((st v_8 14 (tn p1) p2)))) C0 hw 14 rfl hin rfl dX1_sellStone_78 (fun H locs hw => ?_)
              obtain ⟨v_9, e_v_9⟩ : ∃ z, z = st v_8 14 (tn p1) p2 := ⟨_, rfl⟩
              rw [← e_v_9] at hw
              replace h := h v_9 e_v_9
              refine lv_aload_n hx hb dX1_sellStone_79 rfl (lv_at hl 1 rfl) ?_
              refine x_get C0 hw 1 hiX1 rfl 0 rfl 1 (by decide) 1 rfl rfl dX1_sellStone_80 ?_
              refine x_getN C0 hw 5 hiX5 rfl 6 rfl 4 (by decide) 7 rfl rfl dX1_sellStone_83 ?_
              refine lv_iload_n hx hb dX1_sellStone_86 rfl (lv_at hl 2 rfl) ?_
              refine lv_iconst (v := (-1)) hx hb dX1_sellStone_87 (by decide) ?_
              obtain ⟨hin, h⟩ := h
              refine x_ast (ws' := (cM E a ((st v_9 10 (tn p1) (-1))))) C0 hw 10 rfl hin rfl dX1_sellStone_88 (fun H locs hw => ?_)
              obtain ⟨v_10, e_v_10⟩ : ∃ z, z = st v_9 10 (tn p1) (-1) := ⟨_, rfl⟩
              rw [← e_v_10] at hw
              replace h := h v_10 e_v_10
              refine lv_aload_n hx hb dX1_sellStone_89 rfl (lv_at hl 1 rfl) ?_
              refine x_get C0 hw 1 hiX1 rfl 0 rfl 1 (by decide) 1 rfl rfl dX1_sellStone_90 ?_
              refine x_getN C0 hw 5 hiX5 rfl 6 rfl 5 (by decide) 8 rfl rfl dX1_sellStone_93 ?_
              refine lv_iload_n hx hb dX1_sellStone_96 rfl (lv_at hl 2 rfl) ?_
              refine lv_iconst (v := (-1)) hx hb dX1_sellStone_97 (by decide) ?_
              obtain ⟨hin, h⟩ := h
              refine x_ast (ws' := (cM E a ((st v_10 11 (tn p1) (-1))))) C0 hw 11 rfl hin rfl dX1_sellStone_98 (fun H locs hw => ?_)
              obtain ⟨v_11, e_v_11⟩ : ∃ z, z = st v_10 11 (tn p1) (-1) := ⟨_, rfl⟩
              rw [← e_v_11] at hw
              replace h := h v_11 e_v_11
              refine lv_aload_n hx hb dX1_sellStone_99 rfl (lv_at hl 1 rfl) ?_
              refine x_get C0 hw 1 hiX1 rfl 0 rfl 3 (by decide) 4 rfl rfl dX1_sellStone_100 ?_
              refine lv_iload_n hx hb dX1_sellStone_103 rfl (lv_at hl 0 rfl) ?_
              refine lv_dup2_11 hx hb dX1_sellStone_104 rfl rfl ?_
              obtain ⟨hin, h⟩ := h
              refine x_ald C0 hw 22 rfl hin dX1_sellStone_105 ?_
              refine lv_iload_n hx hb dX1_sellStone_106 rfl (lv_at hl 3 rfl) ?_
              refine lv_iadd hx hb dX1_sellStone_107 ?_
              obtain ⟨hin, h⟩ := h
              refine x_ast (ws' := (cM E a ((st v_11 22 (tn (v_2 10 (tn p1))) ((v_11 22 (tn (v_2 10 (tn p1)))) + p2))))) C0 hw 22 rfl hin rfl dX1_sellStone_108 (fun H locs hw => ?_)
              obtain ⟨v_12, e_v_12⟩ : ∃ z, z = st v_11 22 (tn (v_2 10 (tn p1))) ((v_11 22 (tn (v_2 10 (tn p1)))) + p2) := ⟨_, rfl⟩
              rw [← e_v_12] at hw
              replace h := h v_12 e_v_12
              refine lv_aload_n hx hb dX1_sellStone_109 rfl (lv_at hl 1 rfl) ?_
              refine x_get C0 hw 1 hiX1 rfl 0 rfl 3 (by decide) 4 rfl rfl dX1_sellStone_110 ?_
              refine lv_iload_n hx hb dX1_sellStone_113 rfl (lv_at hl 0 rfl) ?_
              obtain ⟨hin, h⟩ := h
              refine x_ald C0 hw 22 rfl hin dX1_sellStone_114 ?_
              refine x_ldc (v := 100000000) C0 5 rfl dX1_sellStone_115 ?_
              refine lv_iadd hx hb dX1_sellStone_117 ?_
              exact x_ret C0 v_12 hw h dX1_sellStone_118
            · replace h := h.2 c_13
              refine x_ldc (v := (-10000002)) C0 3 rfl dX1_sellStone_66 ?_
              exact x_ret C0 v_8 hw h dX1_sellStone_68
      · replace h := h.2 c_16
        refine x_ldc (v := (-10000001)) C0 2 rfl dX1_sellStone_23 ?_
        exact x_ret C0 v_2 hw h dX1_sellStone_25

abbrev rmX1_regrade : Room := { frames := 2, cells := 0, slots := 0, locals := 47 }
set_option maxRecDepth 100000 in
set_option maxHeartbeats 4000000 in
theorem c_X1_regrade (l : Launch) (E : EE) (a : Nat → Nat) {v : V}  {p1 : Int32} {p2 : Int32} {p3 : Int32} {post : Int32 → V → Prop} (h : s_X1_regrade v p1 p2 p3 post) : KI l E yX1_regrade wsX1_regrade rmX1_regrade [.ref (a 0), .int p1, .int p2, .int p3] (cM E a v) post (fun u => cM E a u) := by
  unfold s_X1_regrade at h
  refine KI.go (cc := cX1_regrade) (ret := (some .int)) (maxL := 6) (own := RX1) (by decide) rfl (Nat.le_of_ble_eq_true rfl) rfl (fun p e s m below meth c A ls C0 hw hl => ?_)
  have hx := C0.1
  have hb := C0.2.1
  have hiX1 : ∀ w ∈ wsX10, w ∈ wsX1_regrade := fun w h => List.mem_cons_of_mem _ (List.mem_append_left _ (List.mem_append_left _ (List.mem_append_right _ h)))
  have hiX5 : ∀ w ∈ wsX50, w ∈ wsX1_regrade := fun w h => List.mem_cons_of_mem _ (List.mem_append_left _ (List.mem_append_right _ h))
  replace hl : lv_has ls 6 [(0, .ref (a 0)), (1, .int p1), (2, .int p2), (3, .int p3)] := hl
  refine lv_aload_n hx hb dX1_regrade_0 rfl (lv_at hl 0 rfl) ?_
  refine x_get C0 hw 1 hiX1 rfl 0 rfl 1 (by decide) 1 rfl rfl dX1_regrade_1 ?_
  refine lv_iload_n hx hb dX1_regrade_4 rfl (lv_at hl 1 rfl) ?_
  refine x_cV (As := [.int p1]) (rest := []) (F := []) C0 hw (p_nil _) hl.1 6 5 rfl rfl (c_X5_has l E a h) 1 gX1_regrade_X5_has rfl ⟨rfl, rfl⟩ (by decide +kernel) ⟨Nat.le_of_ble_eq_true rfl, Nat.le_of_ble_eq_true rfl⟩ rfl rfl (Nat.le_of_ble_eq_true rfl) dX1_regrade_5 ⟨Nat.zero_le _, Nat.zero_le _⟩ (fun r_1 v_2 H locs h (hw : mw E A s.heap H locs (cM E a v_2)) => ?_)
  refine lv_if_eq (tgt := 19) hx hb dX1_regrade_8 (by decide) (fun c_18 => ?_) (fun c_18 => ?_)
  · replace h := h.1 c_18
    refine x_ldc (v := (-10000001)) C0 2 rfl dX1_regrade_19 ?_
    exact x_ret C0 v_2 hw h dX1_regrade_21
  · replace h := h.2 c_18
    refine lv_iload_n hx hb dX1_regrade_11 rfl (lv_at hl 2 rfl) ?_
    refine lv_iload_n hx hb dX1_regrade_12 rfl (lv_at hl 3 rfl) ?_
    refine x_cSN (As := [.int p2, .int p3]) (rest := []) (F := (cM E a v_2)) C0 hw (p_non _) hl.1 (c_X6_isLook l E  h) 2 gX1_regrade_X6_isLook_n73 rfl ⟨rfl, rfl⟩ 29 rfl 11 rfl 10 rfl (by decide +kernel) ⟨Nat.le_of_ble_eq_true rfl, Nat.le_of_ble_eq_true rfl⟩ rfl rfl (Nat.le_of_ble_eq_true rfl) dX1_regrade_13 ⟨Nat.zero_le _, Nat.zero_le _⟩ (fun r_3 _u H locs h (hw : mw E A s.heap H locs (cM E a v_2)) => ?_)
    refine lv_if_ne (tgt := 22) hx hb dX1_regrade_16 (by decide) (fun c_16 => ?_) (fun c_16 => ?_)
    · replace h := h.1 c_16
      refine lv_aload_n hx hb dX1_regrade_22 rfl (lv_at hl 0 rfl) ?_
      refine x_get C0 hw 1 hiX1 rfl 0 rfl 1 (by decide) 1 rfl rfl dX1_regrade_23 ?_
      refine lv_iload_n hx hb dX1_regrade_26 rfl (lv_at hl 1 rfl) ?_
      refine x_cV (As := [.int p1]) (rest := []) (F := []) C0 hw (p_nil _) hl.1 6 5 rfl rfl (c_X5_isSold l E a h) 1 gX1_regrade_X5_isSold rfl ⟨rfl, rfl⟩ (by decide +kernel) ⟨Nat.le_of_ble_eq_true rfl, Nat.le_of_ble_eq_true rfl⟩ rfl rfl (Nat.le_of_ble_eq_true rfl) dX1_regrade_27 ⟨Nat.zero_le _, Nat.zero_le _⟩ (fun r_4 v_5 H locs h (hw : mw E A s.heap H locs (cM E a v_5)) => ?_)
      refine lv_if_eq (tgt := 36) hx hb dX1_regrade_30 (by decide) (fun c_15 => ?_) (fun c_15 => ?_)
      · replace h := h.1 c_15
        refine lv_bipush (v := 10) hx hb dX1_regrade_36 (by decide) ?_
        refine lv_aload_n hx hb dX1_regrade_38 rfl (lv_at hl 0 rfl) ?_
        refine x_get C0 hw 1 hiX1 rfl 0 rfl 1 (by decide) 1 rfl rfl dX1_regrade_39 ?_
        refine x_getN C0 hw 5 hiX5 rfl 6 rfl 2 (by decide) 5 rfl rfl dX1_regrade_42 ?_
        refine lv_iload_n hx hb dX1_regrade_45 rfl (lv_at hl 1 rfl) ?_
        obtain ⟨hin, h⟩ := h
        refine x_ald C0 hw 8 rfl hin dX1_regrade_46 ?_
        refine lv_imul hx hb dX1_regrade_47 ?_
        refine lv_aload_n hx hb dX1_regrade_48 rfl (lv_at hl 0 rfl) ?_
        refine x_get C0 hw 1 hiX1 rfl 0 rfl 1 (by decide) 1 rfl rfl dX1_regrade_49 ?_
        refine x_getN C0 hw 5 hiX5 rfl 6 rfl 3 (by decide) 6 rfl rfl dX1_regrade_52 ?_
        refine lv_iload_n hx hb dX1_regrade_55 rfl (lv_at hl 1 rfl) ?_
        obtain ⟨hin, h⟩ := h
        refine x_ald C0 hw 9 rfl hin dX1_regrade_56 ?_
        refine lv_iadd hx hb dX1_regrade_57 ?_
        refine lv_istore (lv' := [(4, .int ((10 * (v_5 8 (tn p1))) + (v_5 9 (tn p1)))), (0, .ref (a 0)), (1, .int p1), (2, .int p2), (3, .int p3)]) hx hb dX1_regrade_58 hl (by decide) rfl (fun ls hl => ?_)
        refine lv_aload_n hx hb dX1_regrade_60 rfl (lv_at hl 1 rfl) ?_
        refine x_get C0 hw 1 hiX1 rfl 0 rfl 1 (by decide) 1 rfl rfl dX1_regrade_61 ?_
        refine x_getN C0 hw 5 hiX5 rfl 6 rfl 2 (by decide) 5 rfl rfl dX1_regrade_64 ?_
        refine lv_iload_n hx hb dX1_regrade_67 rfl (lv_at hl 2 rfl) ?_
        refine lv_iload_n hx hb dX1_regrade_68 rfl (lv_at hl 3 rfl) ?_
        obtain ⟨hin, h⟩ := h
        refine x_ast (ws' := (cM E a ((st v_5 8 (tn p1) p2)))) C0 hw 8 rfl hin rfl dX1_regrade_69 (fun H locs hw => ?_)
        obtain ⟨v_6, e_v_6⟩ : ∃ z, z = st v_5 8 (tn p1) p2 := ⟨_, rfl⟩
        rw [← e_v_6] at hw
        replace h := h v_6 e_v_6
        refine lv_aload_n hx hb dX1_regrade_70 rfl (lv_at hl 1 rfl) ?_
        refine x_get C0 hw 1 hiX1 rfl 0 rfl 1 (by decide) 1 rfl rfl dX1_regrade_71 ?_
        refine x_getN C0 hw 5 hiX5 rfl 6 rfl 3 (by decide) 6 rfl rfl dX1_regrade_74 ?_
        refine lv_iload_n hx hb dX1_regrade_77 rfl (lv_at hl 2 rfl) ?_
        refine lv_iload_n hx hb dX1_regrade_78 rfl (lv_at hl 4 rfl) ?_
        obtain ⟨hin, h⟩ := h
        refine x_ast (ws' := (cM E a ((st v_6 9 (tn p1) p3)))) C0 hw 9 rfl hin rfl dX1_regrade_79 (fun H locs hw => ?_)
        obtain ⟨v_7, e_v_7⟩ : ∃ z, z = st v_6 9 (tn p1) p3 := ⟨_, rfl⟩
        rw [← e_v_7] at hw
        replace h := h v_7 e_v_7
        refine lv_aload_n hx hb dX1_regrade_80 rfl (lv_at hl 1 rfl) ?_
        refine lv_iload_n hx hb dX1_regrade_81 rfl (lv_at hl 2 rfl) ?_
        refine x_cV (As := [.int p1]) (rest := []) (F := []) C0 hw (p_nil _) hl.1 0 1 rfl rfl (c_X1_priceOf l E a h) 1 gX1_regrade_X1_priceOf rfl ⟨rfl, rfl⟩ (by decide +kernel) ⟨Nat.le_of_ble_eq_true rfl, Nat.le_of_ble_eq_true rfl⟩ rfl rfl (Nat.le_of_ble_eq_true rfl) dX1_regrade_82 ⟨Nat.zero_le _, Nat.zero_le _⟩ (fun r_8 v_9 H locs h (hw : mw E A s.heap H locs (cM E a v_9)) => ?_)
        refine lv_istore (lv' := [(5, .int r_8), (4, .int ((10 * (v_5 8 (tn p1))) + (v_5 9 (tn p1)))), (0, .ref (a 0)), (1, .int p1), (2, .int p2), (3, .int p3)]) hx hb dX1_regrade_85 hl (by decide) rfl (fun ls hl => ?_)
        refine lv_aload_n hx hb dX1_regrade_87 rfl (lv_at hl 2 rfl) ?_
        refine x_get C0 hw 1 hiX1 rfl 0 rfl 1 (by decide) 1 rfl rfl dX1_regrade_88 ?_
        refine lv_iload_n hx hb dX1_regrade_91 rfl (lv_at hl 3 rfl) ?_
        refine x_cV (As := [.int p1]) (rest := []) (F := []) C0 hw (p_nil _) hl.1 6 5 rfl rfl (c_X5_isOut l E a h) 1 gX1_regrade_X5_isOut rfl ⟨rfl, rfl⟩ (by decide +kernel) ⟨Nat.le_of_ble_eq_true rfl, Nat.le_of_ble_eq_true rfl⟩ rfl rfl (Nat.le_of_ble_eq_true rfl) dX1_regrade_92 ⟨Nat.zero_le _, Nat.zero_le _⟩ (fun r_10 v_11 H locs h (hw : mw E A s.heap H locs (cM E a v_11)) => ?_)
        refine lv_if_eq (tgt := 115) hx hb dX1_regrade_95 (by decide) (fun c_14 => ?_) (fun c_14 => ?_)
        · replace h := h.1 c_14
          refine lv_iload hx hb dX1_regrade_115 (lv_at hl 1 rfl) ?_
          exact x_ret C0 v_11 hw h dX1_regrade_117
        · replace h := h.2 c_14
          refine lv_iload hx hb dX1_regrade_98 (lv_at hl 0 rfl) ?_
          refine lv_iconst (v := (-1)) hx hb dX1_regrade_100 (by decide) ?_
          refine lv_icmp_eq (tgt := 115) hx hb dX1_regrade_101 (by decide) (fun c_13 => ?_) (fun c_13 => ?_)
          · replace h := h.1 c_13
            refine lv_iload hx hb dX1_regrade_115 (lv_at hl 1 rfl) ?_
            exact x_ret C0 v_11 hw h dX1_regrade_117
          · replace h := h.2 c_13
            refine lv_aload_n hx hb dX1_regrade_104 rfl (lv_at hl 2 rfl) ?_
            refine x_get C0 hw 1 hiX1 rfl 0 rfl 1 (by decide) 1 rfl rfl dX1_regrade_105 ?_
            refine x_getN C0 hw 5 hiX5 rfl 6 rfl 7 (by decide) 10 rfl rfl dX1_regrade_108 ?_
            refine lv_iload_n hx hb dX1_regrade_111 rfl (lv_at hl 3 rfl) ?_
            refine lv_iload hx hb dX1_regrade_112 (lv_at hl 0 rfl) ?_
            obtain ⟨hin, h⟩ := h
            refine x_ast (ws' := (cM E a ((st v_11 13 (tn p1) r_8)))) C0 hw 13 rfl hin rfl dX1_regrade_114 (fun H locs hw => ?_)
            obtain ⟨v_12, e_v_12⟩ : ∃ z, z = st v_11 13 (tn p1) r_8 := ⟨_, rfl⟩
            rw [← e_v_12] at hw
            replace h := h v_12 e_v_12
            refine lv_iload hx hb dX1_regrade_115 (lv_at hl 1 rfl) ?_
            exact x_ret C0 v_12 hw h dX1_regrade_117
      · replace h := h.2 c_15
        refine x_ldc (v := (-10000002)) C0 3 rfl dX1_regrade_33 ?_
        exact x_ret C0 v_5 hw h dX1_regrade_35
    · replace h := h.2 c_16
      refine x_ldc (v := (-10000001)) C0 2 rfl dX1_regrade_19 ?_
      exact x_ret C0 v_2 hw h dX1_regrade_21

abbrev rmX1_keepLateOnes : Room := { frames := 2, cells := 0, slots := 0, locals := 46 }
set_option maxRecDepth 100000 in
set_option maxHeartbeats 4000000 in
theorem w_X1_keepLateOnes_41 {p : Program} {l : Launch} {e : Env} {s : State} {m : MethodId} {below : List Frame} {meth : Method} {c : Code} {E : EE} {A : Nat → Prop} {a : Nat → Nat} {args : Array Value} (C0 : Cx E p s m args meth c A cX1_keepLateOnes 4 RX1 wsX1_keepLateOnes (some .int)) {post : Int32 → V → Prop}  {f2 : Int32} {k0 : Int32 → Int32 → V → Prop} : ∀ (n : Nat) (x1 : Int32) (x3 : Int32) (v : V), sl_X1_keepLateOnes_41 post f2 k0 n x1 x3 v → ∀ (H : Heap) (locs : List Loc) (ls : Array Slot), mw E A s.heap H locs (cM E a v) → lv_has ls 4 [(0, .ref (a 0)), (1, .int x1), (2, .int f2), (3, .int x3)] → (∀ (x1 : Int32) (x3 : Int32) (v : V) (H : Heap) (locs : List Loc) (ls : Array Slot), k0 x1 x3 v → mw E A s.heap H locs (cM E a v) → lv_has ls 4 [(0, .ref (a 0)), (1, .int x1), (2, .int f2), (3, .int x3)] → W p l e rmX1_keepLateOnes s m args below meth c H locs 0 0 (qI E A post (fun u => cM E a u) below args s) (F0 m 106 ls [])) → W p l e rmX1_keepLateOnes s m args below meth c H locs 0 0 (qI E A post (fun u => cM E a u) below args s) (F0 m 41 ls []) := by
  have hx := C0.1
  have hb := C0.2.1
  have hiX1 : ∀ w ∈ wsX10, w ∈ wsX1_keepLateOnes := fun w h => List.mem_cons_of_mem _ (List.mem_append_left _ (List.mem_append_left _ (List.mem_append_right _ h)))
  have hiX2 : ∀ w ∈ wsX20, w ∈ wsX1_keepLateOnes := fun w h => List.mem_cons_of_mem _ (List.mem_append_left _ (List.mem_append_right _ h))
  have hiX5 : ∀ w ∈ wsX50, w ∈ wsX1_keepLateOnes := fun w h => List.mem_cons_of_mem _ (List.mem_append_right _ h)
  intro n
  induction n with
  | zero => intro x1 x3 v h; exact False.elim h
  | succ n ih =>
    intro x1 x3 v h H locs ls hw hl hk0
    replace h : sb_X1_keepLateOnes_41 post f2 k0 (sl_X1_keepLateOnes_41 post f2 k0 n) x1 x3 v := h
    unfold sb_X1_keepLateOnes_41 at h
    refine lv_iload_n hx hb dX1_keepLateOnes_41 rfl (lv_at hl 3 rfl) ?_
    refine lv_aload_n hx hb dX1_keepLateOnes_42 rfl (lv_at hl 0 rfl) ?_
    refine x_get C0 hw 1 hiX1 rfl 0 rfl 1 (by decide) 4 rfl rfl dX1_keepLateOnes_43 ?_
    refine x_getN C0 hw 5 hiX5 rfl 6 rfl 0 (by decide) 3 rfl rfl dX1_keepLateOnes_46 ?_
    refine lv_icmp_ge (tgt := 106) hx hb dX1_keepLateOnes_49 (by decide) (fun c_3 => ?_) (fun c_3 => ?_)
    · replace h := h.1 c_3
      exact hk0 _ _ _ _ _ _ h hw (lv_sub hl [0, 1, 2, 3] rfl)
    · replace h := h.2 c_3
      refine lv_aload_n hx hb dX1_keepLateOnes_52 rfl (lv_at hl 0 rfl) ?_
      refine x_get C0 hw 1 hiX1 rfl 0 rfl 1 (by decide) 4 rfl rfl dX1_keepLateOnes_53 ?_
      refine x_getN C0 hw 5 hiX5 rfl 6 rfl 6 (by decide) 9 rfl rfl dX1_keepLateOnes_56 ?_
      refine lv_iload_n hx hb dX1_keepLateOnes_59 rfl (lv_at hl 3 rfl) ?_
      obtain ⟨hin, h⟩ := h
      refine x_ald C0 hw 12 rfl hin dX1_keepLateOnes_60 ?_
      refine lv_iload_n hx hb dX1_keepLateOnes_61 rfl (lv_at hl 2 rfl) ?_
      refine lv_icmp_ne (tgt := 100) hx hb dX1_keepLateOnes_62 (by decide) (fun c_2 => ?_) (fun c_2 => ?_)
      · replace h := h.1 c_2
        refine lv_iinc (v := (x3 + 1)) (lv' := [(3, .int (x3 + 1)), (0, .ref (a 0)), (1, .int x1), (2, .int f2)]) hx hb dX1_keepLateOnes_100 hl (k := 3) rfl rfl (by decide) rfl (fun ls hl => ?_)
        refine lv_goto (tgt := 41) hx hb dX1_keepLateOnes_103 (by decide) ?_
        exact ih _ _ _ h _ _ _ hw (lv_sub hl [1, 2, 3, 0] rfl) hk0
      · replace h := h.2 c_2
        refine lv_aload_n hx hb dX1_keepLateOnes_65 rfl (lv_at hl 0 rfl) ?_
        refine lv_iload_n hx hb dX1_keepLateOnes_66 rfl (lv_at hl 3 rfl) ?_
        refine lv_aload_n hx hb dX1_keepLateOnes_67 rfl (lv_at hl 0 rfl) ?_
        refine x_get C0 hw 1 hiX1 rfl 0 rfl 1 (by decide) 4 rfl rfl dX1_keepLateOnes_68 ?_
        refine x_getN C0 hw 5 hiX5 rfl 6 rfl 7 (by decide) 10 rfl rfl dX1_keepLateOnes_71 ?_
        refine lv_iload_n hx hb dX1_keepLateOnes_74 rfl (lv_at hl 3 rfl) ?_
        obtain ⟨hin, h⟩ := h
        refine x_ald C0 hw 13 rfl hin dX1_keepLateOnes_75 ?_
        refine lv_aload_n hx hb dX1_keepLateOnes_76 rfl (lv_at hl 0 rfl) ?_
        refine x_get C0 hw 1 hiX1 rfl 0 rfl 1 (by decide) 4 rfl rfl dX1_keepLateOnes_77 ?_
        refine x_getN C0 hw 5 hiX5 rfl 6 rfl 7 (by decide) 10 rfl rfl dX1_keepLateOnes_80 ?_
        refine lv_iload_n hx hb dX1_keepLateOnes_83 rfl (lv_at hl 3 rfl) ?_
        obtain ⟨hin, h⟩ := h
        refine x_ald C0 hw 13 rfl hin dX1_keepLateOnes_84 ?_
        refine lv_aload_n hx hb dX1_keepLateOnes_85 rfl (lv_at hl 0 rfl) ?_
        refine x_get C0 hw 1 hiX1 rfl 0 rfl 7 (by decide) 5 rfl rfl dX1_keepLateOnes_86 ?_
        refine lv_imul hx hb dX1_keepLateOnes_89 ?_
        refine lv_bipush (v := 100) hx hb dX1_keepLateOnes_90 (by decide) ?_
        refine lv_idiv hx hb dX1_keepLateOnes_92 (by decide) ?_
        refine lv_iadd hx hb dX1_keepLateOnes_93 ?_
        refine x_cVv (As := [.int x3, .int ((v 13 (tn x3)) + (((v 13 (tn x3)) * (v 0 7)) / 100))]) (rest := []) (F := []) C0 hw (p_nil _) hl.1 0 1 rfl rfl (c_X1_keepFor l E a h) 2 gX1_keepLateOnes_X1_keepFor rfl ⟨rfl, rfl⟩ (by decide +kernel) ⟨Nat.le_of_ble_eq_true rfl, Nat.le_of_ble_eq_true rfl⟩ rfl rfl (Nat.le_of_ble_eq_true rfl) dX1_keepLateOnes_94 ⟨Nat.zero_le _, Nat.zero_le _⟩ (fun v_1 H locs h (hw : mw E A s.heap H locs (cM E a v_1)) => ?_)
        refine lv_iinc (v := (x1 + 1)) (lv' := [(1, .int (x1 + 1)), (0, .ref (a 0)), (2, .int f2), (3, .int x3)]) hx hb dX1_keepLateOnes_97 hl (k := 1) rfl rfl (by decide) rfl (fun ls hl => ?_)
        refine lv_iinc (v := (x3 + 1)) (lv' := [(3, .int (x3 + 1)), (1, .int (x1 + 1)), (0, .ref (a 0)), (2, .int f2)]) hx hb dX1_keepLateOnes_100 hl (k := 3) rfl rfl (by decide) rfl (fun ls hl => ?_)
        refine lv_goto (tgt := 41) hx hb dX1_keepLateOnes_103 (by decide) ?_
        exact ih _ _ _ h _ _ _ hw (lv_sub hl [2, 1, 3, 0] rfl) hk0
set_option maxRecDepth 100000 in
set_option maxHeartbeats 4000000 in
theorem w_X1_keepLateOnes_4 {p : Program} {l : Launch} {e : Env} {s : State} {m : MethodId} {below : List Frame} {meth : Method} {c : Code} {E : EE} {A : Nat → Prop} {a : Nat → Nat} {args : Array Value} (C0 : Cx E p s m args meth c A cX1_keepLateOnes 4 RX1 wsX1_keepLateOnes (some .int)) {post : Int32 → V → Prop}   {k0 : Int32 → Int32 → V → Prop} : ∀ (n : Nat) (x1 : Int32) (x2 : Int32) (v : V), sl_X1_keepLateOnes_4 post k0 n x1 x2 v → ∀ (H : Heap) (locs : List Loc) (ls : Array Slot), mw E A s.heap H locs (cM E a v) → lv_has ls 4 [(0, .ref (a 0)), (1, .int x1), (2, .int x2)] → (∀ (x1 : Int32) (x2 : Int32) (v : V) (H : Heap) (locs : List Loc) (ls : Array Slot), k0 x1 x2 v → mw E A s.heap H locs (cM E a v) → lv_has ls 4 [(0, .ref (a 0)), (1, .int x1), (2, .int x2)] → W p l e rmX1_keepLateOnes s m args below meth c H locs 0 0 (qI E A post (fun u => cM E a u) below args s) (F0 m 112 ls [])) → W p l e rmX1_keepLateOnes s m args below meth c H locs 0 0 (qI E A post (fun u => cM E a u) below args s) (F0 m 4 ls []) := by
  have hx := C0.1
  have hb := C0.2.1
  have hiX1 : ∀ w ∈ wsX10, w ∈ wsX1_keepLateOnes := fun w h => List.mem_cons_of_mem _ (List.mem_append_left _ (List.mem_append_left _ (List.mem_append_right _ h)))
  have hiX2 : ∀ w ∈ wsX20, w ∈ wsX1_keepLateOnes := fun w h => List.mem_cons_of_mem _ (List.mem_append_left _ (List.mem_append_right _ h))
  have hiX5 : ∀ w ∈ wsX50, w ∈ wsX1_keepLateOnes := fun w h => List.mem_cons_of_mem _ (List.mem_append_right _ h)
  intro n
  induction n with
  | zero => intro x1 x2 v h; exact False.elim h
  | succ n ih =>
    intro x1 x2 v h H locs ls hw hl hk0
    replace h : sb_X1_keepLateOnes_4 post k0 (sl_X1_keepLateOnes_4 post k0 n) x1 x2 v := h
    unfold sb_X1_keepLateOnes_4 at h
    refine lv_iload_n hx hb dX1_keepLateOnes_4 rfl (lv_at hl 2 rfl) ?_
    refine lv_aload_n hx hb dX1_keepLateOnes_5 rfl (lv_at hl 0 rfl) ?_
    refine x_get C0 hw 1 hiX1 rfl 0 rfl 2 (by decide) 1 rfl rfl dX1_keepLateOnes_6 ?_
    refine x_getN C0 hw 2 hiX2 rfl 16 rfl 0 (by decide) 14 rfl rfl dX1_keepLateOnes_9 ?_
    refine lv_icmp_ge (tgt := 112) hx hb dX1_keepLateOnes_12 (by decide) (fun c_9 => ?_) (fun c_9 => ?_)
    · replace h := h.1 c_9
      exact hk0 _ _ _ _ _ _ h hw (lv_sub hl [0, 1, 2] rfl)
    · replace h := h.2 c_9
      refine lv_aload_n hx hb dX1_keepLateOnes_15 rfl (lv_at hl 0 rfl) ?_
      refine x_get C0 hw 1 hiX1 rfl 0 rfl 5 (by decide) 2 rfl rfl dX1_keepLateOnes_16 ?_
      refine lv_aload_n hx hb dX1_keepLateOnes_19 rfl (lv_at hl 0 rfl) ?_
      refine x_get C0 hw 1 hiX1 rfl 0 rfl 2 (by decide) 1 rfl rfl dX1_keepLateOnes_20 ?_
      refine x_getN C0 hw 2 hiX2 rfl 16 rfl 3 (by decide) 17 rfl rfl dX1_keepLateOnes_23 ?_
      refine lv_iload_n hx hb dX1_keepLateOnes_26 rfl (lv_at hl 2 rfl) ?_
      obtain ⟨hin, h⟩ := h
      refine x_ald C0 hw 19 rfl hin dX1_keepLateOnes_27 ?_
      refine lv_isub hx hb dX1_keepLateOnes_28 ?_
      refine lv_aload_n hx hb dX1_keepLateOnes_29 rfl (lv_at hl 0 rfl) ?_
      refine x_get C0 hw 1 hiX1 rfl 0 rfl 6 (by decide) 3 rfl rfl dX1_keepLateOnes_30 ?_
      refine lv_icmp_gt (tgt := 39) hx hb dX1_keepLateOnes_33 (by decide) (fun c_8 => ?_) (fun c_8 => ?_)
      · replace h := h.1 c_8
        refine lv_iconst (v := 0) hx hb dX1_keepLateOnes_39 (by decide) ?_
        refine lv_istore_n (lv' := [(3, .int 0), (0, .ref (a 0)), (1, .int x1), (2, .int x2)]) hx hb dX1_keepLateOnes_40 rfl hl (by decide) rfl (fun ls hl => ?_)
        obtain ⟨n_4, h⟩ := h
        refine w_X1_keepLateOnes_41 C0 _ _ _ _ h _ _ _ hw (lv_sub hl [1, 2, 3, 0] rfl) ?_
        · intro x1_5 x3_6 v_7 H locs ls h hw hl
          refine lv_iinc (v := (x2 + 1)) (lv' := [(2, .int (x2 + 1)), (0, .ref (a 0)), (1, .int x1_5), (3, .int x3_6)]) hx hb dX1_keepLateOnes_106 hl (k := 2) rfl rfl (by decide) rfl (fun ls hl => ?_)
          refine lv_goto (tgt := 4) hx hb dX1_keepLateOnes_109 (by decide) ?_
          exact ih _ _ _ h _ _ _ hw (lv_sub hl [1, 2, 0] rfl) hk0
      · replace h := h.2 c_8
        refine lv_goto (tgt := 106) hx hb dX1_keepLateOnes_36 (by decide) ?_
        refine lv_iinc (v := (x2 + 1)) (lv' := [(2, .int (x2 + 1)), (0, .ref (a 0)), (1, .int x1)]) hx hb dX1_keepLateOnes_106 hl (k := 2) rfl rfl (by decide) rfl (fun ls hl => ?_)
        refine lv_goto (tgt := 4) hx hb dX1_keepLateOnes_109 (by decide) ?_
        exact ih _ _ _ h _ _ _ hw (lv_sub hl [1, 2, 0] rfl) hk0
set_option maxRecDepth 100000 in
set_option maxHeartbeats 4000000 in
theorem c_X1_keepLateOnes (l : Launch) (E : EE) (a : Nat → Nat) {v : V}   {post : Int32 → V → Prop} (h : s_X1_keepLateOnes v post) : KI l E yX1_keepLateOnes wsX1_keepLateOnes rmX1_keepLateOnes [.ref (a 0)] (cM E a v) post (fun u => cM E a u) := by
  unfold s_X1_keepLateOnes at h
  refine KI.go (cc := cX1_keepLateOnes) (ret := (some .int)) (maxL := 4) (own := RX1) (by decide) rfl (Nat.le_of_ble_eq_true rfl) rfl (fun p e s m below meth c A ls C0 hw hl => ?_)
  have hx := C0.1
  have hb := C0.2.1
  have hiX1 : ∀ w ∈ wsX10, w ∈ wsX1_keepLateOnes := fun w h => List.mem_cons_of_mem _ (List.mem_append_left _ (List.mem_append_left _ (List.mem_append_right _ h)))
  have hiX2 : ∀ w ∈ wsX20, w ∈ wsX1_keepLateOnes := fun w h => List.mem_cons_of_mem _ (List.mem_append_left _ (List.mem_append_right _ h))
  have hiX5 : ∀ w ∈ wsX50, w ∈ wsX1_keepLateOnes := fun w h => List.mem_cons_of_mem _ (List.mem_append_right _ h)
  replace hl : lv_has ls 4 [(0, .ref (a 0))] := hl
  refine lv_iconst (v := 0) hx hb dX1_keepLateOnes_0 (by decide) ?_
  refine lv_istore_n (lv' := [(1, .int 0), (0, .ref (a 0))]) hx hb dX1_keepLateOnes_1 rfl hl (by decide) rfl (fun ls hl => ?_)
  refine lv_iconst (v := 0) hx hb dX1_keepLateOnes_2 (by decide) ?_
  refine lv_istore_n (lv' := [(2, .int 0), (1, .int 0), (0, .ref (a 0))]) hx hb dX1_keepLateOnes_3 rfl hl (by decide) rfl (fun ls hl => ?_)
  obtain ⟨n_10, h⟩ := h
  refine w_X1_keepLateOnes_4 C0 _ _ _ _ h _ _ _ hw (lv_sub hl [2, 1, 0] rfl) ?_
  · intro x1_11 x2_12 v_13 H locs ls h hw hl
    refine lv_iload_n hx hb dX1_keepLateOnes_112 rfl (lv_at hl 1 rfl) ?_
    exact x_ret C0 v_13 hw h dX1_keepLateOnes_113

abbrev rmX1_passDays : Room := { frames := 3, cells := 0, slots := 0, locals := 69 }
set_option maxRecDepth 100000 in
set_option maxHeartbeats 4000000 in
theorem w_X1_passDays_33 {p : Program} {l : Launch} {e : Env} {s : State} {m : MethodId} {below : List Frame} {meth : Method} {c : Code} {E : EE} {A : Nat → Prop} {a : Nat → Nat} {args : Array Value} (C0 : Cx E p s m args meth c A cX1_passDays 4 RX1 wsX1_passDays (some .int)) {post : Int32 → V → Prop}  {f1 : Int32} {k0 : Int32 → Int32 → V → Prop} : ∀ (n : Nat) (x2 : Int32) (x3 : Int32) (v : V), sl_X1_passDays_33 post f1 k0 n x2 x3 v → ∀ (H : Heap) (locs : List Loc) (ls : Array Slot), mw E A s.heap H locs (cM E a v) → lv_has ls 4 [(0, .ref (a 0)), (1, .int f1), (2, .int x2), (3, .int x3)] → (∀ (x2 : Int32) (x3 : Int32) (v : V) (H : Heap) (locs : List Loc) (ls : Array Slot), k0 x2 x3 v → mw E A s.heap H locs (cM E a v) → lv_has ls 4 [(0, .ref (a 0)), (1, .int f1), (2, .int x2), (3, .int x3)] → W p l e rmX1_passDays s m args below meth c H locs 0 0 (qI E A post (fun u => cM E a u) below args s) (F0 m 61 ls [])) → W p l e rmX1_passDays s m args below meth c H locs 0 0 (qI E A post (fun u => cM E a u) below args s) (F0 m 33 ls []) := by
  have hx := C0.1
  have hb := C0.2.1
  have hiX1 : ∀ w ∈ wsX10, w ∈ wsX1_passDays := fun w h => List.mem_cons_of_mem _ (List.mem_append_left _ (List.mem_append_left _ (List.mem_append_right _ h)))
  intro n
  induction n with
  | zero => intro x2 x3 v h; exact False.elim h
  | succ n ih =>
    intro x2 x3 v h H locs ls hw hl hk0
    replace h : sb_X1_passDays_33 post f1 k0 (sl_X1_passDays_33 post f1 k0 n) x2 x3 v := h
    unfold sb_X1_passDays_33 at h
    refine lv_iload_n hx hb dX1_passDays_33 rfl (lv_at hl 3 rfl) ?_
    refine lv_iload_n hx hb dX1_passDays_34 rfl (lv_at hl 1 rfl) ?_
    refine lv_icmp_ge (tgt := 61) hx hb dX1_passDays_35 (by decide) (fun c_4 => ?_) (fun c_4 => ?_)
    · replace h := h.1 c_4
      exact hk0 _ _ _ _ _ _ h hw (lv_sub hl [0, 1, 2, 3] rfl)
    · replace h := h.2 c_4
      refine lv_aload_n hx hb dX1_passDays_38 rfl (lv_at hl 0 rfl) ?_
      refine lv_dup hx hb dX1_passDays_39 rfl ?_
      refine x_get C0 hw 1 hiX1 rfl 0 rfl 5 (by decide) 2 rfl rfl dX1_passDays_40 ?_
      refine lv_iconst (v := 1) hx hb dX1_passDays_43 (by decide) ?_
      refine lv_iadd hx hb dX1_passDays_44 ?_
      refine x_put (ws' := (cM E a ((sc v 0 5 ((v 0 5) + 1))))) C0 hw 1 hiX1 rfl tyX1 tyX1_ok nmX1 0 rfl 5 (by decide) 2 rfl rfl rfl rfl (Nat.le_of_ble_eq_true rfl) rfl dX1_passDays_45 (fun H locs hw => ?_)
      obtain ⟨v_1, e_v_1⟩ : ∃ z, z = sc v 0 5 ((v 0 5) + 1) := ⟨_, rfl⟩
      rw [← e_v_1] at hw
      replace h := h v_1 e_v_1
      refine lv_iload_n hx hb dX1_passDays_48 rfl (lv_at hl 2 rfl) ?_
      refine lv_aload_n hx hb dX1_passDays_49 rfl (lv_at hl 0 rfl) ?_
      refine x_cV (As := []) (rest := [.int x2]) (F := []) C0 hw (p_nil _) hl.1 0 1 rfl rfl (c_X1_keepLateOnes l E a h) 0 gX1_passDays_X1_keepLateOnes rfl ⟨rfl, rfl⟩ (by decide +kernel) ⟨Nat.le_of_ble_eq_true rfl, Nat.le_of_ble_eq_true rfl⟩ rfl rfl (Nat.le_of_ble_eq_true rfl) dX1_passDays_50 ⟨Nat.zero_le _, Nat.zero_le _⟩ (fun r_2 v_3 H locs h (hw : mw E A s.heap H locs (cM E a v_3)) => ?_)
      refine lv_iadd hx hb dX1_passDays_53 ?_
      refine lv_istore_n (lv' := [(2, .int (x2 + r_2)), (0, .ref (a 0)), (1, .int f1), (3, .int x3)]) hx hb dX1_passDays_54 rfl hl (by decide) rfl (fun ls hl => ?_)
      refine lv_iinc (v := (x3 + 1)) (lv' := [(3, .int (x3 + 1)), (2, .int (x2 + r_2)), (0, .ref (a 0)), (1, .int f1)]) hx hb dX1_passDays_55 hl (k := 3) rfl rfl (by decide) rfl (fun ls hl => ?_)
      refine lv_goto (tgt := 33) hx hb dX1_passDays_58 (by decide) ?_
      exact ih _ _ _ h _ _ _ hw (lv_sub hl [2, 3, 1, 0] rfl) hk0
set_option maxRecDepth 100000 in
set_option maxHeartbeats 4000000 in
theorem c_X1_passDays (l : Launch) (E : EE) (a : Nat → Nat) {v : V}  {p1 : Int32} {post : Int32 → V → Prop} (h : s_X1_passDays v p1 post) : KI l E yX1_passDays wsX1_passDays rmX1_passDays [.ref (a 0), .int p1] (cM E a v) post (fun u => cM E a u) := by
  unfold s_X1_passDays at h
  refine KI.go (cc := cX1_passDays) (ret := (some .int)) (maxL := 4) (own := RX1) (by decide) rfl (Nat.le_of_ble_eq_true rfl) rfl (fun p e s m below meth c A ls C0 hw hl => ?_)
  have hx := C0.1
  have hb := C0.2.1
  have hiX1 : ∀ w ∈ wsX10, w ∈ wsX1_passDays := fun w h => List.mem_cons_of_mem _ (List.mem_append_left _ (List.mem_append_left _ (List.mem_append_right _ h)))
  replace hl : lv_has ls 4 [(0, .ref (a 0)), (1, .int p1)] := hl
  refine lv_iload_n hx hb dX1_passDays_0 rfl (lv_at hl 1 rfl) ?_
  refine lv_iconst (v := 1) hx hb dX1_passDays_1 (by decide) ?_
  refine lv_icmp_lt (tgt := 11) hx hb dX1_passDays_2 (by decide) (fun c_12 => ?_) (fun c_12 => ?_)
  · replace h := h.1 c_12
    refine x_ldc (v := (-10000001)) C0 1 rfl dX1_passDays_11 ?_
    exact x_ret C0 v hw h dX1_passDays_13
  · replace h := h.2 c_12
    refine lv_iload_n hx hb dX1_passDays_5 rfl (lv_at hl 1 rfl) ?_
    refine lv_bipush (v := 99) hx hb dX1_passDays_6 (by decide) ?_
    refine lv_icmp_le (tgt := 14) hx hb dX1_passDays_8 (by decide) (fun c_11 => ?_) (fun c_11 => ?_)
    · replace h := h.1 c_11
      refine lv_aload_n hx hb dX1_passDays_14 rfl (lv_at hl 0 rfl) ?_
      refine x_get C0 hw 1 hiX1 rfl 0 rfl 5 (by decide) 2 rfl rfl dX1_passDays_15 ?_
      refine lv_iload_n hx hb dX1_passDays_18 rfl (lv_at hl 1 rfl) ?_
      refine lv_iadd hx hb dX1_passDays_19 ?_
      refine lv_sipush (v := 2000) hx hb dX1_passDays_20 (by decide) ?_
      refine lv_icmp_le (tgt := 29) hx hb dX1_passDays_23 (by decide) (fun c_10 => ?_) (fun c_10 => ?_)
      · replace h := h.1 c_10
        refine lv_iconst (v := 0) hx hb dX1_passDays_29 (by decide) ?_
        refine lv_istore_n (lv' := [(2, .int 0), (0, .ref (a 0)), (1, .int p1)]) hx hb dX1_passDays_30 rfl hl (by decide) rfl (fun ls hl => ?_)
        refine lv_iconst (v := 0) hx hb dX1_passDays_31 (by decide) ?_
        refine lv_istore_n (lv' := [(3, .int 0), (2, .int 0), (0, .ref (a 0)), (1, .int p1)]) hx hb dX1_passDays_32 rfl hl (by decide) rfl (fun ls hl => ?_)
        obtain ⟨n_5, h⟩ := h
        refine w_X1_passDays_33 C0 _ _ _ _ h _ _ _ hw (lv_sub hl [2, 3, 1, 0] rfl) ?_
        · intro x2_6 x3_7 v_8 H locs ls h hw hl
          refine lv_aload_n hx hb dX1_passDays_61 rfl (lv_at hl 0 rfl) ?_
          refine lv_dup hx hb dX1_passDays_62 rfl ?_
          refine x_get C0 hw 1 hiX1 rfl 0 rfl 8 (by decide) 4 rfl rfl dX1_passDays_63 ?_
          refine lv_iload_n hx hb dX1_passDays_66 rfl (lv_at hl 2 rfl) ?_
          refine lv_iadd hx hb dX1_passDays_67 ?_
          refine x_put (ws' := (cM E a ((sc v_8 0 8 ((v_8 0 8) + x2_6))))) C0 hw 1 hiX1 rfl tyX1 tyX1_ok nmX1 0 rfl 8 (by decide) 4 rfl rfl rfl rfl (Nat.le_of_ble_eq_true rfl) rfl dX1_passDays_68 (fun H locs hw => ?_)
          obtain ⟨v_9, e_v_9⟩ : ∃ z, z = sc v_8 0 8 ((v_8 0 8) + x2_6) := ⟨_, rfl⟩
          rw [← e_v_9] at hw
          replace h := h v_9 e_v_9
          refine lv_iload_n hx hb dX1_passDays_71 rfl (lv_at hl 2 rfl) ?_
          exact x_ret C0 v_9 hw h dX1_passDays_72
      · replace h := h.2 c_10
        refine x_ldc (v := (-10000003)) C0 3 rfl dX1_passDays_26 ?_
        exact x_ret C0 v hw h dX1_passDays_28
    · replace h := h.2 c_11
      refine x_ldc (v := (-10000001)) C0 1 rfl dX1_passDays_11 ?_
      exact x_ret C0 v hw h dX1_passDays_13

abbrev rmX1_putSetting : Room := { frames := 0, cells := 0, slots := 0, locals := 0 }
set_option maxRecDepth 100000 in
set_option maxHeartbeats 4000000 in
theorem c_X1_putSetting (l : Launch) (E : EE) (a : Nat → Nat) {v : V}  {p1 : Int32} {p2 : Int32} {post : Int32 → V → Prop} (h : s_X1_putSetting v p1 p2 post) : KI l E yX1_putSetting wsX1_putSetting rmX1_putSetting [.ref (a 0), .int p1, .int p2] (cM E a v) post (fun u => cM E a u) := by
  unfold s_X1_putSetting at h
  refine KI.go (cc := cX1_putSetting) (ret := (some .int)) (maxL := 4) (own := RX1) (by decide) rfl (Nat.le_of_ble_eq_true rfl) rfl (fun p e s m below meth c A ls C0 hw hl => ?_)
  have hx := C0.1
  have hb := C0.2.1
  have hiX1 : ∀ w ∈ wsX10, w ∈ wsX1_putSetting := fun w h => List.mem_cons_of_mem _ (List.mem_append_right _ h)
  replace hl : lv_has ls 4 [(0, .ref (a 0)), (1, .int p1), (2, .int p2)] := hl
  refine lv_iload_n hx hb dX1_putSetting_0 rfl (lv_at hl 1 rfl) ?_
  refine lv_if_lt (tgt := 28) hx hb dX1_putSetting_1 (by decide) (fun c_20 => ?_) (fun c_20 => ?_)
  · replace h := h.1 c_20
    refine x_ldc (v := (-10000001)) C0 1 rfl dX1_putSetting_28 ?_
    exact x_ret C0 v hw h dX1_putSetting_30
  · replace h := h.2 c_20
    refine lv_iload_n hx hb dX1_putSetting_4 rfl (lv_at hl 1 rfl) ?_
    refine lv_iconst (v := 1) hx hb dX1_putSetting_5 (by decide) ?_
    refine lv_icmp_gt (tgt := 28) hx hb dX1_putSetting_6 (by decide) (fun c_19 => ?_) (fun c_19 => ?_)
    · replace h := h.1 c_19
      refine x_ldc (v := (-10000001)) C0 1 rfl dX1_putSetting_28 ?_
      exact x_ret C0 v hw h dX1_putSetting_30
    · replace h := h.2 c_19
      refine lv_iload_n hx hb dX1_putSetting_9 rfl (lv_at hl 2 rfl) ?_
      refine lv_if_lt (tgt := 28) hx hb dX1_putSetting_10 (by decide) (fun c_18 => ?_) (fun c_18 => ?_)
      · replace h := h.1 c_18
        refine x_ldc (v := (-10000001)) C0 1 rfl dX1_putSetting_28 ?_
        exact x_ret C0 v hw h dX1_putSetting_30
      · replace h := h.2 c_18
        refine lv_iload_n hx hb dX1_putSetting_13 rfl (lv_at hl 2 rfl) ?_
        refine lv_iload_n hx hb dX1_putSetting_14 rfl (lv_at hl 1 rfl) ?_
        refine lv_if_ne (tgt := 23) hx hb dX1_putSetting_15 (by decide) (fun c_17 => ?_) (fun c_17 => ?_)
        · replace h := h.1 c_17
          refine lv_bipush (v := 100) hx hb dX1_putSetting_23 (by decide) ?_
          refine lv_icmp_le (tgt := 31) hx hb dX1_putSetting_25 (by decide) (fun c_8 => ?_) (fun c_8 => ?_)
          · replace h := h.1 c_8
            refine lv_iload_n hx hb dX1_putSetting_31 rfl (lv_at hl 1 rfl) ?_
            refine lv_if_ne (tgt := 42) hx hb dX1_putSetting_32 (by decide) (fun c_7 => ?_) (fun c_7 => ?_)
            · replace h := h.1 c_7
              refine lv_aload_n hx hb dX1_putSetting_42 rfl (lv_at hl 0 rfl) ?_
              refine x_get C0 hw 1 hiX1 rfl 0 rfl 7 (by decide) 3 rfl rfl dX1_putSetting_43 ?_
              refine lv_istore_n (lv' := [(3, .int (v 0 7)), (0, .ref (a 0)), (1, .int p1), (2, .int p2)]) hx hb dX1_putSetting_46 rfl hl (by decide) rfl (fun ls hl => ?_)
              refine lv_iload_n hx hb dX1_putSetting_47 rfl (lv_at hl 2 rfl) ?_
              refine lv_if_ne (tgt := 59) hx hb dX1_putSetting_48 (by decide) (fun c_3 => ?_) (fun c_3 => ?_)
              · replace h := h.1 c_3
                refine lv_aload_n hx hb dX1_putSetting_59 rfl (lv_at hl 1 rfl) ?_
                refine lv_iload_n hx hb dX1_putSetting_60 rfl (lv_at hl 3 rfl) ?_
                refine x_put (ws' := (cM E a ((sc v 0 7 p2)))) C0 hw 1 hiX1 rfl tyX1 tyX1_ok nmX1 0 rfl 7 (by decide) 3 rfl rfl rfl rfl (Nat.le_of_ble_eq_true rfl) rfl dX1_putSetting_61 (fun H locs hw => ?_)
                obtain ⟨v_1, e_v_1⟩ : ∃ z, z = sc v 0 7 p2 := ⟨_, rfl⟩
                rw [← e_v_1] at hw
                replace h := h v_1 e_v_1
                refine lv_iload_n hx hb dX1_putSetting_64 rfl (lv_at hl 0 rfl) ?_
                exact x_ret C0 v_1 hw h dX1_putSetting_65
              · replace h := h.2 c_3
                refine lv_aload_n hx hb dX1_putSetting_51 rfl (lv_at hl 1 rfl) ?_
                refine lv_iload_n hx hb dX1_putSetting_52 rfl (lv_at hl 3 rfl) ?_
                refine x_put (ws' := (cM E a ((sc v 0 6 p2)))) C0 hw 1 hiX1 rfl tyX1 tyX1_ok nmX1 0 rfl 6 (by decide) 2 rfl rfl rfl rfl (Nat.le_of_ble_eq_true rfl) rfl dX1_putSetting_53 (fun H locs hw => ?_)
                obtain ⟨v_2, e_v_2⟩ : ∃ z, z = sc v 0 6 p2 := ⟨_, rfl⟩
                rw [← e_v_2] at hw
                replace h := h v_2 e_v_2
                refine lv_goto (tgt := 64) hx hb dX1_putSetting_56 (by decide) ?_
                refine lv_iload_n hx hb dX1_putSetting_64 rfl (lv_at hl 0 rfl) ?_
                exact x_ret C0 v_2 hw h dX1_putSetting_65
            · replace h := h.2 c_7
              refine lv_aload_n hx hb dX1_putSetting_35 rfl (lv_at hl 0 rfl) ?_
              refine x_get C0 hw 1 hiX1 rfl 0 rfl 6 (by decide) 2 rfl rfl dX1_putSetting_36 ?_
              refine lv_goto (tgt := 46) hx hb dX1_putSetting_39 (by decide) ?_
              refine lv_istore_n (lv' := [(3, .int (v 0 6)), (0, .ref (a 0)), (1, .int p1), (2, .int p2)]) hx hb dX1_putSetting_46 rfl hl (by decide) rfl (fun ls hl => ?_)
              refine lv_iload_n hx hb dX1_putSetting_47 rfl (lv_at hl 2 rfl) ?_
              refine lv_if_ne (tgt := 59) hx hb dX1_putSetting_48 (by decide) (fun c_6 => ?_) (fun c_6 => ?_)
              · replace h := h.1 c_6
                refine lv_aload_n hx hb dX1_putSetting_59 rfl (lv_at hl 1 rfl) ?_
                refine lv_iload_n hx hb dX1_putSetting_60 rfl (lv_at hl 3 rfl) ?_
                refine x_put (ws' := (cM E a ((sc v 0 7 p2)))) C0 hw 1 hiX1 rfl tyX1 tyX1_ok nmX1 0 rfl 7 (by decide) 3 rfl rfl rfl rfl (Nat.le_of_ble_eq_true rfl) rfl dX1_putSetting_61 (fun H locs hw => ?_)
                obtain ⟨v_4, e_v_4⟩ : ∃ z, z = sc v 0 7 p2 := ⟨_, rfl⟩
                rw [← e_v_4] at hw
                replace h := h v_4 e_v_4
                refine lv_iload_n hx hb dX1_putSetting_64 rfl (lv_at hl 0 rfl) ?_
                exact x_ret C0 v_4 hw h dX1_putSetting_65
              · replace h := h.2 c_6
                refine lv_aload_n hx hb dX1_putSetting_51 rfl (lv_at hl 1 rfl) ?_
                refine lv_iload_n hx hb dX1_putSetting_52 rfl (lv_at hl 3 rfl) ?_
                refine x_put (ws' := (cM E a ((sc v 0 6 p2)))) C0 hw 1 hiX1 rfl tyX1 tyX1_ok nmX1 0 rfl 6 (by decide) 2 rfl rfl rfl rfl (Nat.le_of_ble_eq_true rfl) rfl dX1_putSetting_53 (fun H locs hw => ?_)
                obtain ⟨v_5, e_v_5⟩ : ∃ z, z = sc v 0 6 p2 := ⟨_, rfl⟩
                rw [← e_v_5] at hw
                replace h := h v_5 e_v_5
                refine lv_goto (tgt := 64) hx hb dX1_putSetting_56 (by decide) ?_
                refine lv_iload_n hx hb dX1_putSetting_64 rfl (lv_at hl 0 rfl) ?_
                exact x_ret C0 v_5 hw h dX1_putSetting_65
          · replace h := h.2 c_8
            refine x_ldc (v := (-10000001)) C0 1 rfl dX1_putSetting_28 ?_
            exact x_ret C0 v hw h dX1_putSetting_30
        · replace h := h.2 c_17
          refine lv_bipush (v := 30) hx hb dX1_putSetting_18 (by decide) ?_
          refine lv_goto (tgt := 25) hx hb dX1_putSetting_20 (by decide) ?_
          refine lv_icmp_le (tgt := 31) hx hb dX1_putSetting_25 (by decide) (fun c_16 => ?_) (fun c_16 => ?_)
          · replace h := h.1 c_16
            refine lv_iload_n hx hb dX1_putSetting_31 rfl (lv_at hl 1 rfl) ?_
            refine lv_if_ne (tgt := 42) hx hb dX1_putSetting_32 (by decide) (fun c_15 => ?_) (fun c_15 => ?_)
            · replace h := h.1 c_15
              refine lv_aload_n hx hb dX1_putSetting_42 rfl (lv_at hl 0 rfl) ?_
              refine x_get C0 hw 1 hiX1 rfl 0 rfl 7 (by decide) 3 rfl rfl dX1_putSetting_43 ?_
              refine lv_istore_n (lv' := [(3, .int (v 0 7)), (0, .ref (a 0)), (1, .int p1), (2, .int p2)]) hx hb dX1_putSetting_46 rfl hl (by decide) rfl (fun ls hl => ?_)
              refine lv_iload_n hx hb dX1_putSetting_47 rfl (lv_at hl 2 rfl) ?_
              refine lv_if_ne (tgt := 59) hx hb dX1_putSetting_48 (by decide) (fun c_11 => ?_) (fun c_11 => ?_)
              · replace h := h.1 c_11
                refine lv_aload_n hx hb dX1_putSetting_59 rfl (lv_at hl 1 rfl) ?_
                refine lv_iload_n hx hb dX1_putSetting_60 rfl (lv_at hl 3 rfl) ?_
                refine x_put (ws' := (cM E a ((sc v 0 7 p2)))) C0 hw 1 hiX1 rfl tyX1 tyX1_ok nmX1 0 rfl 7 (by decide) 3 rfl rfl rfl rfl (Nat.le_of_ble_eq_true rfl) rfl dX1_putSetting_61 (fun H locs hw => ?_)
                obtain ⟨v_9, e_v_9⟩ : ∃ z, z = sc v 0 7 p2 := ⟨_, rfl⟩
                rw [← e_v_9] at hw
                replace h := h v_9 e_v_9
                refine lv_iload_n hx hb dX1_putSetting_64 rfl (lv_at hl 0 rfl) ?_
                exact x_ret C0 v_9 hw h dX1_putSetting_65
              · replace h := h.2 c_11
                refine lv_aload_n hx hb dX1_putSetting_51 rfl (lv_at hl 1 rfl) ?_
                refine lv_iload_n hx hb dX1_putSetting_52 rfl (lv_at hl 3 rfl) ?_
                refine x_put (ws' := (cM E a ((sc v 0 6 p2)))) C0 hw 1 hiX1 rfl tyX1 tyX1_ok nmX1 0 rfl 6 (by decide) 2 rfl rfl rfl rfl (Nat.le_of_ble_eq_true rfl) rfl dX1_putSetting_53 (fun H locs hw => ?_)
                obtain ⟨v_10, e_v_10⟩ : ∃ z, z = sc v 0 6 p2 := ⟨_, rfl⟩
                rw [← e_v_10] at hw
                replace h := h v_10 e_v_10
                refine lv_goto (tgt := 64) hx hb dX1_putSetting_56 (by decide) ?_
                refine lv_iload_n hx hb dX1_putSetting_64 rfl (lv_at hl 0 rfl) ?_
                exact x_ret C0 v_10 hw h dX1_putSetting_65
            · replace h := h.2 c_15
              refine lv_aload_n hx hb dX1_putSetting_35 rfl (lv_at hl 0 rfl) ?_
              refine x_get C0 hw 1 hiX1 rfl 0 rfl 6 (by decide) 2 rfl rfl dX1_putSetting_36 ?_
              refine lv_goto (tgt := 46) hx hb dX1_putSetting_39 (by decide) ?_
              refine lv_istore_n (lv' := [(3, .int (v 0 6)), (0, .ref (a 0)), (1, .int p1), (2, .int p2)]) hx hb dX1_putSetting_46 rfl hl (by decide) rfl (fun ls hl => ?_)
              refine lv_iload_n hx hb dX1_putSetting_47 rfl (lv_at hl 2 rfl) ?_
              refine lv_if_ne (tgt := 59) hx hb dX1_putSetting_48 (by decide) (fun c_14 => ?_) (fun c_14 => ?_)
              · replace h := h.1 c_14
                refine lv_aload_n hx hb dX1_putSetting_59 rfl (lv_at hl 1 rfl) ?_
                refine lv_iload_n hx hb dX1_putSetting_60 rfl (lv_at hl 3 rfl) ?_
                refine x_put (ws' := (cM E a ((sc v 0 7 p2)))) C0 hw 1 hiX1 rfl tyX1 tyX1_ok nmX1 0 rfl 7 (by decide) 3 rfl rfl rfl rfl (Nat.le_of_ble_eq_true rfl) rfl dX1_putSetting_61 (fun H locs hw => ?_)
                obtain ⟨v_12, e_v_12⟩ : ∃ z, z = sc v 0 7 p2 := ⟨_, rfl⟩
                rw [← e_v_12] at hw
                replace h := h v_12 e_v_12
                refine lv_iload_n hx hb dX1_putSetting_64 rfl (lv_at hl 0 rfl) ?_
                exact x_ret C0 v_12 hw h dX1_putSetting_65
              · replace h := h.2 c_14
                refine lv_aload_n hx hb dX1_putSetting_51 rfl (lv_at hl 1 rfl) ?_
                refine lv_iload_n hx hb dX1_putSetting_52 rfl (lv_at hl 3 rfl) ?_
                refine x_put (ws' := (cM E a ((sc v 0 6 p2)))) C0 hw 1 hiX1 rfl tyX1 tyX1_ok nmX1 0 rfl 6 (by decide) 2 rfl rfl rfl rfl (Nat.le_of_ble_eq_true rfl) rfl dX1_putSetting_53 (fun H locs hw => ?_)
                obtain ⟨v_13, e_v_13⟩ : ∃ z, z = sc v 0 6 p2 := ⟨_, rfl⟩
                rw [← e_v_13] at hw
                replace h := h v_13 e_v_13
                refine lv_goto (tgt := 64) hx hb dX1_putSetting_56 (by decide) ?_
                refine lv_iload_n hx hb dX1_putSetting_64 rfl (lv_at hl 0 rfl) ?_
                exact x_ret C0 v_13 hw h dX1_putSetting_65
          · replace h := h.2 c_16
            refine x_ldc (v := (-10000001)) C0 1 rfl dX1_putSetting_28 ?_
            exact x_ret C0 v hw h dX1_putSetting_30
