abbrev rmX7_best : Room := { frames := 3, cells := 0, slots := 0, locals := 72 }
set_option maxRecDepth 100000 in
set_option maxHeartbeats 4000000 in
theorem w_X7_best_26 {p : Program} {l : Launch} {e : Env} {s : State} {m : MethodId} {below : List Frame} {meth : Method} {c : Code} {E : EE} {A : Nat → Prop} {aR : Nat → Nat} {args : Array Value} (C0 : Cx E p s m args meth c A cX7_best 7 RX7 wsX7_best (some .int)) {post : Int32 → V → Prop}  {f1 : Int32} {f2 : Int32} {k0 : Int32 → Int32 → V → Prop} : ∀ (n : Nat) (x3 : Int32) (x4 : Int32) (v : V), sl_X7_best_26 post f1 f2 k0 n x3 x4 v → ∀ (H : Heap) (locs : List Loc) (ls : Array Slot), mw E A s.heap H locs (cR E aR v) → lv_has ls 7 [(0, .ref (aR 0)), (1, .int f1), (2, .int f2), (3, .int x3), (4, .int x4)] → (∀ (x3 : Int32) (x4 : Int32) (v : V) (H : Heap) (locs : List Loc) (ls : Array Slot), k0 x3 x4 v → mw E A s.heap H locs (cR E aR v) → lv_has ls 7 [(0, .ref (aR 0)), (1, .int f1), (2, .int f2), (3, .int x3), (4, .int x4)] → W p l e rmX7_best s m args below meth c H locs 0 0 (qI E A post (fun u => cR E aR u) below args s) (F0 m 131 ls [])) → W p l e rmX7_best s m args below meth c H locs 0 0 (qI E A post (fun u => cR E aR u) below args s) (F0 m 26 ls []) := by
  have hx := C0.1
  have hb := C0.2.1
  have hiX7 : ∀ w ∈ wsX70, w ∈ wsX7_best := fun w h => List.mem_cons_of_mem _ (List.mem_append_right _ h)
  intro n
  induction n with
  | zero => intro x3 x4 v h; exact False.elim h
  | succ n ih =>
    intro x3 x4 v h H locs ls hw hl hk0
    replace h : sb_X7_best_26 post f1 f2 k0 (sl_X7_best_26 post f1 f2 k0 n) x3 x4 v := h
    unfold sb_X7_best_26 at h
    refine lv_iload hx hb dX7_best_26 (lv_at hl 4 rfl) ?_
    refine lv_aload_n hx hb dX7_best_28 rfl (lv_at hl 0 rfl) ?_
    refine x_get C0 hw 7 hiX7 rfl 0 rfl 0 (by decide) 3 rfl rfl dX7_best_29 ?_
    refine lv_iconst (v := 1) hx hb dX7_best_32 (by decide) ?_
    refine x_ald C0 hw 1 rfl (vp_in_nI (n := 1) (by decide) (by decide)) dX7_best_33 ?_
    refine lv_icmp_ge (tgt := 131) hx hb dX7_best_34 (by decide) (fun c_24 => ?_) (fun c_24 => ?_)
    · replace h := h.1 c_24
      exact hk0 _ _ _ _ _ _ h hw (lv_sub hl [0, 1, 2, 3, 4] rfl)
    · replace h := h.2 c_24
      refine lv_aload_n hx hb dX7_best_37 rfl (lv_at hl 0 rfl) ?_
      refine lv_iload hx hb dX7_best_38 (lv_at hl 4 rfl) ?_
      refine x_cV (As := [.int x4]) (rest := []) (F := []) C0 hw (p_nil _) hl.1 0 7 rfl rfl (c_X7_price l E aR h) 1 gX7_best_X7_price rfl ⟨rfl, rfl⟩ (by decide +kernel) ⟨Nat.le_of_ble_eq_true rfl, Nat.le_of_ble_eq_true rfl⟩ rfl rfl (Nat.le_of_ble_eq_true rfl) dX7_best_40 ⟨Nat.zero_le _, Nat.zero_le _⟩ (fun r_4 v_5 H locs h (hw : mw E A s.heap H locs (cR E aR v_5)) => ?_)
      refine lv_istore (lv' := [(5, .int r_4), (0, .ref (aR 0)), (1, .int f1), (2, .int f2), (3, .int x3), (4, .int x4)]) hx hb dX7_best_43 hl (by decide) rfl (fun ls hl => ?_)
      refine lv_aload_n hx hb dX7_best_45 rfl (lv_at hl 1 rfl) ?_
      refine lv_iload hx hb dX7_best_46 (lv_at hl 5 rfl) ?_
      refine lv_iconst (v := 4) hx hb dX7_best_48 (by decide) ?_
      refine x_cV (As := [.int x4, .int 4]) (rest := []) (F := []) C0 hw (p_nil _) hl.1 0 7 rfl rfl (c_X7_ofStone l E aR h) 2 gX7_best_X7_ofStone rfl ⟨rfl, rfl⟩ (by decide +kernel) ⟨Nat.le_of_ble_eq_true rfl, Nat.le_of_ble_eq_true rfl⟩ rfl rfl (Nat.le_of_ble_eq_true rfl) dX7_best_49 ⟨Nat.zero_le _, Nat.zero_le _⟩ (fun r_6 v_7 H locs h (hw : mw E A s.heap H locs (cR E aR v_7)) => ?_)
      refine lv_iload_n hx hb dX7_best_52 rfl (lv_at hl 2 rfl) ?_
      refine lv_icmp_ne (tgt := 125) hx hb dX7_best_53 (by decide) (fun c_23 => ?_) (fun c_23 => ?_)
      · replace h := h.1 c_23
        refine lv_iinc (v := (x4 + 1)) (lv' := [(4, .int (x4 + 1)), (5, .int r_4), (0, .ref (aR 0)), (1, .int f1), (2, .int f2), (3, .int x3)]) hx hb dX7_best_125 hl (k := 5) rfl rfl (by decide) rfl (fun ls hl => ?_)
        refine lv_goto (tgt := 26) hx hb dX7_best_128 (by decide) ?_
        exact ih _ _ _ h _ _ _ hw (lv_sub hl [2, 3, 4, 5, 0] rfl) hk0
      · replace h := h.2 c_23
        refine lv_iload hx hb dX7_best_56 (lv_at hl 0 rfl) ?_
        refine lv_iconst (v := 0) hx hb dX7_best_58 (by decide) ?_
        refine lv_iload_n hx hb dX7_best_59 rfl (lv_at hl 3 rfl) ?_
        refine x_cS (As := [.int r_4, .int 0, .int f2]) (rest := []) (F := (cR E aR v_7)) C0 hw (p_non _) hl.1 (c_X7_in l E  h) 3 gX7_best_X7_in rfl ⟨rfl, rfl⟩ (by decide +kernel) ⟨Nat.le_of_ble_eq_true rfl, Nat.le_of_ble_eq_true rfl⟩ rfl rfl (Nat.le_of_ble_eq_true rfl) dX7_best_60 ⟨Nat.zero_le _, Nat.zero_le _⟩ (fun r_8 _u H locs h (hw : mw E A s.heap H locs (cR E aR v_7)) => ?_)
        refine lv_if_eq (tgt := 125) hx hb dX7_best_63 (by decide) (fun c_21 => ?_) (fun c_21 => ?_)
        · replace h := h.1 c_21
          refine lv_iinc (v := (x4 + 1)) (lv' := [(4, .int (x4 + 1)), (5, .int r_4), (0, .ref (aR 0)), (1, .int f1), (2, .int f2), (3, .int x3)]) hx hb dX7_best_125 hl (k := 5) rfl rfl (by decide) rfl (fun ls hl => ?_)
          refine lv_goto (tgt := 26) hx hb dX7_best_128 (by decide) ?_
          exact ih _ _ _ h _ _ _ hw (lv_sub hl [2, 3, 4, 5, 0] rfl) hk0
        · replace h := h.2 c_21
          refine lv_iload_n hx hb dX7_best_66 rfl (lv_at hl 4 rfl) ?_
          refine lv_if_lt (tgt := 106) hx hb dX7_best_67 (by decide) (fun c_20 => ?_) (fun c_20 => ?_)
          · replace h := h.1 c_20
            refine lv_iconst (v := 1) hx hb dX7_best_106 (by decide) ?_
            refine lv_goto (tgt := 111) hx hb dX7_best_107 (by decide) ?_
            refine lv_istore (lv' := [(6, .int 1), (5, .int r_4), (0, .ref (aR 0)), (1, .int f1), (2, .int f2), (3, .int x3), (4, .int x4)]) hx hb dX7_best_111 hl (by decide) rfl (fun ls hl => ?_)
            refine lv_iload hx hb dX7_best_113 (lv_at hl 0 rfl) ?_
            refine lv_if_eq (tgt := 123) hx hb dX7_best_115 (by decide) (fun c => absurd c (by decide)) (fun _ => ?_)
            refine lv_iload hx hb dX7_best_118 (lv_at hl 6 rfl) ?_
            refine lv_goto (tgt := 124) hx hb dX7_best_120 (by decide) ?_
            refine lv_istore_n (lv' := [(3, .int x4), (6, .int 1), (5, .int r_4), (0, .ref (aR 0)), (1, .int f1), (2, .int f2), (4, .int x4)]) hx hb dX7_best_124 rfl hl (by decide) rfl (fun ls hl => ?_)
            refine lv_iinc (v := (x4 + 1)) (lv' := [(4, .int (x4 + 1)), (3, .int x4), (6, .int 1), (5, .int r_4), (0, .ref (aR 0)), (1, .int f1), (2, .int f2)]) hx hb dX7_best_125 hl (k := 6) rfl rfl (by decide) rfl (fun ls hl => ?_)
            refine lv_goto (tgt := 26) hx hb dX7_best_128 (by decide) ?_
            exact ih _ _ _ h _ _ _ hw (lv_sub hl [4, 5, 6, 1, 0] rfl) hk0
          · replace h := h.2 c_20
            refine lv_iload hx hb dX7_best_70 (lv_at hl 0 rfl) ?_
            refine lv_aload_n hx hb dX7_best_72 rfl (lv_at hl 1 rfl) ?_
            refine lv_iload_n hx hb dX7_best_73 rfl (lv_at hl 4 rfl) ?_
            refine x_cV (As := [.int x3]) (rest := [.int r_4]) (F := []) C0 hw (p_nil _) hl.1 0 7 rfl rfl (c_X7_price l E aR h) 1 gX7_best_X7_price rfl ⟨rfl, rfl⟩ (by decide +kernel) ⟨Nat.le_of_ble_eq_true rfl, Nat.le_of_ble_eq_true rfl⟩ rfl rfl (Nat.le_of_ble_eq_true rfl) dX7_best_74 ⟨Nat.zero_le _, Nat.zero_le _⟩ (fun r_9 v_10 H locs h (hw : mw E A s.heap H locs (cR E aR v_10)) => ?_)
            refine lv_icmp_gt (tgt := 106) hx hb dX7_best_77 (by decide) (fun c_19 => ?_) (fun c_19 => ?_)
            · replace h := h.1 c_19
              refine lv_iconst (v := 1) hx hb dX7_best_106 (by decide) ?_
              refine lv_goto (tgt := 111) hx hb dX7_best_107 (by decide) ?_
              refine lv_istore (lv' := [(6, .int 1), (5, .int r_4), (0, .ref (aR 0)), (1, .int f1), (2, .int f2), (3, .int x3), (4, .int x4)]) hx hb dX7_best_111 hl (by decide) rfl (fun ls hl => ?_)
              refine lv_iload hx hb dX7_best_113 (lv_at hl 0 rfl) ?_
              refine lv_if_eq (tgt := 123) hx hb dX7_best_115 (by decide) (fun c => absurd c (by decide)) (fun _ => ?_)
              refine lv_iload hx hb dX7_best_118 (lv_at hl 6 rfl) ?_
              refine lv_goto (tgt := 124) hx hb dX7_best_120 (by decide) ?_
              refine lv_istore_n (lv' := [(3, .int x4), (6, .int 1), (5, .int r_4), (0, .ref (aR 0)), (1, .int f1), (2, .int f2), (4, .int x4)]) hx hb dX7_best_124 rfl hl (by decide) rfl (fun ls hl => ?_)
              refine lv_iinc (v := (x4 + 1)) (lv' := [(4, .int (x4 + 1)), (3, .int x4), (6, .int 1), (5, .int r_4), (0, .ref (aR 0)), (1, .int f1), (2, .int f2)]) hx hb dX7_best_125 hl (k := 6) rfl rfl (by decide) rfl (fun ls hl => ?_)
              refine lv_goto (tgt := 26) hx hb dX7_best_128 (by decide) ?_
              exact ih _ _ _ h _ _ _ hw (lv_sub hl [4, 5, 6, 1, 0] rfl) hk0
            · replace h := h.2 c_19
              refine lv_iload hx hb dX7_best_80 (lv_at hl 0 rfl) ?_
              refine lv_aload_n hx hb dX7_best_82 rfl (lv_at hl 1 rfl) ?_
              refine lv_iload_n hx hb dX7_best_83 rfl (lv_at hl 4 rfl) ?_
              refine x_cV (As := [.int x3]) (rest := [.int r_4]) (F := []) C0 hw (p_nil _) hl.1 0 7 rfl rfl (c_X7_price l E aR h) 1 gX7_best_X7_price rfl ⟨rfl, rfl⟩ (by decide +kernel) ⟨Nat.le_of_ble_eq_true rfl, Nat.le_of_ble_eq_true rfl⟩ rfl rfl (Nat.le_of_ble_eq_true rfl) dX7_best_84 ⟨Nat.zero_le _, Nat.zero_le _⟩ (fun r_11 v_12 H locs h (hw : mw E A s.heap H locs (cR E aR v_12)) => ?_)
              refine lv_icmp_ne (tgt := 110) hx hb dX7_best_87 (by decide) (fun c_18 => ?_) (fun c_18 => ?_)
              · replace h := h.1 c_18
                refine lv_iconst (v := 0) hx hb dX7_best_110 (by decide) ?_
                refine lv_istore (lv' := [(6, .int 0), (5, .int r_4), (0, .ref (aR 0)), (1, .int f1), (2, .int f2), (3, .int x3), (4, .int x4)]) hx hb dX7_best_111 hl (by decide) rfl (fun ls hl => ?_)
                refine lv_iload hx hb dX7_best_113 (lv_at hl 0 rfl) ?_
                refine lv_if_eq (tgt := 123) hx hb dX7_best_115 (by decide) (fun _ => ?_) (fun c => absurd (by decide) c)
                refine lv_iload_n hx hb dX7_best_123 rfl (lv_at hl 5 rfl) ?_
                refine lv_istore_n (lv' := [(3, .int x3), (6, .int 0), (5, .int r_4), (0, .ref (aR 0)), (1, .int f1), (2, .int f2), (4, .int x4)]) hx hb dX7_best_124 rfl hl (by decide) rfl (fun ls hl => ?_)
                refine lv_iinc (v := (x4 + 1)) (lv' := [(4, .int (x4 + 1)), (3, .int x3), (6, .int 0), (5, .int r_4), (0, .ref (aR 0)), (1, .int f1), (2, .int f2)]) hx hb dX7_best_125 hl (k := 6) rfl rfl (by decide) rfl (fun ls hl => ?_)
                refine lv_goto (tgt := 26) hx hb dX7_best_128 (by decide) ?_
                exact ih _ _ _ h _ _ _ hw (lv_sub hl [4, 5, 6, 1, 0] rfl) hk0
              · replace h := h.2 c_18
                refine lv_aload_n hx hb dX7_best_90 rfl (lv_at hl 1 rfl) ?_
                refine lv_iload hx hb dX7_best_91 (lv_at hl 5 rfl) ?_
                refine lv_iconst (v := 0) hx hb dX7_best_93 (by decide) ?_
                refine x_cV (As := [.int x4, .int 0]) (rest := []) (F := []) C0 hw (p_nil _) hl.1 0 7 rfl rfl (c_X7_ofStone l E aR h) 2 gX7_best_X7_ofStone rfl ⟨rfl, rfl⟩ (by decide +kernel) ⟨Nat.le_of_ble_eq_true rfl, Nat.le_of_ble_eq_true rfl⟩ rfl rfl (Nat.le_of_ble_eq_true rfl) dX7_best_94 ⟨Nat.zero_le _, Nat.zero_le _⟩ (fun r_13 v_14 H locs h (hw : mw E A s.heap H locs (cR E aR v_14)) => ?_)
                refine lv_aload_n hx hb dX7_best_97 rfl (lv_at hl 1 rfl) ?_
                refine lv_iload_n hx hb dX7_best_98 rfl (lv_at hl 4 rfl) ?_
                refine lv_iconst (v := 0) hx hb dX7_best_99 (by decide) ?_
                refine x_cV (As := [.int x3, .int 0]) (rest := [.int r_13]) (F := []) C0 hw (p_nil _) hl.1 0 7 rfl rfl (c_X7_ofStone l E aR h) 2 gX7_best_X7_ofStone rfl ⟨rfl, rfl⟩ (by decide +kernel) ⟨Nat.le_of_ble_eq_true rfl, Nat.le_of_ble_eq_true rfl⟩ rfl rfl (Nat.le_of_ble_eq_true rfl) dX7_best_100 ⟨Nat.zero_le _, Nat.zero_le _⟩ (fun r_15 v_16 H locs h (hw : mw E A s.heap H locs (cR E aR v_16)) => ?_)
                refine lv_icmp_le (tgt := 110) hx hb dX7_best_103 (by decide) (fun c_17 => ?_) (fun c_17 => ?_)
                · replace h := h.1 c_17
                  refine lv_iconst (v := 0) hx hb dX7_best_110 (by decide) ?_
                  refine lv_istore (lv' := [(6, .int 0), (5, .int r_4), (0, .ref (aR 0)), (1, .int f1), (2, .int f2), (3, .int x3), (4, .int x4)]) hx hb dX7_best_111 hl (by decide) rfl (fun ls hl => ?_)
                  refine lv_iload hx hb dX7_best_113 (lv_at hl 0 rfl) ?_
                  refine lv_if_eq (tgt := 123) hx hb dX7_best_115 (by decide) (fun _ => ?_) (fun c => absurd (by decide) c)
                  refine lv_iload_n hx hb dX7_best_123 rfl (lv_at hl 5 rfl) ?_
                  refine lv_istore_n (lv' := [(3, .int x3), (6, .int 0), (5, .int r_4), (0, .ref (aR 0)), (1, .int f1), (2, .int f2), (4, .int x4)]) hx hb dX7_best_124 rfl hl (by decide) rfl (fun ls hl => ?_)
                  refine lv_iinc (v := (x4 + 1)) (lv' := [(4, .int (x4 + 1)), (3, .int x3), (6, .int 0), (5, .int r_4), (0, .ref (aR 0)), (1, .int f1), (2, .int f2)]) hx hb dX7_best_125 hl (k := 6) rfl rfl (by decide) rfl (fun ls hl => ?_)
                  refine lv_goto (tgt := 26) hx hb dX7_best_128 (by decide) ?_
                  exact ih _ _ _ h _ _ _ hw (lv_sub hl [4, 5, 6, 1, 0] rfl) hk0
                · replace h := h.2 c_17
                  refine lv_iconst (v := 1) hx hb dX7_best_106 (by decide) ?_
                  refine lv_goto (tgt := 111) hx hb dX7_best_107 (by decide) ?_
                  refine lv_istore (lv' := [(6, .int 1), (5, .int r_4), (0, .ref (aR 0)), (1, .int f1), (2, .int f2), (3, .int x3), (4, .int x4)]) hx hb dX7_best_111 hl (by decide) rfl (fun ls hl => ?_)
                  refine lv_iload hx hb dX7_best_113 (lv_at hl 0 rfl) ?_
                  refine lv_if_eq (tgt := 123) hx hb dX7_best_115 (by decide) (fun c => absurd c (by decide)) (fun _ => ?_)
                  refine lv_iload hx hb dX7_best_118 (lv_at hl 6 rfl) ?_
                  refine lv_goto (tgt := 124) hx hb dX7_best_120 (by decide) ?_
                  refine lv_istore_n (lv' := [(3, .int x4), (6, .int 1), (5, .int r_4), (0, .ref (aR 0)), (1, .int f1), (2, .int f2), (4, .int x4)]) hx hb dX7_best_124 rfl hl (by decide) rfl (fun ls hl => ?_)
                  refine lv_iinc (v := (x4 + 1)) (lv' := [(4, .int (x4 + 1)), (3, .int x4), (6, .int 1), (5, .int r_4), (0, .ref (aR 0)), (1, .int f1), (2, .int f2)]) hx hb dX7_best_125 hl (k := 6) rfl rfl (by decide) rfl (fun ls hl => ?_)
                  refine lv_goto (tgt := 26) hx hb dX7_best_128 (by decide) ?_
                  exact ih _ _ _ h _ _ _ hw (lv_sub hl [4, 5, 6, 1, 0] rfl) hk0
set_option maxRecDepth 100000 in
set_option maxHeartbeats 4000000 in
theorem c_X7_best (l : Launch) (E : EE) (aR : Nat → Nat) {v : V}  {p1 : Int32} {p2 : Int32} {post : Int32 → V → Prop} (h : s_X7_best v p1 p2 post) : KI l E yX7_best wsX7_best rmX7_best [.ref (aR 0), .int p1, .int p2] (cR E aR v) post (fun u => cR E aR u) := by
  unfold s_X7_best at h
  refine KI.go (cc := cX7_best) (ret := (some .int)) (maxL := 7) (own := RX7) (by decide) rfl (Nat.le_of_ble_eq_true rfl) rfl (fun p e s m below meth c A ls C0 hw hl => ?_)
  have hx := C0.1
  have hb := C0.2.1
  have hiX7 : ∀ w ∈ wsX70, w ∈ wsX7_best := fun w h => List.mem_cons_of_mem _ (List.mem_append_right _ h)
  replace hl : lv_has ls 7 [(0, .ref (aR 0)), (1, .int p1), (2, .int p2)] := hl
  refine lv_aload_n hx hb dX7_best_0 rfl (lv_at hl 0 rfl) ?_
  refine lv_iload_n hx hb dX7_best_1 rfl (lv_at hl 1 rfl) ?_
  refine x_cV (As := [.int p1]) (rest := []) (F := []) C0 hw (p_nil _) hl.1 0 7 rfl rfl (c_X7_isDealer l E aR h) 1 gX7_best_X7_isDealer rfl ⟨rfl, rfl⟩ (by decide +kernel) ⟨Nat.le_of_ble_eq_true rfl, Nat.le_of_ble_eq_true rfl⟩ rfl rfl (Nat.le_of_ble_eq_true rfl) dX7_best_2 ⟨Nat.zero_le _, Nat.zero_le _⟩ (fun r_1 v_2 H locs h (hw : mw E A s.heap H locs (cR E aR v_2)) => ?_)
  refine lv_if_eq (tgt := 18) hx hb dX7_best_5 (by decide) (fun c_33 => ?_) (fun c_33 => ?_)
  · replace h := h.1 c_33
    refine x_ldc (v := (-10000001)) C0 2 rfl dX7_best_18 ?_
    exact x_ret C0 v_2 hw h dX7_best_20
  · replace h := h.2 c_33
    refine lv_iload_n hx hb dX7_best_8 rfl (lv_at hl 2 rfl) ?_
    refine lv_iconst (v := 0) hx hb dX7_best_9 (by decide) ?_
    refine x_ldc (v := 99999) C0 1 rfl dX7_best_10 ?_
    refine x_cS (As := [.int p2, .int 0, .int 99999]) (rest := []) (F := (cR E aR v_2)) C0 hw (p_non _) hl.1 (c_X7_in l E  h) 3 gX7_best_X7_in rfl ⟨rfl, rfl⟩ (by decide +kernel) ⟨Nat.le_of_ble_eq_true rfl, Nat.le_of_ble_eq_true rfl⟩ rfl rfl (Nat.le_of_ble_eq_true rfl) dX7_best_12 ⟨Nat.zero_le _, Nat.zero_le _⟩ (fun r_3 _u H locs h (hw : mw E A s.heap H locs (cR E aR v_2)) => ?_)
    refine lv_if_ne (tgt := 21) hx hb dX7_best_15 (by decide) (fun c_31 => ?_) (fun c_31 => ?_)
    · replace h := h.1 c_31
      refine lv_iconst (v := (-1)) hx hb dX7_best_21 (by decide) ?_
      refine lv_istore_n (lv' := [(3, .int (-1)), (0, .ref (aR 0)), (1, .int p1), (2, .int p2)]) hx hb dX7_best_22 rfl hl (by decide) rfl (fun ls hl => ?_)
      refine lv_iconst (v := 0) hx hb dX7_best_23 (by decide) ?_
      refine lv_istore (lv' := [(4, .int 0), (3, .int (-1)), (0, .ref (aR 0)), (1, .int p1), (2, .int p2)]) hx hb dX7_best_24 hl (by decide) rfl (fun ls hl => ?_)
      obtain ⟨n_25, h⟩ := h
      refine w_X7_best_26 C0 _ _ _ _ h _ _ _ hw (lv_sub hl [2, 3, 4, 1, 0] rfl) ?_
      · intro x3_26 x4_27 v_28 H locs ls h hw hl
        refine lv_iload_n hx hb dX7_best_131 rfl (lv_at hl 3 rfl) ?_
        refine x_cS (As := [.int x3_26]) (rest := []) (F := (cR E aR v_28)) C0 hw (p_non _) hl.1 (c_X7_orNone l E  h) 1 gX7_best_X7_orNone rfl ⟨rfl, rfl⟩ (by decide +kernel) ⟨Nat.le_of_ble_eq_true rfl, Nat.le_of_ble_eq_true rfl⟩ rfl rfl (Nat.le_of_ble_eq_true rfl) dX7_best_132 ⟨Nat.zero_le _, Nat.zero_le _⟩ (fun r_29 _u H locs h (hw : mw E A s.heap H locs (cR E aR v_28)) => ?_)
        exact x_ret C0 v_28 hw h dX7_best_135
    · replace h := h.2 c_31
      refine x_ldc (v := (-10000001)) C0 2 rfl dX7_best_18 ?_
      exact x_ret C0 v_2 hw h dX7_best_20

abbrev rmX7_areAlike : Room := { frames := 2, cells := 0, slots := 0, locals := 44 }
set_option maxRecDepth 100000 in
set_option maxHeartbeats 4000000 in
theorem c_X7_areAlike (l : Launch) (E : EE) (aR : Nat → Nat) {v : V}  {p1 : Int32} {p2 : Int32} {post : Int32 → V → Prop} (h : s_X7_areAlike v p1 p2 post) : KI l E yX7_areAlike wsX7_areAlike rmX7_areAlike [.ref (aR 0), .int p1, .int p2] (cR E aR v) post (fun u => cR E aR u) := by
  unfold s_X7_areAlike at h
  refine KI.go (cc := cX7_areAlike) (ret := (some .boolean)) (maxL := 3) (own := RX7) (by decide) rfl (Nat.le_of_ble_eq_true rfl) rfl (fun p e s m below meth c A ls C0 hw hl => ?_)
  have hx := C0.1
  have hb := C0.2.1
  replace hl : lv_has ls 3 [(0, .ref (aR 0)), (1, .int p1), (2, .int p2)] := hl
  refine lv_aload_n hx hb dX7_areAlike_0 rfl (lv_at hl 0 rfl) ?_
  refine lv_iload_n hx hb dX7_areAlike_1 rfl (lv_at hl 1 rfl) ?_
  refine x_cV (As := [.int p1]) (rest := []) (F := []) C0 hw (p_nil _) hl.1 0 7 rfl rfl (c_X7_sieve l E aR h) 1 gX7_areAlike_X7_sieve rfl ⟨rfl, rfl⟩ (by decide +kernel) ⟨Nat.le_of_ble_eq_true rfl, Nat.le_of_ble_eq_true rfl⟩ rfl rfl (Nat.le_of_ble_eq_true rfl) dX7_areAlike_2 ⟨Nat.zero_le _, Nat.zero_le _⟩ (fun r_1 v_2 H locs h (hw : mw E A s.heap H locs (cR E aR v_2)) => ?_)
  refine lv_aload_n hx hb dX7_areAlike_5 rfl (lv_at hl 0 rfl) ?_
  refine lv_iload_n hx hb dX7_areAlike_6 rfl (lv_at hl 2 rfl) ?_
  refine x_cV (As := [.int p2]) (rest := [.int r_1]) (F := []) C0 hw (p_nil _) hl.1 0 7 rfl rfl (c_X7_sieve l E aR h) 1 gX7_areAlike_X7_sieve rfl ⟨rfl, rfl⟩ (by decide +kernel) ⟨Nat.le_of_ble_eq_true rfl, Nat.le_of_ble_eq_true rfl⟩ rfl rfl (Nat.le_of_ble_eq_true rfl) dX7_areAlike_7 ⟨Nat.zero_le _, Nat.zero_le _⟩ (fun r_3 v_4 H locs h (hw : mw E A s.heap H locs (cR E aR v_4)) => ?_)
  refine lv_icmp_ne (tgt := 47) hx hb dX7_areAlike_10 (by decide) (fun c_15 => ?_) (fun c_15 => ?_)
  · replace h := h.1 c_15
    refine lv_iconst (v := 0) hx hb dX7_areAlike_47 (by decide) ?_
    exact x_retz C0 rfl v_4 hw h dX7_areAlike_48
  · replace h := h.2 c_15
    refine lv_aload_n hx hb dX7_areAlike_13 rfl (lv_at hl 0 rfl) ?_
    refine lv_iload_n hx hb dX7_areAlike_14 rfl (lv_at hl 1 rfl) ?_
    refine lv_iconst (v := 1) hx hb dX7_areAlike_15 (by decide) ?_
    refine x_cV (As := [.int p1, .int 1]) (rest := []) (F := []) C0 hw (p_nil _) hl.1 0 7 rfl rfl (c_X7_ofStone l E aR h) 2 gX7_areAlike_X7_ofStone rfl ⟨rfl, rfl⟩ (by decide +kernel) ⟨Nat.le_of_ble_eq_true rfl, Nat.le_of_ble_eq_true rfl⟩ rfl rfl (Nat.le_of_ble_eq_true rfl) dX7_areAlike_16 ⟨Nat.zero_le _, Nat.zero_le _⟩ (fun r_5 v_6 H locs h (hw : mw E A s.heap H locs (cR E aR v_6)) => ?_)
    refine lv_aload_n hx hb dX7_areAlike_19 rfl (lv_at hl 0 rfl) ?_
    refine lv_iload_n hx hb dX7_areAlike_20 rfl (lv_at hl 2 rfl) ?_
    refine lv_iconst (v := 1) hx hb dX7_areAlike_21 (by decide) ?_
    refine x_cV (As := [.int p2, .int 1]) (rest := [.int r_5]) (F := []) C0 hw (p_nil _) hl.1 0 7 rfl rfl (c_X7_ofStone l E aR h) 2 gX7_areAlike_X7_ofStone rfl ⟨rfl, rfl⟩ (by decide +kernel) ⟨Nat.le_of_ble_eq_true rfl, Nat.le_of_ble_eq_true rfl⟩ rfl rfl (Nat.le_of_ble_eq_true rfl) dX7_areAlike_22 ⟨Nat.zero_le _, Nat.zero_le _⟩ (fun r_7 v_8 H locs h (hw : mw E A s.heap H locs (cR E aR v_8)) => ?_)
    refine lv_icmp_ne (tgt := 47) hx hb dX7_areAlike_25 (by decide) (fun c_14 => ?_) (fun c_14 => ?_)
    · replace h := h.1 c_14
      refine lv_iconst (v := 0) hx hb dX7_areAlike_47 (by decide) ?_
      exact x_retz C0 rfl v_8 hw h dX7_areAlike_48
    · replace h := h.2 c_14
      refine lv_aload_n hx hb dX7_areAlike_28 rfl (lv_at hl 0 rfl) ?_
      refine lv_iload_n hx hb dX7_areAlike_29 rfl (lv_at hl 1 rfl) ?_
      refine lv_iconst (v := 2) hx hb dX7_areAlike_30 (by decide) ?_
      refine x_cV (As := [.int p1, .int 2]) (rest := []) (F := []) C0 hw (p_nil _) hl.1 0 7 rfl rfl (c_X7_ofStone l E aR h) 2 gX7_areAlike_X7_ofStone rfl ⟨rfl, rfl⟩ (by decide +kernel) ⟨Nat.le_of_ble_eq_true rfl, Nat.le_of_ble_eq_true rfl⟩ rfl rfl (Nat.le_of_ble_eq_true rfl) dX7_areAlike_31 ⟨Nat.zero_le _, Nat.zero_le _⟩ (fun r_9 v_10 H locs h (hw : mw E A s.heap H locs (cR E aR v_10)) => ?_)
      refine lv_aload_n hx hb dX7_areAlike_34 rfl (lv_at hl 0 rfl) ?_
      refine lv_iload_n hx hb dX7_areAlike_35 rfl (lv_at hl 2 rfl) ?_
      refine lv_iconst (v := 2) hx hb dX7_areAlike_36 (by decide) ?_
      refine x_cV (As := [.int p2, .int 2]) (rest := [.int r_9]) (F := []) C0 hw (p_nil _) hl.1 0 7 rfl rfl (c_X7_ofStone l E aR h) 2 gX7_areAlike_X7_ofStone rfl ⟨rfl, rfl⟩ (by decide +kernel) ⟨Nat.le_of_ble_eq_true rfl, Nat.le_of_ble_eq_true rfl⟩ rfl rfl (Nat.le_of_ble_eq_true rfl) dX7_areAlike_37 ⟨Nat.zero_le _, Nat.zero_le _⟩ (fun r_11 v_12 H locs h (hw : mw E A s.heap H locs (cR E aR v_12)) => ?_)
      refine lv_icmp_ne (tgt := 47) hx hb dX7_areAlike_40 (by decide) (fun c_13 => ?_) (fun c_13 => ?_)
      · replace h := h.1 c_13
        refine lv_iconst (v := 0) hx hb dX7_areAlike_47 (by decide) ?_
        exact x_retz C0 rfl v_12 hw h dX7_areAlike_48
      · replace h := h.2 c_13
        refine lv_iconst (v := 1) hx hb dX7_areAlike_43 (by decide) ?_
        refine lv_goto (tgt := 48) hx hb dX7_areAlike_44 (by decide) ?_
        exact x_retz C0 rfl v_12 hw h dX7_areAlike_48

abbrev rmX7_apart : Room := { frames := 1, cells := 0, slots := 0, locals := 22 }
set_option maxRecDepth 100000 in
set_option maxHeartbeats 4000000 in
theorem c_X7_apart (l : Launch) (E : EE) (aR : Nat → Nat) {v : V}  {p1 : Int32} {p2 : Int32} {post : Int32 → V → Prop} (h : s_X7_apart v p1 p2 post) : KI l E yX7_apart wsX7_apart rmX7_apart [.ref (aR 0), .int p1, .int p2] (cR E aR v) post (fun u => cR E aR u) := by
  unfold s_X7_apart at h
  refine KI.go (cc := cX7_apart) (ret := (some .int)) (maxL := 4) (own := RX7) (by decide) rfl (Nat.le_of_ble_eq_true rfl) rfl (fun p e s m below meth c A ls C0 hw hl => ?_)
  have hx := C0.1
  have hb := C0.2.1
  replace hl : lv_has ls 4 [(0, .ref (aR 0)), (1, .int p1), (2, .int p2)] := hl
  refine lv_aload_n hx hb dX7_apart_0 rfl (lv_at hl 0 rfl) ?_
  refine lv_iload_n hx hb dX7_apart_1 rfl (lv_at hl 1 rfl) ?_
  refine lv_iconst (v := 0) hx hb dX7_apart_2 (by decide) ?_
  refine x_cV (As := [.int p1, .int 0]) (rest := []) (F := []) C0 hw (p_nil _) hl.1 0 7 rfl rfl (c_X7_ofStone l E aR h) 2 gX7_apart_X7_ofStone rfl ⟨rfl, rfl⟩ (by decide +kernel) ⟨Nat.le_of_ble_eq_true rfl, Nat.le_of_ble_eq_true rfl⟩ rfl rfl (Nat.le_of_ble_eq_true rfl) dX7_apart_3 ⟨Nat.zero_le _, Nat.zero_le _⟩ (fun r_1 v_2 H locs h (hw : mw E A s.heap H locs (cR E aR v_2)) => ?_)
  refine lv_aload_n hx hb dX7_apart_6 rfl (lv_at hl 0 rfl) ?_
  refine lv_iload_n hx hb dX7_apart_7 rfl (lv_at hl 2 rfl) ?_
  refine lv_iconst (v := 0) hx hb dX7_apart_8 (by decide) ?_
  refine x_cV (As := [.int p2, .int 0]) (rest := [.int r_1]) (F := []) C0 hw (p_nil _) hl.1 0 7 rfl rfl (c_X7_ofStone l E aR h) 2 gX7_apart_X7_ofStone rfl ⟨rfl, rfl⟩ (by decide +kernel) ⟨Nat.le_of_ble_eq_true rfl, Nat.le_of_ble_eq_true rfl⟩ rfl rfl (Nat.le_of_ble_eq_true rfl) dX7_apart_9 ⟨Nat.zero_le _, Nat.zero_le _⟩ (fun r_3 v_4 H locs h (hw : mw E A s.heap H locs (cR E aR v_4)) => ?_)
  refine lv_isub hx hb dX7_apart_12 ?_
  refine lv_istore_n (lv' := [(3, .int (r_1 - r_3)), (0, .ref (aR 0)), (1, .int p1), (2, .int p2)]) hx hb dX7_apart_13 rfl hl (by decide) rfl (fun ls hl => ?_)
  refine lv_iload_n hx hb dX7_apart_14 rfl (lv_at hl 0 rfl) ?_
  refine lv_if_ge (tgt := 23) hx hb dX7_apart_15 (by decide) (fun c_5 => ?_) (fun c_5 => ?_)
  · replace h := h.1 c_5
    refine lv_iload_n hx hb dX7_apart_23 rfl (lv_at hl 0 rfl) ?_
    exact x_ret C0 v_4 hw h dX7_apart_24
  · replace h := h.2 c_5
    refine lv_iload_n hx hb dX7_apart_18 rfl (lv_at hl 0 rfl) ?_
    refine lv_ineg hx hb dX7_apart_19 ?_
    refine lv_goto (tgt := 24) hx hb dX7_apart_20 (by decide) ?_
    exact x_ret C0 v_4 hw h dX7_apart_24

abbrev rmX7_pair : Room := { frames := 3, cells := 0, slots := 0, locals := 66 }
set_option maxRecDepth 100000 in
set_option maxHeartbeats 4000000 in
theorem w_X7_pair_28 {p : Program} {l : Launch} {e : Env} {s : State} {m : MethodId} {below : List Frame} {meth : Method} {c : Code} {E : EE} {A : Nat → Prop} {aR : Nat → Nat} {args : Array Value} (C0 : Cx E p s m args meth c A cX7_pair 9 RX7 wsX7_pair (some .int)) {post : Int32 → V → Prop}  {f1 : Int32} {f2 : Int32} {k0 : Int32 → Int32 → Int32 → V → Prop} : ∀ (n : Nat) (x3 : Int32) (x4 : Int32) (x5 : Int32) (v : V), sl_X7_pair_28 post f1 f2 k0 n x3 x4 x5 v → ∀ (H : Heap) (locs : List Loc) (ls : Array Slot), mw E A s.heap H locs (cR E aR v) → lv_has ls 9 [(0, .ref (aR 0)), (1, .int f1), (2, .int f2), (3, .int x3), (4, .int x4), (5, .int x5)] → (∀ (x3 : Int32) (x4 : Int32) (x5 : Int32) (v : V) (H : Heap) (locs : List Loc) (ls : Array Slot), k0 x3 x4 x5 v → mw E A s.heap H locs (cR E aR v) → lv_has ls 9 [(0, .ref (aR 0)), (1, .int f1), (2, .int f2), (3, .int x3), (4, .int x4), (5, .int x5)] → W p l e rmX7_pair s m args below meth c H locs 0 0 (qI E A post (fun u => cR E aR u) below args s) (F0 m 149 ls [])) → W p l e rmX7_pair s m args below meth c H locs 0 0 (qI E A post (fun u => cR E aR u) below args s) (F0 m 28 ls []) := by
  have hx := C0.1
  have hb := C0.2.1
  have hiX7 : ∀ w ∈ wsX70, w ∈ wsX7_pair := fun w h => List.mem_cons_of_mem _ (List.mem_append_right _ h)
  intro n
  induction n with
  | zero => intro x3 x4 x5 v h; exact False.elim h
  | succ n ih =>
    intro x3 x4 x5 v h H locs ls hw hl hk0
    replace h : sb_X7_pair_28 post f1 f2 k0 (sl_X7_pair_28 post f1 f2 k0 n) x3 x4 x5 v := h
    unfold sb_X7_pair_28 at h
    refine lv_iload hx hb dX7_pair_28 (lv_at hl 5 rfl) ?_
    refine lv_sipush (v := 400) hx hb dX7_pair_30 (by decide) ?_
    refine lv_icmp_ge (tgt := 149) hx hb dX7_pair_33 (by decide) (fun c_23 => ?_) (fun c_23 => ?_)
    · replace h := h.1 c_23
      exact hk0 _ _ _ _ _ _ _ h hw (lv_sub hl [0, 1, 2, 3, 4, 5] rfl)
    · replace h := h.2 c_23
      refine lv_iload hx hb dX7_pair_36 (lv_at hl 5 rfl) ?_
      refine lv_bipush (v := 20) hx hb dX7_pair_38 (by decide) ?_
      refine lv_idiv hx hb dX7_pair_40 (by decide) ?_
      refine lv_istore (lv' := [(6, .int (x5 / 20)), (0, .ref (aR 0)), (1, .int f1), (2, .int f2), (3, .int x3), (4, .int x4), (5, .int x5)]) hx hb dX7_pair_41 hl (by decide) rfl (fun ls hl => ?_)
      refine lv_iload hx hb dX7_pair_43 (lv_at hl 6 rfl) ?_
      refine lv_bipush (v := 20) hx hb dX7_pair_45 (by decide) ?_
      refine lv_irem hx hb dX7_pair_47 (by decide) ?_
      refine lv_istore (lv' := [(7, .int (x5 - x5 / 20 * 20)), (6, .int (x5 / 20)), (0, .ref (aR 0)), (1, .int f1), (2, .int f2), (3, .int x3), (4, .int x4), (5, .int x5)]) hx hb dX7_pair_48 hl (by decide) rfl (fun ls hl => ?_)
      refine lv_iload hx hb dX7_pair_50 (lv_at hl 1 rfl) ?_
      refine lv_iload hx hb dX7_pair_52 (lv_at hl 0 rfl) ?_
      refine lv_icmp_ge (tgt := 94) hx hb dX7_pair_54 (by decide) (fun c_22 => ?_) (fun c_22 => ?_)
      · replace h := h.1 c_22
        refine lv_iconst (v := 0) hx hb dX7_pair_94 (by decide) ?_
        refine lv_istore (lv' := [(8, .int 0), (7, .int (x5 - x5 / 20 * 20)), (6, .int (x5 / 20)), (0, .ref (aR 0)), (1, .int f1), (2, .int f2), (3, .int x3), (4, .int x4), (5, .int x5)]) hx hb dX7_pair_95 hl (by decide) rfl (fun ls hl => ?_)
        refine lv_iload hx hb dX7_pair_97 (lv_at hl 0 rfl) ?_
        refine lv_if_eq (tgt := 143) hx hb dX7_pair_99 (by decide) (fun _ => ?_) (fun c => absurd (by decide) c)
        refine lv_iinc (v := (x5 + 1)) (lv' := [(5, .int (x5 + 1)), (8, .int 0), (7, .int (x5 - x5 / 20 * 20)), (6, .int (x5 / 20)), (0, .ref (aR 0)), (1, .int f1), (2, .int f2), (3, .int x3), (4, .int x4)]) hx hb dX7_pair_143 hl (k := 8) rfl rfl (by decide) rfl (fun ls hl => ?_)
        refine lv_goto (tgt := 28) hx hb dX7_pair_146 (by decide) ?_
        exact ih _ _ _ _ h _ _ _ hw (lv_sub hl [4, 5, 6, 7, 8, 0] rfl) hk0
      · replace h := h.2 c_22
        refine lv_iload hx hb dX7_pair_57 (lv_at hl 0 rfl) ?_
        refine lv_aload_n hx hb dX7_pair_59 rfl (lv_at hl 2 rfl) ?_
        refine x_get C0 hw 7 hiX7 rfl 0 rfl 0 (by decide) 2 rfl rfl dX7_pair_60 ?_
        refine lv_iconst (v := 1) hx hb dX7_pair_63 (by decide) ?_
        refine x_ald C0 hw 1 rfl (vp_in_nI (n := 1) (by decide) (by decide)) dX7_pair_64 ?_
        refine lv_icmp_ge (tgt := 94) hx hb dX7_pair_65 (by decide) (fun c_21 => ?_) (fun c_21 => ?_)
        · replace h := h.1 c_21
          refine lv_iconst (v := 0) hx hb dX7_pair_94 (by decide) ?_
          refine lv_istore (lv' := [(8, .int 0), (7, .int (x5 - x5 / 20 * 20)), (6, .int (x5 / 20)), (0, .ref (aR 0)), (1, .int f1), (2, .int f2), (3, .int x3), (4, .int x4), (5, .int x5)]) hx hb dX7_pair_95 hl (by decide) rfl (fun ls hl => ?_)
          refine lv_iload hx hb dX7_pair_97 (lv_at hl 0 rfl) ?_
          refine lv_if_eq (tgt := 143) hx hb dX7_pair_99 (by decide) (fun _ => ?_) (fun c => absurd (by decide) c)
          refine lv_iinc (v := (x5 + 1)) (lv' := [(5, .int (x5 + 1)), (8, .int 0), (7, .int (x5 - x5 / 20 * 20)), (6, .int (x5 / 20)), (0, .ref (aR 0)), (1, .int f1), (2, .int f2), (3, .int x3), (4, .int x4)]) hx hb dX7_pair_143 hl (k := 8) rfl rfl (by decide) rfl (fun ls hl => ?_)
          refine lv_goto (tgt := 28) hx hb dX7_pair_146 (by decide) ?_
          exact ih _ _ _ _ h _ _ _ hw (lv_sub hl [4, 5, 6, 7, 8, 0] rfl) hk0
        · replace h := h.2 c_21
          refine lv_aload_n hx hb dX7_pair_68 rfl (lv_at hl 2 rfl) ?_
          refine lv_iload hx hb dX7_pair_69 (lv_at hl 1 rfl) ?_
          refine lv_iconst (v := 4) hx hb dX7_pair_71 (by decide) ?_
          refine x_cV (As := [.int (x5 / 20), .int 4]) (rest := []) (F := []) C0 hw (p_nil _) hl.1 0 7 rfl rfl (c_X7_ofStone l E aR h) 2 gX7_pair_X7_ofStone rfl ⟨rfl, rfl⟩ (by decide +kernel) ⟨Nat.le_of_ble_eq_true rfl, Nat.le_of_ble_eq_true rfl⟩ rfl rfl (Nat.le_of_ble_eq_true rfl) dX7_pair_72 ⟨Nat.zero_le _, Nat.zero_le _⟩ (fun r_4 v_5 H locs h (hw : mw E A s.heap H locs (cR E aR v_5)) => ?_)
          refine lv_iload_n hx hb dX7_pair_75 rfl (lv_at hl 3 rfl) ?_
          refine lv_icmp_ne (tgt := 94) hx hb dX7_pair_76 (by decide) (fun c_20 => ?_) (fun c_20 => ?_)
          · replace h := h.1 c_20
            refine lv_iconst (v := 0) hx hb dX7_pair_94 (by decide) ?_
            refine lv_istore (lv' := [(8, .int 0), (7, .int (x5 - x5 / 20 * 20)), (6, .int (x5 / 20)), (0, .ref (aR 0)), (1, .int f1), (2, .int f2), (3, .int x3), (4, .int x4), (5, .int x5)]) hx hb dX7_pair_95 hl (by decide) rfl (fun ls hl => ?_)
            refine lv_iload hx hb dX7_pair_97 (lv_at hl 0 rfl) ?_
            refine lv_if_eq (tgt := 143) hx hb dX7_pair_99 (by decide) (fun _ => ?_) (fun c => absurd (by decide) c)
            refine lv_iinc (v := (x5 + 1)) (lv' := [(5, .int (x5 + 1)), (8, .int 0), (7, .int (x5 - x5 / 20 * 20)), (6, .int (x5 / 20)), (0, .ref (aR 0)), (1, .int f1), (2, .int f2), (3, .int x3), (4, .int x4)]) hx hb dX7_pair_143 hl (k := 8) rfl rfl (by decide) rfl (fun ls hl => ?_)
            refine lv_goto (tgt := 28) hx hb dX7_pair_146 (by decide) ?_
            exact ih _ _ _ _ h _ _ _ hw (lv_sub hl [4, 5, 6, 7, 8, 0] rfl) hk0
          · replace h := h.2 c_20
            refine lv_aload_n hx hb dX7_pair_79 rfl (lv_at hl 2 rfl) ?_
            refine lv_iload hx hb dX7_pair_80 (lv_at hl 0 rfl) ?_
            refine lv_iconst (v := 4) hx hb dX7_pair_82 (by decide) ?_
            refine x_cV (As := [.int (x5 - x5 / 20 * 20), .int 4]) (rest := []) (F := []) C0 hw (p_nil _) hl.1 0 7 rfl rfl (c_X7_ofStone l E aR h) 2 gX7_pair_X7_ofStone rfl ⟨rfl, rfl⟩ (by decide +kernel) ⟨Nat.le_of_ble_eq_true rfl, Nat.le_of_ble_eq_true rfl⟩ rfl rfl (Nat.le_of_ble_eq_true rfl) dX7_pair_83 ⟨Nat.zero_le _, Nat.zero_le _⟩ (fun r_6 v_7 H locs h (hw : mw E A s.heap H locs (cR E aR v_7)) => ?_)
            refine lv_iload_n hx hb dX7_pair_86 rfl (lv_at hl 3 rfl) ?_
            refine lv_icmp_ne (tgt := 94) hx hb dX7_pair_87 (by decide) (fun c_19 => ?_) (fun c_19 => ?_)
            · replace h := h.1 c_19
              refine lv_iconst (v := 0) hx hb dX7_pair_94 (by decide) ?_
              refine lv_istore (lv' := [(8, .int 0), (7, .int (x5 - x5 / 20 * 20)), (6, .int (x5 / 20)), (0, .ref (aR 0)), (1, .int f1), (2, .int f2), (3, .int x3), (4, .int x4), (5, .int x5)]) hx hb dX7_pair_95 hl (by decide) rfl (fun ls hl => ?_)
              refine lv_iload hx hb dX7_pair_97 (lv_at hl 0 rfl) ?_
              refine lv_if_eq (tgt := 143) hx hb dX7_pair_99 (by decide) (fun _ => ?_) (fun c => absurd (by decide) c)
              refine lv_iinc (v := (x5 + 1)) (lv' := [(5, .int (x5 + 1)), (8, .int 0), (7, .int (x5 - x5 / 20 * 20)), (6, .int (x5 / 20)), (0, .ref (aR 0)), (1, .int f1), (2, .int f2), (3, .int x3), (4, .int x4)]) hx hb dX7_pair_143 hl (k := 8) rfl rfl (by decide) rfl (fun ls hl => ?_)
              refine lv_goto (tgt := 28) hx hb dX7_pair_146 (by decide) ?_
              exact ih _ _ _ _ h _ _ _ hw (lv_sub hl [4, 5, 6, 7, 8, 0] rfl) hk0
            · replace h := h.2 c_19
              refine lv_iconst (v := 1) hx hb dX7_pair_90 (by decide) ?_
              refine lv_goto (tgt := 95) hx hb dX7_pair_91 (by decide) ?_
              refine lv_istore (lv' := [(8, .int 1), (7, .int (x5 - x5 / 20 * 20)), (6, .int (x5 / 20)), (0, .ref (aR 0)), (1, .int f1), (2, .int f2), (3, .int x3), (4, .int x4), (5, .int x5)]) hx hb dX7_pair_95 hl (by decide) rfl (fun ls hl => ?_)
              refine lv_iload hx hb dX7_pair_97 (lv_at hl 0 rfl) ?_
              refine lv_if_eq (tgt := 143) hx hb dX7_pair_99 (by decide) (fun c => absurd c (by decide)) (fun _ => ?_)
              refine lv_aload_n hx hb dX7_pair_102 rfl (lv_at hl 3 rfl) ?_
              refine lv_iload hx hb dX7_pair_103 (lv_at hl 2 rfl) ?_
              refine lv_iload hx hb dX7_pair_105 (lv_at hl 1 rfl) ?_
              refine x_cV (As := [.int (x5 / 20), .int (x5 - x5 / 20 * 20)]) (rest := []) (F := []) C0 hw (p_nil _) hl.1 0 7 rfl rfl (c_X7_areAlike l E aR h) 2 gX7_pair_X7_areAlike rfl ⟨rfl, rfl⟩ (by decide +kernel) ⟨Nat.le_of_ble_eq_true rfl, Nat.le_of_ble_eq_true rfl⟩ rfl rfl (Nat.le_of_ble_eq_true rfl) dX7_pair_107 ⟨Nat.zero_le _, Nat.zero_le _⟩ (fun r_8 v_9 H locs h (hw : mw E A s.heap H locs (cR E aR v_9)) => ?_)
              refine lv_if_eq (tgt := 143) hx hb dX7_pair_110 (by decide) (fun c_18 => ?_) (fun c_18 => ?_)
              · replace h := h.1 c_18
                refine lv_iinc (v := (x5 + 1)) (lv' := [(5, .int (x5 + 1)), (8, .int 1), (7, .int (x5 - x5 / 20 * 20)), (6, .int (x5 / 20)), (0, .ref (aR 0)), (1, .int f1), (2, .int f2), (3, .int x3), (4, .int x4)]) hx hb dX7_pair_143 hl (k := 8) rfl rfl (by decide) rfl (fun ls hl => ?_)
                refine lv_goto (tgt := 28) hx hb dX7_pair_146 (by decide) ?_
                exact ih _ _ _ _ h _ _ _ hw (lv_sub hl [4, 5, 6, 7, 8, 0] rfl) hk0
              · replace h := h.2 c_18
                refine lv_iload_n hx hb dX7_pair_113 rfl (lv_at hl 6 rfl) ?_
                refine lv_if_lt (tgt := 130) hx hb dX7_pair_114 (by decide) (fun c_17 => ?_) (fun c_17 => ?_)
                · replace h := h.1 c_17
                  refine lv_iload hx hb dX7_pair_130 (lv_at hl 8 rfl) ?_
                  refine lv_istore_n (lv' := [(3, .int x5), (8, .int 1), (7, .int (x5 - x5 / 20 * 20)), (6, .int (x5 / 20)), (0, .ref (aR 0)), (1, .int f1), (2, .int f2), (4, .int x4), (5, .int x5)]) hx hb dX7_pair_132 rfl hl (by decide) rfl (fun ls hl => ?_)
                  refine lv_aload_n hx hb dX7_pair_133 rfl (lv_at hl 4 rfl) ?_
                  refine lv_iload hx hb dX7_pair_134 (lv_at hl 3 rfl) ?_
                  refine lv_iload hx hb dX7_pair_136 (lv_at hl 2 rfl) ?_
                  refine x_cV (As := [.int (x5 / 20), .int (x5 - x5 / 20 * 20)]) (rest := []) (F := []) C0 hw (p_nil _) hl.1 0 7 rfl rfl (c_X7_apart l E aR h) 2 gX7_pair_X7_apart rfl ⟨rfl, rfl⟩ (by decide +kernel) ⟨Nat.le_of_ble_eq_true rfl, Nat.le_of_ble_eq_true rfl⟩ rfl rfl (Nat.le_of_ble_eq_true rfl) dX7_pair_138 ⟨Nat.zero_le _, Nat.zero_le _⟩ (fun r_10 v_11 H locs h (hw : mw E A s.heap H locs (cR E aR v_11)) => ?_)
                  refine lv_istore (lv' := [(4, .int r_10), (3, .int x5), (8, .int 1), (7, .int (x5 - x5 / 20 * 20)), (6, .int (x5 / 20)), (0, .ref (aR 0)), (1, .int f1), (2, .int f2), (5, .int x5)]) hx hb dX7_pair_141 hl (by decide) rfl (fun ls hl => ?_)
                  refine lv_iinc (v := (x5 + 1)) (lv' := [(5, .int (x5 + 1)), (4, .int r_10), (3, .int x5), (8, .int 1), (7, .int (x5 - x5 / 20 * 20)), (6, .int (x5 / 20)), (0, .ref (aR 0)), (1, .int f1), (2, .int f2)]) hx hb dX7_pair_143 hl (k := 8) rfl rfl (by decide) rfl (fun ls hl => ?_)
                  refine lv_goto (tgt := 28) hx hb dX7_pair_146 (by decide) ?_
                  exact ih _ _ _ _ h _ _ _ hw (lv_sub hl [6, 7, 8, 2, 1, 0] rfl) hk0
                · replace h := h.2 c_17
                  refine lv_aload_n hx hb dX7_pair_117 rfl (lv_at hl 3 rfl) ?_
                  refine lv_iload hx hb dX7_pair_118 (lv_at hl 2 rfl) ?_
                  refine lv_iload hx hb dX7_pair_120 (lv_at hl 1 rfl) ?_
                  refine x_cV (As := [.int (x5 / 20), .int (x5 - x5 / 20 * 20)]) (rest := []) (F := []) C0 hw (p_nil _) hl.1 0 7 rfl rfl (c_X7_apart l E aR h) 2 gX7_pair_X7_apart rfl ⟨rfl, rfl⟩ (by decide +kernel) ⟨Nat.le_of_ble_eq_true rfl, Nat.le_of_ble_eq_true rfl⟩ rfl rfl (Nat.le_of_ble_eq_true rfl) dX7_pair_122 ⟨Nat.zero_le _, Nat.zero_le _⟩ (fun r_12 v_13 H locs h (hw : mw E A s.heap H locs (cR E aR v_13)) => ?_)
                  refine lv_iload hx hb dX7_pair_125 (lv_at hl 7 rfl) ?_
                  refine lv_icmp_ge (tgt := 143) hx hb dX7_pair_127 (by decide) (fun c_16 => ?_) (fun c_16 => ?_)
                  · replace h := h.1 c_16
                    refine lv_iinc (v := (x5 + 1)) (lv' := [(5, .int (x5 + 1)), (8, .int 1), (7, .int (x5 - x5 / 20 * 20)), (6, .int (x5 / 20)), (0, .ref (aR 0)), (1, .int f1), (2, .int f2), (3, .int x3), (4, .int x4)]) hx hb dX7_pair_143 hl (k := 8) rfl rfl (by decide) rfl (fun ls hl => ?_)
                    refine lv_goto (tgt := 28) hx hb dX7_pair_146 (by decide) ?_
                    exact ih _ _ _ _ h _ _ _ hw (lv_sub hl [4, 5, 6, 7, 8, 0] rfl) hk0
                  · replace h := h.2 c_16
                    refine lv_iload hx hb dX7_pair_130 (lv_at hl 8 rfl) ?_
                    refine lv_istore_n (lv' := [(3, .int x5), (8, .int 1), (7, .int (x5 - x5 / 20 * 20)), (6, .int (x5 / 20)), (0, .ref (aR 0)), (1, .int f1), (2, .int f2), (4, .int x4), (5, .int x5)]) hx hb dX7_pair_132 rfl hl (by decide) rfl (fun ls hl => ?_)
                    refine lv_aload_n hx hb dX7_pair_133 rfl (lv_at hl 4 rfl) ?_
                    refine lv_iload hx hb dX7_pair_134 (lv_at hl 3 rfl) ?_
                    refine lv_iload hx hb dX7_pair_136 (lv_at hl 2 rfl) ?_
                    refine x_cV (As := [.int (x5 / 20), .int (x5 - x5 / 20 * 20)]) (rest := []) (F := []) C0 hw (p_nil _) hl.1 0 7 rfl rfl (c_X7_apart l E aR h) 2 gX7_pair_X7_apart rfl ⟨rfl, rfl⟩ (by decide +kernel) ⟨Nat.le_of_ble_eq_true rfl, Nat.le_of_ble_eq_true rfl⟩ rfl rfl (Nat.le_of_ble_eq_true rfl) dX7_pair_138 ⟨Nat.zero_le _, Nat.zero_le _⟩ (fun r_14 v_15 H locs h (hw : mw E A s.heap H locs (cR E aR v_15)) => ?_)
                    refine lv_istore (lv' := [(4, .int r_14), (3, .int x5), (8, .int 1), (7, .int (x5 - x5 / 20 * 20)), (6, .int (x5 / 20)), (0, .ref (aR 0)), (1, .int f1), (2, .int f2), (5, .int x5)]) hx hb dX7_pair_141 hl (by decide) rfl (fun ls hl => ?_)
                    refine lv_iinc (v := (x5 + 1)) (lv' := [(5, .int (x5 + 1)), (4, .int r_14), (3, .int x5), (8, .int 1), (7, .int (x5 - x5 / 20 * 20)), (6, .int (x5 / 20)), (0, .ref (aR 0)), (1, .int f1), (2, .int f2)]) hx hb dX7_pair_143 hl (k := 8) rfl rfl (by decide) rfl (fun ls hl => ?_)
                    refine lv_goto (tgt := 28) hx hb dX7_pair_146 (by decide) ?_
                    exact ih _ _ _ _ h _ _ _ hw (lv_sub hl [6, 7, 8, 2, 1, 0] rfl) hk0
set_option maxRecDepth 100000 in
set_option maxHeartbeats 4000000 in
theorem c_X7_pair (l : Launch) (E : EE) (aR : Nat → Nat) {v : V}  {p1 : Int32} {p2 : Int32} {post : Int32 → V → Prop} (h : s_X7_pair v p1 p2 post) : KI l E yX7_pair wsX7_pair rmX7_pair [.ref (aR 0), .int p1, .int p2] (cR E aR v) post (fun u => cR E aR u) := by
  unfold s_X7_pair at h
  refine KI.go (cc := cX7_pair) (ret := (some .int)) (maxL := 9) (own := RX7) (by decide) rfl (Nat.le_of_ble_eq_true rfl) rfl (fun p e s m below meth c A ls C0 hw hl => ?_)
  have hx := C0.1
  have hb := C0.2.1
  have hiX7 : ∀ w ∈ wsX70, w ∈ wsX7_pair := fun w h => List.mem_cons_of_mem _ (List.mem_append_right _ h)
  replace hl : lv_has ls 9 [(0, .ref (aR 0)), (1, .int p1), (2, .int p2)] := hl
  refine lv_aload_n hx hb dX7_pair_0 rfl (lv_at hl 0 rfl) ?_
  refine lv_iload_n hx hb dX7_pair_1 rfl (lv_at hl 1 rfl) ?_
  refine x_cV (As := [.int p1]) (rest := []) (F := []) C0 hw (p_nil _) hl.1 0 7 rfl rfl (c_X7_isDealer l E aR h) 1 gX7_pair_X7_isDealer rfl ⟨rfl, rfl⟩ (by decide +kernel) ⟨Nat.le_of_ble_eq_true rfl, Nat.le_of_ble_eq_true rfl⟩ rfl rfl (Nat.le_of_ble_eq_true rfl) dX7_pair_2 ⟨Nat.zero_le _, Nat.zero_le _⟩ (fun r_1 v_2 H locs h (hw : mw E A s.heap H locs (cR E aR v_2)) => ?_)
  refine lv_if_eq (tgt := 17) hx hb dX7_pair_5 (by decide) (fun c_34 => ?_) (fun c_34 => ?_)
  · replace h := h.1 c_34
    refine x_ldc (v := (-10000001)) C0 1 rfl dX7_pair_17 ?_
    exact x_ret C0 v_2 hw h dX7_pair_19
  · replace h := h.2 c_34
    refine lv_iload_n hx hb dX7_pair_8 rfl (lv_at hl 2 rfl) ?_
    refine lv_iconst (v := 0) hx hb dX7_pair_9 (by decide) ?_
    refine lv_iconst (v := 2) hx hb dX7_pair_10 (by decide) ?_
    refine x_cS (As := [.int p2, .int 0, .int 2]) (rest := []) (F := (cR E aR v_2)) C0 hw (p_non _) hl.1 (c_X7_in l E  h) 3 gX7_pair_X7_in rfl ⟨rfl, rfl⟩ (by decide +kernel) ⟨Nat.le_of_ble_eq_true rfl, Nat.le_of_ble_eq_true rfl⟩ rfl rfl (Nat.le_of_ble_eq_true rfl) dX7_pair_11 ⟨Nat.zero_le _, Nat.zero_le _⟩ (fun r_3 _u H locs h (hw : mw E A s.heap H locs (cR E aR v_2)) => ?_)
    refine lv_if_ne (tgt := 20) hx hb dX7_pair_14 (by decide) (fun c_32 => ?_) (fun c_32 => ?_)
    · replace h := h.1 c_32
      refine lv_iconst (v := (-1)) hx hb dX7_pair_20 (by decide) ?_
      refine lv_istore_n (lv' := [(3, .int (-1)), (0, .ref (aR 0)), (1, .int p1), (2, .int p2)]) hx hb dX7_pair_21 rfl hl (by decide) rfl (fun ls hl => ?_)
      refine lv_iconst (v := 0) hx hb dX7_pair_22 (by decide) ?_
      refine lv_istore (lv' := [(4, .int 0), (3, .int (-1)), (0, .ref (aR 0)), (1, .int p1), (2, .int p2)]) hx hb dX7_pair_23 hl (by decide) rfl (fun ls hl => ?_)
      refine lv_iconst (v := 0) hx hb dX7_pair_25 (by decide) ?_
      refine lv_istore (lv' := [(5, .int 0), (4, .int 0), (3, .int (-1)), (0, .ref (aR 0)), (1, .int p1), (2, .int p2)]) hx hb dX7_pair_26 hl (by decide) rfl (fun ls hl => ?_)
      obtain ⟨n_24, h⟩ := h
      refine w_X7_pair_28 C0 _ _ _ _ _ h _ _ _ hw (lv_sub hl [3, 4, 5, 2, 1, 0] rfl) ?_
      · intro x3_25 x4_26 x5_27 v_28 H locs ls h hw hl
        refine lv_iload_n hx hb dX7_pair_149 rfl (lv_at hl 3 rfl) ?_
        refine lv_if_ge (tgt := 158) hx hb dX7_pair_150 (by decide) (fun c_31 => ?_) (fun c_31 => ?_)
        · replace h := h.1 c_31
          refine lv_iload_n hx hb dX7_pair_158 rfl (lv_at hl 2 rfl) ?_
          refine lv_if_ne (tgt := 169) hx hb dX7_pair_159 (by decide) (fun c_30 => ?_) (fun c_30 => ?_)
          · replace h := h.1 c_30
            refine lv_iload_n hx hb dX7_pair_169 rfl (lv_at hl 2 rfl) ?_
            refine lv_iconst (v := 1) hx hb dX7_pair_170 (by decide) ?_
            refine lv_icmp_ne (tgt := 181) hx hb dX7_pair_171 (by decide) (fun c_29 => ?_) (fun c_29 => ?_)
            · replace h := h.1 c_29
              refine lv_iload hx hb dX7_pair_181 (lv_at hl 4 rfl) ?_
              exact x_ret C0 v_28 hw h dX7_pair_183
            · replace h := h.2 c_29
              refine lv_iload_n hx hb dX7_pair_174 rfl (lv_at hl 3 rfl) ?_
              refine lv_bipush (v := 20) hx hb dX7_pair_175 (by decide) ?_
              refine lv_irem hx hb dX7_pair_177 (by decide) ?_
              refine lv_goto (tgt := 183) hx hb dX7_pair_178 (by decide) ?_
              exact x_ret C0 v_28 hw h dX7_pair_183
          · replace h := h.2 c_30
            refine lv_iload_n hx hb dX7_pair_162 rfl (lv_at hl 3 rfl) ?_
            refine lv_bipush (v := 20) hx hb dX7_pair_163 (by decide) ?_
            refine lv_idiv hx hb dX7_pair_165 (by decide) ?_
            refine lv_goto (tgt := 183) hx hb dX7_pair_166 (by decide) ?_
            exact x_ret C0 v_28 hw h dX7_pair_183
        · replace h := h.2 c_31
          refine x_ldc (v := (-10000004)) C0 3 rfl dX7_pair_153 ?_
          refine lv_goto (tgt := 183) hx hb dX7_pair_155 (by decide) ?_
          exact x_ret C0 v_28 hw h dX7_pair_183
    · replace h := h.2 c_32
      refine x_ldc (v := (-10000001)) C0 1 rfl dX7_pair_17 ?_
      exact x_ret C0 v_2 hw h dX7_pair_19

abbrev rmX7_grades : Room := { frames := 3, cells := 0, slots := 0, locals := 66 }
set_option maxRecDepth 100000 in
set_option maxHeartbeats 4000000 in
theorem w_X7_grades_45 {p : Program} {l : Launch} {e : Env} {s : State} {m : MethodId} {below : List Frame} {meth : Method} {c : Code} {E : EE} {A : Nat → Prop} {aR : Nat → Nat} {args : Array Value} (C0 : Cx E p s m args meth c A cX7_grades 6 RX7 wsX7_grades (some .int)) {post : Int32 → V → Prop}  {f1 : Int32} {f2 : Int32} {f3 : Int32} {k0 : Int32 → Int32 → V → Prop} : ∀ (n : Nat) (x4 : Int32) (x5 : Int32) (v : V), sl_X7_grades_45 post f1 f2 f3 k0 n x4 x5 v → ∀ (H : Heap) (locs : List Loc) (ls : Array Slot), mw E A s.heap H locs (cR E aR v) → lv_has ls 6 [(0, .ref (aR 0)), (1, .int f1), (2, .int f2), (3, .int f3), (4, .int x4), (5, .int x5)] → (∀ (x4 : Int32) (x5 : Int32) (v : V) (H : Heap) (locs : List Loc) (ls : Array Slot), k0 x4 x5 v → mw E A s.heap H locs (cR E aR v) → lv_has ls 6 [(0, .ref (aR 0)), (1, .int f1), (2, .int f2), (3, .int f3), (4, .int x4), (5, .int x5)] → W p l e rmX7_grades s m args below meth c H locs 0 0 (qI E A post (fun u => cR E aR u) below args s) (F0 m 90 ls [])) → W p l e rmX7_grades s m args below meth c H locs 0 0 (qI E A post (fun u => cR E aR u) below args s) (F0 m 45 ls []) := by
  have hx := C0.1
  have hb := C0.2.1
  have hiX7 : ∀ w ∈ wsX70, w ∈ wsX7_grades := fun w h => List.mem_cons_of_mem _ (List.mem_append_right _ h)
  intro n
  induction n with
  | zero => intro x4 x5 v h; exact False.elim h
  | succ n ih =>
    intro x4 x5 v h H locs ls hw hl hk0
    replace h : sb_X7_grades_45 post f1 f2 f3 k0 (sl_X7_grades_45 post f1 f2 f3 k0 n) x4 x5 v := h
    unfold sb_X7_grades_45 at h
    refine lv_iload hx hb dX7_grades_45 (lv_at hl 5 rfl) ?_
    refine lv_iload_n hx hb dX7_grades_47 rfl (lv_at hl 3 rfl) ?_
    refine lv_icmp_ge (tgt := 90) hx hb dX7_grades_48 (by decide) (fun c_12 => ?_) (fun c_12 => ?_)
    · replace h := h.1 c_12
      exact hk0 _ _ _ _ _ _ h hw (lv_sub hl [0, 1, 2, 3, 4, 5] rfl)
    · replace h := h.2 c_12
      refine lv_iload hx hb dX7_grades_51 (lv_at hl 4 rfl) ?_
      refine lv_if_eq (tgt := 90) hx hb dX7_grades_53 (by decide) (fun c_11 => ?_) (fun c_11 => ?_)
      · replace h := h.1 c_11
        exact hk0 _ _ _ _ _ _ h hw (lv_sub hl [0, 1, 2, 3, 4, 5] rfl)
      · replace h := h.2 c_11
        refine lv_aload_n hx hb dX7_grades_56 rfl (lv_at hl 0 rfl) ?_
        refine lv_iload hx hb dX7_grades_57 (lv_at hl 5 rfl) ?_
        refine lv_iconst (v := 4) hx hb dX7_grades_59 (by decide) ?_
        refine x_cV (As := [.int x5, .int 4]) (rest := []) (F := []) C0 hw (p_nil _) hl.1 0 7 rfl rfl (c_X7_ofStone l E aR h) 2 gX7_grades_X7_ofStone rfl ⟨rfl, rfl⟩ (by decide +kernel) ⟨Nat.le_of_ble_eq_true rfl, Nat.le_of_ble_eq_true rfl⟩ rfl rfl (Nat.le_of_ble_eq_true rfl) dX7_grades_60 ⟨Nat.zero_le _, Nat.zero_le _⟩ (fun r_5 v_6 H locs h (hw : mw E A s.heap H locs (cR E aR v_6)) => ?_)
        refine lv_iload_n hx hb dX7_grades_63 rfl (lv_at hl 1 rfl) ?_
        refine lv_icmp_ne (tgt := 77) hx hb dX7_grades_64 (by decide) (fun c_10 => ?_) (fun c_10 => ?_)
        · replace h := h.1 c_10
          refine lv_iconst (v := 1) hx hb dX7_grades_77 (by decide) ?_
          refine lv_goto (tgt := 82) hx hb dX7_grades_78 (by decide) ?_
          refine lv_istore (lv' := [(4, .int 1), (0, .ref (aR 0)), (1, .int f1), (2, .int f2), (3, .int f3), (5, .int x5)]) hx hb dX7_grades_82 hl (by decide) rfl (fun ls hl => ?_)
          refine lv_iinc (v := (x5 + 1)) (lv' := [(5, .int (x5 + 1)), (4, .int 1), (0, .ref (aR 0)), (1, .int f1), (2, .int f2), (3, .int f3)]) hx hb dX7_grades_84 hl (k := 5) rfl rfl (by decide) rfl (fun ls hl => ?_)
          refine lv_goto (tgt := 45) hx hb dX7_grades_87 (by decide) ?_
          exact ih _ _ _ h _ _ _ hw (lv_sub hl [2, 3, 4, 5, 1, 0] rfl) hk0
        · replace h := h.2 c_10
          refine lv_aload_n hx hb dX7_grades_67 rfl (lv_at hl 0 rfl) ?_
          refine lv_iload hx hb dX7_grades_68 (lv_at hl 5 rfl) ?_
          refine lv_iload_n hx hb dX7_grades_70 rfl (lv_at hl 3 rfl) ?_
          refine x_cV (As := [.int x5, .int f3]) (rest := []) (F := []) C0 hw (p_nil _) hl.1 0 7 rfl rfl (c_X7_areAlike l E aR h) 2 gX7_grades_X7_areAlike rfl ⟨rfl, rfl⟩ (by decide +kernel) ⟨Nat.le_of_ble_eq_true rfl, Nat.le_of_ble_eq_true rfl⟩ rfl rfl (Nat.le_of_ble_eq_true rfl) dX7_grades_71 ⟨Nat.zero_le _, Nat.zero_le _⟩ (fun r_7 v_8 H locs h (hw : mw E A s.heap H locs (cR E aR v_8)) => ?_)
          refine lv_if_ne (tgt := 81) hx hb dX7_grades_74 (by decide) (fun c_9 => ?_) (fun c_9 => ?_)
          · replace h := h.1 c_9
            refine lv_iconst (v := 0) hx hb dX7_grades_81 (by decide) ?_
            refine lv_istore (lv' := [(4, .int 0), (0, .ref (aR 0)), (1, .int f1), (2, .int f2), (3, .int f3), (5, .int x5)]) hx hb dX7_grades_82 hl (by decide) rfl (fun ls hl => ?_)
            refine lv_iinc (v := (x5 + 1)) (lv' := [(5, .int (x5 + 1)), (4, .int 0), (0, .ref (aR 0)), (1, .int f1), (2, .int f2), (3, .int f3)]) hx hb dX7_grades_84 hl (k := 5) rfl rfl (by decide) rfl (fun ls hl => ?_)
            refine lv_goto (tgt := 45) hx hb dX7_grades_87 (by decide) ?_
            exact ih _ _ _ h _ _ _ hw (lv_sub hl [2, 3, 4, 5, 1, 0] rfl) hk0
          · replace h := h.2 c_9
            refine lv_iconst (v := 1) hx hb dX7_grades_77 (by decide) ?_
            refine lv_goto (tgt := 82) hx hb dX7_grades_78 (by decide) ?_
            refine lv_istore (lv' := [(4, .int 1), (0, .ref (aR 0)), (1, .int f1), (2, .int f2), (3, .int f3), (5, .int x5)]) hx hb dX7_grades_82 hl (by decide) rfl (fun ls hl => ?_)
            refine lv_iinc (v := (x5 + 1)) (lv' := [(5, .int (x5 + 1)), (4, .int 1), (0, .ref (aR 0)), (1, .int f1), (2, .int f2), (3, .int f3)]) hx hb dX7_grades_84 hl (k := 5) rfl rfl (by decide) rfl (fun ls hl => ?_)
            refine lv_goto (tgt := 45) hx hb dX7_grades_87 (by decide) ?_
            exact ih _ _ _ h _ _ _ hw (lv_sub hl [2, 3, 4, 5, 1, 0] rfl) hk0
set_option maxRecDepth 100000 in
set_option maxHeartbeats 4000000 in
theorem w_X7_grades_15 {p : Program} {l : Launch} {e : Env} {s : State} {m : MethodId} {below : List Frame} {meth : Method} {c : Code} {E : EE} {A : Nat → Prop} {aR : Nat → Nat} {args : Array Value} (C0 : Cx E p s m args meth c A cX7_grades 6 RX7 wsX7_grades (some .int)) {post : Int32 → V → Prop}  {f1 : Int32} {k0 : Int32 → Int32 → V → Prop} : ∀ (n : Nat) (x2 : Int32) (x3 : Int32) (v : V), sl_X7_grades_15 post f1 k0 n x2 x3 v → ∀ (H : Heap) (locs : List Loc) (ls : Array Slot), mw E A s.heap H locs (cR E aR v) → lv_has ls 6 [(0, .ref (aR 0)), (1, .int f1), (2, .int x2), (3, .int x3)] → (∀ (x2 : Int32) (x3 : Int32) (v : V) (H : Heap) (locs : List Loc) (ls : Array Slot), k0 x2 x3 v → mw E A s.heap H locs (cR E aR v) → lv_has ls 6 [(0, .ref (aR 0)), (1, .int f1), (2, .int x2), (3, .int x3)] → W p l e rmX7_grades s m args below meth c H locs 0 0 (qI E A post (fun u => cR E aR u) below args s) (F0 m 109 ls [])) → W p l e rmX7_grades s m args below meth c H locs 0 0 (qI E A post (fun u => cR E aR u) below args s) (F0 m 15 ls []) := by
  have hx := C0.1
  have hb := C0.2.1
  have hiX7 : ∀ w ∈ wsX70, w ∈ wsX7_grades := fun w h => List.mem_cons_of_mem _ (List.mem_append_right _ h)
  intro n
  induction n with
  | zero => intro x2 x3 v h; exact False.elim h
  | succ n ih =>
    intro x2 x3 v h H locs ls hw hl hk0
    replace h : sb_X7_grades_15 post f1 k0 (sl_X7_grades_15 post f1 k0 n) x2 x3 v := h
    unfold sb_X7_grades_15 at h
    refine lv_iload_n hx hb dX7_grades_15 rfl (lv_at hl 3 rfl) ?_
    refine lv_aload_n hx hb dX7_grades_16 rfl (lv_at hl 0 rfl) ?_
    refine x_get C0 hw 7 hiX7 rfl 0 rfl 0 (by decide) 2 rfl rfl dX7_grades_17 ?_
    refine lv_iconst (v := 1) hx hb dX7_grades_20 (by decide) ?_
    refine x_ald C0 hw 1 rfl (vp_in_nI (n := 1) (by decide) (by decide)) dX7_grades_21 ?_
    refine lv_icmp_ge (tgt := 109) hx hb dX7_grades_22 (by decide) (fun c_24 => ?_) (fun c_24 => ?_)
    · replace h := h.1 c_24
      exact hk0 _ _ _ _ _ _ h hw (lv_sub hl [0, 1, 2, 3] rfl)
    · replace h := h.2 c_24
      refine lv_aload_n hx hb dX7_grades_25 rfl (lv_at hl 0 rfl) ?_
      refine lv_iload_n hx hb dX7_grades_26 rfl (lv_at hl 3 rfl) ?_
      refine lv_iconst (v := 4) hx hb dX7_grades_27 (by decide) ?_
      refine x_cV (As := [.int x3, .int 4]) (rest := []) (F := []) C0 hw (p_nil _) hl.1 0 7 rfl rfl (c_X7_ofStone l E aR h) 2 gX7_grades_X7_ofStone rfl ⟨rfl, rfl⟩ (by decide +kernel) ⟨Nat.le_of_ble_eq_true rfl, Nat.le_of_ble_eq_true rfl⟩ rfl rfl (Nat.le_of_ble_eq_true rfl) dX7_grades_28 ⟨Nat.zero_le _, Nat.zero_le _⟩ (fun r_3 v_4 H locs h (hw : mw E A s.heap H locs (cR E aR v_4)) => ?_)
      refine lv_iload_n hx hb dX7_grades_31 rfl (lv_at hl 1 rfl) ?_
      refine lv_icmp_ne (tgt := 39) hx hb dX7_grades_32 (by decide) (fun c_23 => ?_) (fun c_23 => ?_)
      · replace h := h.1 c_23
        refine lv_iconst (v := 0) hx hb dX7_grades_39 (by decide) ?_
        refine lv_istore (lv' := [(4, .int 0), (0, .ref (aR 0)), (1, .int f1), (2, .int x2), (3, .int x3)]) hx hb dX7_grades_40 hl (by decide) rfl (fun ls hl => ?_)
        refine lv_iconst (v := 0) hx hb dX7_grades_42 (by decide) ?_
        refine lv_istore (lv' := [(5, .int 0), (4, .int 0), (0, .ref (aR 0)), (1, .int f1), (2, .int x2), (3, .int x3)]) hx hb dX7_grades_43 hl (by decide) rfl (fun ls hl => ?_)
        obtain ⟨n_13, h⟩ := h
        refine w_X7_grades_45 C0 _ _ _ _ h _ _ _ hw (lv_sub hl [2, 3, 4, 5, 1, 0] rfl) ?_
        · intro x4_14 x5_15 v_16 H locs ls h hw hl
          refine lv_iload_n hx hb dX7_grades_90 rfl (lv_at hl 2 rfl) ?_
          refine lv_iload hx hb dX7_grades_91 (lv_at hl 4 rfl) ?_
          refine lv_if_eq (tgt := 100) hx hb dX7_grades_93 (by decide) (fun c_17 => ?_) (fun c_17 => ?_)
          · replace h := h.1 c_17
            refine lv_iconst (v := 0) hx hb dX7_grades_100 (by decide) ?_
            refine lv_iadd hx hb dX7_grades_101 ?_
            refine lv_istore_n (lv' := [(2, .int (x2 + 0)), (0, .ref (aR 0)), (1, .int f1), (3, .int x3), (4, .int x4_14), (5, .int x5_15)]) hx hb dX7_grades_102 rfl hl (by decide) rfl (fun ls hl => ?_)
            refine lv_iinc (v := (x3 + 1)) (lv' := [(3, .int (x3 + 1)), (2, .int (x2 + 0)), (0, .ref (aR 0)), (1, .int f1), (4, .int x4_14), (5, .int x5_15)]) hx hb dX7_grades_103 hl (k := 3) rfl rfl (by decide) rfl (fun ls hl => ?_)
            refine lv_goto (tgt := 15) hx hb dX7_grades_106 (by decide) ?_
            exact ih _ _ _ h _ _ _ hw (lv_sub hl [2, 3, 1, 0] rfl) hk0
          · replace h := h.2 c_17
            refine lv_iconst (v := 1) hx hb dX7_grades_96 (by decide) ?_
            refine lv_goto (tgt := 101) hx hb dX7_grades_97 (by decide) ?_
            refine lv_iadd hx hb dX7_grades_101 ?_
            refine lv_istore_n (lv' := [(2, .int (x2 + 1)), (0, .ref (aR 0)), (1, .int f1), (3, .int x3), (4, .int x4_14), (5, .int x5_15)]) hx hb dX7_grades_102 rfl hl (by decide) rfl (fun ls hl => ?_)
            refine lv_iinc (v := (x3 + 1)) (lv' := [(3, .int (x3 + 1)), (2, .int (x2 + 1)), (0, .ref (aR 0)), (1, .int f1), (4, .int x4_14), (5, .int x5_15)]) hx hb dX7_grades_103 hl (k := 3) rfl rfl (by decide) rfl (fun ls hl => ?_)
            refine lv_goto (tgt := 15) hx hb dX7_grades_106 (by decide) ?_
            exact ih _ _ _ h _ _ _ hw (lv_sub hl [2, 3, 1, 0] rfl) hk0
      · replace h := h.2 c_23
        refine lv_iconst (v := 1) hx hb dX7_grades_35 (by decide) ?_
        refine lv_goto (tgt := 40) hx hb dX7_grades_36 (by decide) ?_
        refine lv_istore (lv' := [(4, .int 1), (0, .ref (aR 0)), (1, .int f1), (2, .int x2), (3, .int x3)]) hx hb dX7_grades_40 hl (by decide) rfl (fun ls hl => ?_)
        refine lv_iconst (v := 0) hx hb dX7_grades_42 (by decide) ?_
        refine lv_istore (lv' := [(5, .int 0), (4, .int 1), (0, .ref (aR 0)), (1, .int f1), (2, .int x2), (3, .int x3)]) hx hb dX7_grades_43 hl (by decide) rfl (fun ls hl => ?_)
        obtain ⟨n_18, h⟩ := h
        refine w_X7_grades_45 C0 _ _ _ _ h _ _ _ hw (lv_sub hl [2, 3, 4, 5, 1, 0] rfl) ?_
        · intro x4_19 x5_20 v_21 H locs ls h hw hl
          refine lv_iload_n hx hb dX7_grades_90 rfl (lv_at hl 2 rfl) ?_
          refine lv_iload hx hb dX7_grades_91 (lv_at hl 4 rfl) ?_
          refine lv_if_eq (tgt := 100) hx hb dX7_grades_93 (by decide) (fun c_22 => ?_) (fun c_22 => ?_)
          · replace h := h.1 c_22
            refine lv_iconst (v := 0) hx hb dX7_grades_100 (by decide) ?_
            refine lv_iadd hx hb dX7_grades_101 ?_
            refine lv_istore_n (lv' := [(2, .int (x2 + 0)), (0, .ref (aR 0)), (1, .int f1), (3, .int x3), (4, .int x4_19), (5, .int x5_20)]) hx hb dX7_grades_102 rfl hl (by decide) rfl (fun ls hl => ?_)
            refine lv_iinc (v := (x3 + 1)) (lv' := [(3, .int (x3 + 1)), (2, .int (x2 + 0)), (0, .ref (aR 0)), (1, .int f1), (4, .int x4_19), (5, .int x5_20)]) hx hb dX7_grades_103 hl (k := 3) rfl rfl (by decide) rfl (fun ls hl => ?_)
            refine lv_goto (tgt := 15) hx hb dX7_grades_106 (by decide) ?_
            exact ih _ _ _ h _ _ _ hw (lv_sub hl [2, 3, 1, 0] rfl) hk0
          · replace h := h.2 c_22
            refine lv_iconst (v := 1) hx hb dX7_grades_96 (by decide) ?_
            refine lv_goto (tgt := 101) hx hb dX7_grades_97 (by decide) ?_
            refine lv_iadd hx hb dX7_grades_101 ?_
            refine lv_istore_n (lv' := [(2, .int (x2 + 1)), (0, .ref (aR 0)), (1, .int f1), (3, .int x3), (4, .int x4_19), (5, .int x5_20)]) hx hb dX7_grades_102 rfl hl (by decide) rfl (fun ls hl => ?_)
            refine lv_iinc (v := (x3 + 1)) (lv' := [(3, .int (x3 + 1)), (2, .int (x2 + 1)), (0, .ref (aR 0)), (1, .int f1), (4, .int x4_19), (5, .int x5_20)]) hx hb dX7_grades_103 hl (k := 3) rfl rfl (by decide) rfl (fun ls hl => ?_)
            refine lv_goto (tgt := 15) hx hb dX7_grades_106 (by decide) ?_
            exact ih _ _ _ h _ _ _ hw (lv_sub hl [2, 3, 1, 0] rfl) hk0
set_option maxRecDepth 100000 in
set_option maxHeartbeats 4000000 in
theorem c_X7_grades (l : Launch) (E : EE) (aR : Nat → Nat) {v : V}  {p1 : Int32} {post : Int32 → V → Prop} (h : s_X7_grades v p1 post) : KI l E yX7_grades wsX7_grades rmX7_grades [.ref (aR 0), .int p1] (cR E aR v) post (fun u => cR E aR u) := by
  unfold s_X7_grades at h
  refine KI.go (cc := cX7_grades) (ret := (some .int)) (maxL := 6) (own := RX7) (by decide) rfl (Nat.le_of_ble_eq_true rfl) rfl (fun p e s m below meth c A ls C0 hw hl => ?_)
  have hx := C0.1
  have hb := C0.2.1
  have hiX7 : ∀ w ∈ wsX70, w ∈ wsX7_grades := fun w h => List.mem_cons_of_mem _ (List.mem_append_right _ h)
  replace hl : lv_has ls 6 [(0, .ref (aR 0)), (1, .int p1)] := hl
  refine lv_aload_n hx hb dX7_grades_0 rfl (lv_at hl 0 rfl) ?_
  refine lv_iload_n hx hb dX7_grades_1 rfl (lv_at hl 1 rfl) ?_
  refine x_cV (As := [.int p1]) (rest := []) (F := []) C0 hw (p_nil _) hl.1 0 7 rfl rfl (c_X7_isDealer l E aR h) 1 gX7_grades_X7_isDealer rfl ⟨rfl, rfl⟩ (by decide +kernel) ⟨Nat.le_of_ble_eq_true rfl, Nat.le_of_ble_eq_true rfl⟩ rfl rfl (Nat.le_of_ble_eq_true rfl) dX7_grades_2 ⟨Nat.zero_le _, Nat.zero_le _⟩ (fun r_1 v_2 H locs h (hw : mw E A s.heap H locs (cR E aR v_2)) => ?_)
  refine lv_if_ne (tgt := 11) hx hb dX7_grades_5 (by decide) (fun c_29 => ?_) (fun c_29 => ?_)
  · replace h := h.1 c_29
    refine lv_iconst (v := 0) hx hb dX7_grades_11 (by decide) ?_
    refine lv_istore_n (lv' := [(2, .int 0), (0, .ref (aR 0)), (1, .int p1)]) hx hb dX7_grades_12 rfl hl (by decide) rfl (fun ls hl => ?_)
    refine lv_iconst (v := 0) hx hb dX7_grades_13 (by decide) ?_
    refine lv_istore_n (lv' := [(3, .int 0), (2, .int 0), (0, .ref (aR 0)), (1, .int p1)]) hx hb dX7_grades_14 rfl hl (by decide) rfl (fun ls hl => ?_)
    obtain ⟨n_25, h⟩ := h
    refine w_X7_grades_15 C0 _ _ _ _ h _ _ _ hw (lv_sub hl [2, 3, 1, 0] rfl) ?_
    · intro x2_26 x3_27 v_28 H locs ls h hw hl
      refine lv_iload_n hx hb dX7_grades_109 rfl (lv_at hl 2 rfl) ?_
      exact x_ret C0 v_28 hw h dX7_grades_110
  · replace h := h.2 c_29
    refine x_ldc (v := (-10000001)) C0 1 rfl dX7_grades_8 ?_
    exact x_ret C0 v_2 hw h dX7_grades_10

abbrev rmX7_mark : Room := { frames := 0, cells := 0, slots := 0, locals := 0 }
set_option maxRecDepth 100000 in
set_option maxHeartbeats 4000000 in
theorem w_X7_mark_2 {p : Program} {l : Launch} {e : Env} {s : State} {m : MethodId} {below : List Frame} {meth : Method} {c : Code} {E : EE} {A : Nat → Prop} {aR : Nat → Nat} {args : Array Value} (C0 : Cx E p s m args meth c A cX7_mark 2 RX7 wsX7_mark (some .int)) {post : Int32 → V → Prop}   {k0 : Int32 → V → Prop} : ∀ (n : Nat) (x1 : Int32) (v : V), sl_X7_mark_2 post k0 n x1 v → ∀ (H : Heap) (locs : List Loc) (ls : Array Slot), mw E A s.heap H locs (cR E aR v) → lv_has ls 2 [(0, .ref (aR 0)), (1, .int x1)] → (∀ (x1 : Int32) (v : V) (H : Heap) (locs : List Loc) (ls : Array Slot), k0 x1 v → mw E A s.heap H locs (cR E aR v) → lv_has ls 2 [(0, .ref (aR 0)), (1, .int x1)] → W p l e rmX7_mark s m args below meth c H locs 0 0 (qI E A post (fun u => cR E aR u) below args s) (F0 m 27 ls [])) → W p l e rmX7_mark s m args below meth c H locs 0 0 (qI E A post (fun u => cR E aR u) below args s) (F0 m 2 ls []) := by
  have hx := C0.1
  have hb := C0.2.1
  have hiX7 : ∀ w ∈ wsX70, w ∈ wsX7_mark := fun w h => List.mem_cons_of_mem _ (List.mem_append_right _ h)
  intro n
  induction n with
  | zero => intro x1 v h; exact False.elim h
  | succ n ih =>
    intro x1 v h H locs ls hw hl hk0
    replace h : sb_X7_mark_2 post k0 (sl_X7_mark_2 post k0 n) x1 v := h
    unfold sb_X7_mark_2 at h
    refine lv_iload_n hx hb dX7_mark_2 rfl (lv_at hl 1 rfl) ?_
    refine lv_sipush (v := 664) hx hb dX7_mark_3 (by decide) ?_
    refine lv_icmp_ge (tgt := 27) hx hb dX7_mark_6 (by decide) (fun c_2 => ?_) (fun c_2 => ?_)
    · replace h := h.1 c_2
      exact hk0 _ _ _ _ _ h hw (lv_sub hl [0, 1] rfl)
    · replace h := h.2 c_2
      refine lv_aload_n hx hb dX7_mark_9 rfl (lv_at hl 0 rfl) ?_
      refine x_get C0 hw 7 hiX7 rfl 0 rfl 2 (by decide) 1 rfl rfl dX7_mark_10 ?_
      refine lv_iload_n hx hb dX7_mark_13 rfl (lv_at hl 1 rfl) ?_
      refine lv_aload_n hx hb dX7_mark_14 rfl (lv_at hl 0 rfl) ?_
      refine x_get C0 hw 7 hiX7 rfl 0 rfl 0 (by decide) 2 rfl rfl dX7_mark_15 ?_
      refine lv_iload_n hx hb dX7_mark_18 rfl (lv_at hl 1 rfl) ?_
      obtain ⟨hin, h⟩ := h
      refine x_ald C0 hw 1 rfl hin dX7_mark_19 ?_
      obtain ⟨hin, h⟩ := h
      refine x_ast (ws' := (cR E aR ((st v 3 (tn x1) (v 1 (tn x1)))))) C0 hw 3 rfl hin rfl dX7_mark_20 (fun H locs hw => ?_)
      obtain ⟨v_1, e_v_1⟩ : ∃ z, z = st v 3 (tn x1) (v 1 (tn x1)) := ⟨_, rfl⟩
      rw [← e_v_1] at hw
      replace h := h v_1 e_v_1
      refine lv_iinc (v := (x1 + 1)) (lv' := [(1, .int (x1 + 1)), (0, .ref (aR 0))]) hx hb dX7_mark_21 hl (k := 1) rfl rfl (by decide) rfl (fun ls hl => ?_)
      refine lv_goto (tgt := 2) hx hb dX7_mark_24 (by decide) ?_
      exact ih _ _ h _ _ _ hw (lv_sub hl [1, 0] rfl) hk0
set_option maxRecDepth 100000 in
set_option maxHeartbeats 4000000 in
theorem c_X7_mark (l : Launch) (E : EE) (aR : Nat → Nat) {v : V}   {post : Int32 → V → Prop} (h : s_X7_mark v post) : KI l E yX7_mark wsX7_mark rmX7_mark [.ref (aR 0)] (cR E aR v) post (fun u => cR E aR u) := by
  unfold s_X7_mark at h
  refine KI.go (cc := cX7_mark) (ret := (some .int)) (maxL := 2) (own := RX7) (by decide) rfl (Nat.le_of_ble_eq_true rfl) rfl (fun p e s m below meth c A ls C0 hw hl => ?_)
  have hx := C0.1
  have hb := C0.2.1
  have hiX7 : ∀ w ∈ wsX70, w ∈ wsX7_mark := fun w h => List.mem_cons_of_mem _ (List.mem_append_right _ h)
  replace hl : lv_has ls 2 [(0, .ref (aR 0))] := hl
  refine lv_iconst (v := 0) hx hb dX7_mark_0 (by decide) ?_
  refine lv_istore_n (lv' := [(1, .int 0), (0, .ref (aR 0))]) hx hb dX7_mark_1 rfl hl (by decide) rfl (fun ls hl => ?_)
  obtain ⟨n_3, h⟩ := h
  refine w_X7_mark_2 C0 _ _ _ h _ _ _ hw (lv_sub hl [1, 0] rfl) ?_
  · intro x1_4 v_5 H locs ls h hw hl
    refine lv_aload_n hx hb dX7_mark_27 rfl (lv_at hl 0 rfl) ?_
    refine lv_iconst (v := 1) hx hb dX7_mark_28 (by decide) ?_
    refine x_put (ws' := (cR E aR ((sc v_5 0 3 1)))) C0 hw 7 hiX7 rfl tyX7 tyX7_ok nmX7 0 rfl 3 (by decide) 3 rfl rfl rfl rfl (Nat.le_of_ble_eq_true rfl) rfl dX7_mark_29 (fun H locs hw => ?_)
    obtain ⟨v_6, e_v_6⟩ : ∃ z, z = sc v_5 0 3 1 := ⟨_, rfl⟩
    rw [← e_v_6] at hw
    replace h := h v_6 e_v_6
    refine lv_aload_n hx hb dX7_mark_32 rfl (lv_at hl 0 rfl) ?_
    refine x_get C0 hw 7 hiX7 rfl 0 rfl 0 (by decide) 2 rfl rfl dX7_mark_33 ?_
    refine lv_iconst (v := 3) hx hb dX7_mark_36 (by decide) ?_
    refine x_ald C0 hw 1 rfl (vp_in_nI (n := 3) (by decide) (by decide)) dX7_mark_37 ?_
    exact x_ret C0 v_6 hw h dX7_mark_38

abbrev rmX7_restore : Room := { frames := 2, cells := 0, slots := 0, locals := 43 }
set_option maxRecDepth 100000 in
set_option maxHeartbeats 4000000 in
theorem w_X7_restore_16 {p : Program} {l : Launch} {e : Env} {s : State} {m : MethodId} {below : List Frame} {meth : Method} {c : Code} {E : EE} {A : Nat → Prop} {aR : Nat → Nat} {args : Array Value} (C0 : Cx E p s m args meth c A cX7_restore 2 RX7 wsX7_restore (some .int)) {post : Int32 → V → Prop}   {k0 : Int32 → V → Prop} : ∀ (n : Nat) (x1 : Int32) (v : V), sl_X7_restore_16 post k0 n x1 v → ∀ (H : Heap) (locs : List Loc) (ls : Array Slot), mw E A s.heap H locs (cR E aR v) → lv_has ls 2 [(0, .ref (aR 0)), (1, .int x1)] → (∀ (x1 : Int32) (v : V) (H : Heap) (locs : List Loc) (ls : Array Slot), k0 x1 v → mw E A s.heap H locs (cR E aR v) → lv_has ls 2 [(0, .ref (aR 0)), (1, .int x1)] → W p l e rmX7_restore s m args below meth c H locs 0 0 (qI E A post (fun u => cR E aR u) below args s) (F0 m 41 ls [])) → W p l e rmX7_restore s m args below meth c H locs 0 0 (qI E A post (fun u => cR E aR u) below args s) (F0 m 16 ls []) := by
  have hx := C0.1
  have hb := C0.2.1
  have hiX7 : ∀ w ∈ wsX70, w ∈ wsX7_restore := fun w h => List.mem_cons_of_mem _ (List.mem_append_right _ h)
  intro n
  induction n with
  | zero => intro x1 v h; exact False.elim h
  | succ n ih =>
    intro x1 v h H locs ls hw hl hk0
    replace h : sb_X7_restore_16 post k0 (sl_X7_restore_16 post k0 n) x1 v := h
    unfold sb_X7_restore_16 at h
    refine lv_iload_n hx hb dX7_restore_16 rfl (lv_at hl 1 rfl) ?_
    refine lv_sipush (v := 664) hx hb dX7_restore_17 (by decide) ?_
    refine lv_icmp_ge (tgt := 41) hx hb dX7_restore_20 (by decide) (fun c_3 => ?_) (fun c_3 => ?_)
    · replace h := h.1 c_3
      exact hk0 _ _ _ _ _ h hw (lv_sub hl [0, 1] rfl)
    · replace h := h.2 c_3
      refine lv_aload_n hx hb dX7_restore_23 rfl (lv_at hl 0 rfl) ?_
      refine x_get C0 hw 7 hiX7 rfl 0 rfl 0 (by decide) 3 rfl rfl dX7_restore_24 ?_
      refine lv_iload_n hx hb dX7_restore_27 rfl (lv_at hl 1 rfl) ?_
      refine lv_aload_n hx hb dX7_restore_28 rfl (lv_at hl 0 rfl) ?_
      refine x_get C0 hw 7 hiX7 rfl 0 rfl 2 (by decide) 4 rfl rfl dX7_restore_29 ?_
      refine lv_iload_n hx hb dX7_restore_32 rfl (lv_at hl 1 rfl) ?_
      obtain ⟨hin, h⟩ := h
      refine x_ald C0 hw 3 rfl hin dX7_restore_33 ?_
      obtain ⟨hin, h⟩ := h
      refine x_ast (ws' := (cR E aR ((st v 1 (tn x1) (v 3 (tn x1)))))) C0 hw 1 rfl hin rfl dX7_restore_34 (fun H locs hw => ?_)
      obtain ⟨v_2, e_v_2⟩ : ∃ z, z = st v 1 (tn x1) (v 3 (tn x1)) := ⟨_, rfl⟩
      rw [← e_v_2] at hw
      replace h := h v_2 e_v_2
      refine lv_iinc (v := (x1 + 1)) (lv' := [(1, .int (x1 + 1)), (0, .ref (aR 0))]) hx hb dX7_restore_35 hl (k := 1) rfl rfl (by decide) rfl (fun ls hl => ?_)
      refine lv_goto (tgt := 16) hx hb dX7_restore_38 (by decide) ?_
      exact ih _ _ h _ _ _ hw (lv_sub hl [1, 0] rfl) hk0
set_option maxRecDepth 100000 in
set_option maxHeartbeats 4000000 in
theorem c_X7_restore (l : Launch) (E : EE) (aR : Nat → Nat) {v : V}   {post : Int32 → V → Prop} (h : s_X7_restore v post) : KI l E yX7_restore wsX7_restore rmX7_restore [.ref (aR 0)] (cR E aR v) post (fun u => cR E aR u) := by
  unfold s_X7_restore at h
  refine KI.go (cc := cX7_restore) (ret := (some .int)) (maxL := 2) (own := RX7) (by decide) rfl (Nat.le_of_ble_eq_true rfl) rfl (fun p e s m below meth c A ls C0 hw hl => ?_)
  have hx := C0.1
  have hb := C0.2.1
  have hiX7 : ∀ w ∈ wsX70, w ∈ wsX7_restore := fun w h => List.mem_cons_of_mem _ (List.mem_append_right _ h)
  replace hl : lv_has ls 2 [(0, .ref (aR 0))] := hl
  refine lv_aload_n hx hb dX7_restore_0 rfl (lv_at hl 0 rfl) ?_
  refine x_cVv (As := []) (rest := []) (F := []) C0 hw (p_nil _) hl.1 0 7 rfl rfl (c_X7_begins l E aR h) 0 gX7_restore_X7_begins rfl ⟨rfl, rfl⟩ (by decide +kernel) ⟨Nat.le_of_ble_eq_true rfl, Nat.le_of_ble_eq_true rfl⟩ rfl rfl (Nat.le_of_ble_eq_true rfl) dX7_restore_1 ⟨Nat.zero_le _, Nat.zero_le _⟩ (fun v_1 H locs h (hw : mw E A s.heap H locs (cR E aR v_1)) => ?_)
  refine lv_aload_n hx hb dX7_restore_4 rfl (lv_at hl 0 rfl) ?_
  refine x_get C0 hw 7 hiX7 rfl 0 rfl 3 (by decide) 1 rfl rfl dX7_restore_5 ?_
  refine lv_if_ne (tgt := 14) hx hb dX7_restore_8 (by decide) (fun c_9 => ?_) (fun c_9 => ?_)
  · replace h := h.1 c_9
    refine lv_iconst (v := 0) hx hb dX7_restore_14 (by decide) ?_
    refine lv_istore_n (lv' := [(1, .int 0), (0, .ref (aR 0))]) hx hb dX7_restore_15 rfl hl (by decide) rfl (fun ls hl => ?_)
    obtain ⟨n_4, h⟩ := h
    refine w_X7_restore_16 C0 _ _ _ h _ _ _ hw (lv_sub hl [1, 0] rfl) ?_
    · intro x1_5 v_6 H locs ls h hw hl
      refine lv_aload_n hx hb dX7_restore_41 rfl (lv_at hl 0 rfl) ?_
      refine lv_aload_n hx hb dX7_restore_42 rfl (lv_at hl 0 rfl) ?_
      refine x_get C0 hw 7 hiX7 rfl 0 rfl 0 (by decide) 3 rfl rfl dX7_restore_43 ?_
      refine lv_iconst (v := 3) hx hb dX7_restore_46 (by decide) ?_
      refine x_ald C0 hw 1 rfl (vp_in_nI (n := 3) (by decide) (by decide)) dX7_restore_47 ?_
      refine x_cV (As := [.int (v_6 1 (tn 3))]) (rest := []) (F := []) C0 hw (p_nil _) hl.1 0 7 rfl rfl (c_X7_acted l E aR h) 1 gX7_restore_X7_acted rfl ⟨rfl, rfl⟩ (by decide +kernel) ⟨Nat.le_of_ble_eq_true rfl, Nat.le_of_ble_eq_true rfl⟩ rfl rfl (Nat.le_of_ble_eq_true rfl) dX7_restore_48 ⟨Nat.zero_le _, Nat.zero_le _⟩ (fun r_7 v_8 H locs h (hw : mw E A s.heap H locs (cR E aR v_8)) => ?_)
      exact x_ret C0 v_8 hw h dX7_restore_51
  · replace h := h.2 c_9
    refine x_ldc (v := (-10000002)) C0 2 rfl dX7_restore_11 ?_
    exact x_ret C0 v_1 hw h dX7_restore_13

abbrev rmX7_undo : Room := { frames := 0, cells := 0, slots := 0, locals := 0 }
set_option maxRecDepth 100000 in
set_option maxHeartbeats 4000000 in
theorem w_X7_undo_22 {p : Program} {l : Launch} {e : Env} {s : State} {m : MethodId} {below : List Frame} {meth : Method} {c : Code} {E : EE} {A : Nat → Prop} {aR : Nat → Nat} {args : Array Value} (C0 : Cx E p s m args meth c A cX7_undo 2 RX7 wsX7_undo (some .int)) {post : Int32 → V → Prop}   {k0 : Int32 → V → Prop} : ∀ (n : Nat) (x1 : Int32) (v : V), sl_X7_undo_22 post k0 n x1 v → ∀ (H : Heap) (locs : List Loc) (ls : Array Slot), mw E A s.heap H locs (cR E aR v) → lv_has ls 2 [(0, .ref (aR 0)), (1, .int x1)] → (∀ (x1 : Int32) (v : V) (H : Heap) (locs : List Loc) (ls : Array Slot), k0 x1 v → mw E A s.heap H locs (cR E aR v) → lv_has ls 2 [(0, .ref (aR 0)), (1, .int x1)] → W p l e rmX7_undo s m args below meth c H locs 0 0 (qI E A post (fun u => cR E aR u) below args s) (F0 m 56 ls [])) → W p l e rmX7_undo s m args below meth c H locs 0 0 (qI E A post (fun u => cR E aR u) below args s) (F0 m 22 ls []) := by
  have hx := C0.1
  have hb := C0.2.1
  have hiX7 : ∀ w ∈ wsX70, w ∈ wsX7_undo := fun w h => List.mem_cons_of_mem _ (List.mem_append_right _ h)
  intro n
  induction n with
  | zero => intro x1 v h; exact False.elim h
  | succ n ih =>
    intro x1 v h H locs ls hw hl hk0
    replace h : sb_X7_undo_22 post k0 (sl_X7_undo_22 post k0 n) x1 v := h
    unfold sb_X7_undo_22 at h
    refine lv_iload_n hx hb dX7_undo_22 rfl (lv_at hl 1 rfl) ?_
    refine lv_sipush (v := 664) hx hb dX7_undo_23 (by decide) ?_
    refine lv_icmp_ge (tgt := 56) hx hb dX7_undo_26 (by decide) (fun c_3 => ?_) (fun c_3 => ?_)
    · replace h := h.1 c_3
      exact hk0 _ _ _ _ _ h hw (lv_sub hl [0, 1] rfl)
    · replace h := h.2 c_3
      refine lv_aload_n hx hb dX7_undo_29 rfl (lv_at hl 0 rfl) ?_
      refine x_get C0 hw 7 hiX7 rfl 0 rfl 0 (by decide) 3 rfl rfl dX7_undo_30 ?_
      refine lv_iload_n hx hb dX7_undo_33 rfl (lv_at hl 1 rfl) ?_
      refine lv_aload_n hx hb dX7_undo_34 rfl (lv_at hl 0 rfl) ?_
      refine x_get C0 hw 7 hiX7 rfl 0 rfl 4 (by decide) 4 rfl rfl dX7_undo_35 ?_
      refine lv_sipush (v := 664) hx hb dX7_undo_38 (by decide) ?_
      refine lv_aload_n hx hb dX7_undo_41 rfl (lv_at hl 0 rfl) ?_
      refine x_get C0 hw 7 hiX7 rfl 0 rfl 5 (by decide) 1 rfl rfl dX7_undo_42 ?_
      refine lv_imul hx hb dX7_undo_45 ?_
      refine lv_iload_n hx hb dX7_undo_46 rfl (lv_at hl 1 rfl) ?_
      refine lv_iadd hx hb dX7_undo_47 ?_
      obtain ⟨hin, h⟩ := h
      refine x_ald C0 hw 4 rfl hin dX7_undo_48 ?_
      obtain ⟨hin, h⟩ := h
      refine x_ast (ws' := (cR E aR ((st v 1 (tn x1) (v 4 (tn ((664 * (v 0 5)) + x1))))))) C0 hw 1 rfl hin rfl dX7_undo_49 (fun H locs hw => ?_)
      obtain ⟨v_2, e_v_2⟩ : ∃ z, z = st v 1 (tn x1) (v 4 (tn ((664 * (v 0 5)) + x1))) := ⟨_, rfl⟩
      rw [← e_v_2] at hw
      replace h := h v_2 e_v_2
      refine lv_iinc (v := (x1 + 1)) (lv' := [(1, .int (x1 + 1)), (0, .ref (aR 0))]) hx hb dX7_undo_50 hl (k := 1) rfl rfl (by decide) rfl (fun ls hl => ?_)
      refine lv_goto (tgt := 22) hx hb dX7_undo_53 (by decide) ?_
      exact ih _ _ h _ _ _ hw (lv_sub hl [1, 0] rfl) hk0
set_option maxRecDepth 100000 in
set_option maxHeartbeats 4000000 in
theorem c_X7_undo (l : Launch) (E : EE) (aR : Nat → Nat) {v : V}   {post : Int32 → V → Prop} (h : s_X7_undo v post) : KI l E yX7_undo wsX7_undo rmX7_undo [.ref (aR 0)] (cR E aR v) post (fun u => cR E aR u) := by
  unfold s_X7_undo at h
  refine KI.go (cc := cX7_undo) (ret := (some .int)) (maxL := 2) (own := RX7) (by decide) rfl (Nat.le_of_ble_eq_true rfl) rfl (fun p e s m below meth c A ls C0 hw hl => ?_)
  have hx := C0.1
  have hb := C0.2.1
  have hiX7 : ∀ w ∈ wsX70, w ∈ wsX7_undo := fun w h => List.mem_cons_of_mem _ (List.mem_append_right _ h)
  replace hl : lv_has ls 2 [(0, .ref (aR 0))] := hl
  refine lv_aload_n hx hb dX7_undo_0 rfl (lv_at hl 0 rfl) ?_
  refine x_get C0 hw 7 hiX7 rfl 0 rfl 5 (by decide) 1 rfl rfl dX7_undo_1 ?_
  refine lv_if_ne (tgt := 10) hx hb dX7_undo_4 (by decide) (fun c_7 => ?_) (fun c_7 => ?_)
  · replace h := h.1 c_7
    refine lv_aload_n hx hb dX7_undo_10 rfl (lv_at hl 0 rfl) ?_
    refine lv_dup hx hb dX7_undo_11 rfl ?_
    refine x_get C0 hw 7 hiX7 rfl 0 rfl 5 (by decide) 1 rfl rfl dX7_undo_12 ?_
    refine lv_iconst (v := 1) hx hb dX7_undo_15 (by decide) ?_
    refine lv_isub hx hb dX7_undo_16 ?_
    refine x_put (ws' := (cR E aR ((sc v 0 5 ((v 0 5) - 1))))) C0 hw 7 hiX7 rfl tyX7 tyX7_ok nmX7 0 rfl 5 (by decide) 1 rfl rfl rfl rfl (Nat.le_of_ble_eq_true rfl) rfl dX7_undo_17 (fun H locs hw => ?_)
    obtain ⟨v_1, e_v_1⟩ : ∃ z, z = sc v 0 5 ((v 0 5) - 1) := ⟨_, rfl⟩
    rw [← e_v_1] at hw
    replace h := h v_1 e_v_1
    refine lv_iconst (v := 0) hx hb dX7_undo_20 (by decide) ?_
    refine lv_istore_n (lv' := [(1, .int 0), (0, .ref (aR 0))]) hx hb dX7_undo_21 rfl hl (by decide) rfl (fun ls hl => ?_)
    obtain ⟨n_4, h⟩ := h
    refine w_X7_undo_22 C0 _ _ _ h _ _ _ hw (lv_sub hl [1, 0] rfl) ?_
    · intro x1_5 v_6 H locs ls h hw hl
      refine lv_aload_n hx hb dX7_undo_56 rfl (lv_at hl 0 rfl) ?_
      refine x_get C0 hw 7 hiX7 rfl 0 rfl 5 (by decide) 1 rfl rfl dX7_undo_57 ?_
      exact x_ret C0 v_6 hw h dX7_undo_60
  · replace h := h.2 c_7
    refine x_ldc (v := (-10000002)) C0 2 rfl dX7_undo_7 ?_
    exact x_ret C0 v hw h dX7_undo_9

abbrev rmX7_type : Room := { frames := 1, cells := 0, slots := 0, locals := 22 }
set_option maxRecDepth 100000 in
set_option maxHeartbeats 4000000 in
theorem c_X7_type (l : Launch) (E : EE) (aR : Nat → Nat) {v : V}  {p1 : Int32} {post : Int32 → V → Prop} (h : s_X7_type v p1 post) : KI l E yX7_type wsX7_type rmX7_type [.ref (aR 0), .int p1] (cR E aR v) post (fun u => cR E aR u) := by
  unfold s_X7_type at h
  refine KI.go (cc := cX7_type) (ret := (some .int)) (maxL := 2) (own := RX7) (by decide) rfl (Nat.le_of_ble_eq_true rfl) rfl (fun p e s m below meth c A ls C0 hw hl => ?_)
  have hx := C0.1
  have hb := C0.2.1
  have hiX7 : ∀ w ∈ wsX70, w ∈ wsX7_type := fun w h => List.mem_cons_of_mem _ (List.mem_append_right _ h)
  replace hl : lv_has ls 2 [(0, .ref (aR 0)), (1, .int p1)] := hl
  refine lv_iload_n hx hb dX7_type_0 rfl (lv_at hl 1 rfl) ?_
  refine lv_bipush (v := 32) hx hb dX7_type_1 (by decide) ?_
  refine lv_bipush (v := 126) hx hb dX7_type_3 (by decide) ?_
  refine x_cS (As := [.int p1, .int 32, .int 126]) (rest := []) (F := (cR E aR v)) C0 hw (p_non _) hl.1 (c_X7_in l E  h) 3 gX7_type_X7_in rfl ⟨rfl, rfl⟩ (by decide +kernel) ⟨Nat.le_of_ble_eq_true rfl, Nat.le_of_ble_eq_true rfl⟩ rfl rfl (Nat.le_of_ble_eq_true rfl) dX7_type_5 ⟨Nat.zero_le _, Nat.zero_le _⟩ (fun r_1 _u H locs h (hw : mw E A s.heap H locs (cR E aR v)) => ?_)
  refine lv_if_ne (tgt := 14) hx hb dX7_type_8 (by decide) (fun c_5 => ?_) (fun c_5 => ?_)
  · replace h := h.1 c_5
    refine lv_aload_n hx hb dX7_type_14 rfl (lv_at hl 0 rfl) ?_
    refine x_get C0 hw 7 hiX7 rfl 0 rfl 7 (by decide) 2 rfl rfl dX7_type_15 ?_
    refine lv_bipush (v := 60) hx hb dX7_type_18 (by decide) ?_
    refine lv_icmp_ne (tgt := 26) hx hb dX7_type_20 (by decide) (fun c_4 => ?_) (fun c_4 => ?_)
    · replace h := h.1 c_4
      refine lv_aload_n hx hb dX7_type_26 rfl (lv_at hl 0 rfl) ?_
      refine x_get C0 hw 7 hiX7 rfl 0 rfl 6 (by decide) 4 rfl rfl dX7_type_27 ?_
      refine lv_aload_n hx hb dX7_type_30 rfl (lv_at hl 0 rfl) ?_
      refine x_get C0 hw 7 hiX7 rfl 0 rfl 7 (by decide) 2 rfl rfl dX7_type_31 ?_
      refine lv_iload_n hx hb dX7_type_34 rfl (lv_at hl 1 rfl) ?_
      obtain ⟨hin, h⟩ := h
      refine x_ast (ws' := (cR E aR ((st v 5 (tn (v 0 7)) p1)))) C0 hw 5 rfl hin rfl dX7_type_35 (fun H locs hw => ?_)
      obtain ⟨v_2, e_v_2⟩ : ∃ z, z = st v 5 (tn (v 0 7)) p1 := ⟨_, rfl⟩
      rw [← e_v_2] at hw
      replace h := h v_2 e_v_2
      refine lv_aload_n hx hb dX7_type_36 rfl (lv_at hl 0 rfl) ?_
      refine lv_dup hx hb dX7_type_37 rfl ?_
      refine x_get C0 hw 7 hiX7 rfl 0 rfl 7 (by decide) 2 rfl rfl dX7_type_38 ?_
      refine lv_iconst (v := 1) hx hb dX7_type_41 (by decide) ?_
      refine lv_iadd hx hb dX7_type_42 ?_
      refine x_put (ws' := (cR E aR ((sc v_2 0 7 ((v_2 0 7) + 1))))) C0 hw 7 hiX7 rfl tyX7 tyX7_ok nmX7 0 rfl 7 (by decide) 2 rfl rfl rfl rfl (Nat.le_of_ble_eq_true rfl) rfl dX7_type_43 (fun H locs hw => ?_)
      obtain ⟨v_3, e_v_3⟩ : ∃ z, z = sc v_2 0 7 ((v_2 0 7) + 1) := ⟨_, rfl⟩
      rw [← e_v_3] at hw
      replace h := h v_3 e_v_3
      refine lv_aload_n hx hb dX7_type_46 rfl (lv_at hl 0 rfl) ?_
      refine x_get C0 hw 7 hiX7 rfl 0 rfl 7 (by decide) 2 rfl rfl dX7_type_47 ?_
      exact x_ret C0 v_3 hw h dX7_type_50
    · replace h := h.2 c_4
      refine x_ldc (v := (-10000003)) C0 3 rfl dX7_type_23 ?_
      exact x_ret C0 v hw h dX7_type_25
  · replace h := h.2 c_5
    refine x_ldc (v := (-10000001)) C0 1 rfl dX7_type_11 ?_
    exact x_ret C0 v hw h dX7_type_13

abbrev rmX7_clearText : Room := { frames := 0, cells := 0, slots := 0, locals := 0 }
set_option maxRecDepth 100000 in
set_option maxHeartbeats 4000000 in
theorem c_X7_clearText (l : Launch) (E : EE) (aR : Nat → Nat) {v : V}   {post : Int32 → V → Prop} (h : s_X7_clearText v post) : KI l E yX7_clearText wsX7_clearText rmX7_clearText [.ref (aR 0)] (cR E aR v) post (fun u => cR E aR u) := by
  unfold s_X7_clearText at h
  refine KI.go (cc := cX7_clearText) (ret := (some .int)) (maxL := 2) (own := RX7) (by decide) rfl (Nat.le_of_ble_eq_true rfl) rfl (fun p e s m below meth c A ls C0 hw hl => ?_)
  have hx := C0.1
  have hb := C0.2.1
  have hiX7 : ∀ w ∈ wsX70, w ∈ wsX7_clearText := fun w h => List.mem_cons_of_mem _ (List.mem_append_right _ h)
  replace hl : lv_has ls 2 [(0, .ref (aR 0))] := hl
  refine lv_aload_n hx hb dX7_clearText_0 rfl (lv_at hl 0 rfl) ?_
  refine x_get C0 hw 7 hiX7 rfl 0 rfl 7 (by decide) 1 rfl rfl dX7_clearText_1 ?_
  refine lv_istore_n (lv' := [(1, .int (v 0 7)), (0, .ref (aR 0))]) hx hb dX7_clearText_4 rfl hl (by decide) rfl (fun ls hl => ?_)
  refine lv_aload_n hx hb dX7_clearText_5 rfl (lv_at hl 1 rfl) ?_
  refine lv_iconst (v := 0) hx hb dX7_clearText_6 (by decide) ?_
  refine x_put (ws' := (cR E aR ((sc v 0 7 0)))) C0 hw 7 hiX7 rfl tyX7 tyX7_ok nmX7 0 rfl 7 (by decide) 1 rfl rfl rfl rfl (Nat.le_of_ble_eq_true rfl) rfl dX7_clearText_7 (fun H locs hw => ?_)
  obtain ⟨v_1, e_v_1⟩ : ∃ z, z = sc v 0 7 0 := ⟨_, rfl⟩
  rw [← e_v_1] at hw
  replace h := h v_1 e_v_1
  refine lv_iload_n hx hb dX7_clearText_10 rfl (lv_at hl 0 rfl) ?_
  exact x_ret C0 v_1 hw h dX7_clearText_11

abbrev rmX7_here : Room := { frames := 0, cells := 0, slots := 0, locals := 0 }
set_option maxRecDepth 100000 in
set_option maxHeartbeats 4000000 in
theorem c_X7_here (l : Launch) (E : EE) (aR : Nat → Nat) {v : V}   {post : Int32 → V → Prop} (h : s_X7_here v post) : KI l E yX7_here wsX7_here rmX7_here [.ref (aR 0)] (cR E aR v) post (fun u => cR E aR u) := by
  unfold s_X7_here at h
  refine KI.go (cc := cX7_here) (ret := (some .int)) (maxL := 1) (own := RX7) (by decide) rfl (Nat.le_of_ble_eq_true rfl) rfl (fun p e s m below meth c A ls C0 hw hl => ?_)
  have hx := C0.1
  have hb := C0.2.1
  have hiX7 : ∀ w ∈ wsX70, w ∈ wsX7_here := fun w h => List.mem_cons_of_mem _ (List.mem_append_right _ h)
  replace hl : lv_has ls 1 [(0, .ref (aR 0))] := hl
  refine lv_aload_n hx hb dX7_here_0 rfl (lv_at hl 0 rfl) ?_
  refine x_get C0 hw 7 hiX7 rfl 0 rfl 8 (by decide) 1 rfl rfl dX7_here_1 ?_
  refine lv_aload_n hx hb dX7_here_4 rfl (lv_at hl 0 rfl) ?_
  refine x_get C0 hw 7 hiX7 rfl 0 rfl 7 (by decide) 2 rfl rfl dX7_here_5 ?_
  refine lv_icmp_ge (tgt := 23) hx hb dX7_here_8 (by decide) (fun c_1 => ?_) (fun c_1 => ?_)
  · replace h := h.1 c_1
    refine lv_iconst (v := (-1)) hx hb dX7_here_23 (by decide) ?_
    exact x_ret C0 v hw h dX7_here_24
  · replace h := h.2 c_1
    refine lv_aload_n hx hb dX7_here_11 rfl (lv_at hl 0 rfl) ?_
    refine x_get C0 hw 7 hiX7 rfl 0 rfl 6 (by decide) 3 rfl rfl dX7_here_12 ?_
    refine lv_aload_n hx hb dX7_here_15 rfl (lv_at hl 0 rfl) ?_
    refine x_get C0 hw 7 hiX7 rfl 0 rfl 8 (by decide) 1 rfl rfl dX7_here_16 ?_
    obtain ⟨hin, h⟩ := h
    refine x_ald C0 hw 5 rfl hin dX7_here_19 ?_
    refine lv_goto (tgt := 24) hx hb dX7_here_20 (by decide) ?_
    exact x_ret C0 v hw h dX7_here_24

abbrev rmX7_isDigit : Room := { frames := 1, cells := 0, slots := 0, locals := 22 }
set_option maxRecDepth 100000 in
set_option maxHeartbeats 4000000 in
theorem c_X7_isDigit (l : Launch) (E : EE) (aR : Nat → Nat) {v : V}   {post : Int32 → V → Prop} (h : s_X7_isDigit v post) : KI l E yX7_isDigit wsX7_isDigit rmX7_isDigit [.ref (aR 0)] (cR E aR v) post (fun u => cR E aR u) := by
  unfold s_X7_isDigit at h
  refine KI.go (cc := cX7_isDigit) (ret := (some .boolean)) (maxL := 1) (own := RX7) (by decide) rfl (Nat.le_of_ble_eq_true rfl) rfl (fun p e s m below meth c A ls C0 hw hl => ?_)
  have hx := C0.1
  have hb := C0.2.1
  replace hl : lv_has ls 1 [(0, .ref (aR 0))] := hl
  refine lv_aload_n hx hb dX7_isDigit_0 rfl (lv_at hl 0 rfl) ?_
  refine x_cV (As := []) (rest := []) (F := []) C0 hw (p_nil _) hl.1 0 7 rfl rfl (c_X7_here l E aR h) 0 gX7_isDigit_X7_here rfl ⟨rfl, rfl⟩ (by decide +kernel) ⟨Nat.le_of_ble_eq_true rfl, Nat.le_of_ble_eq_true rfl⟩ rfl rfl (Nat.le_of_ble_eq_true rfl) dX7_isDigit_1 ⟨Nat.zero_le _, Nat.zero_le _⟩ (fun r_1 v_2 H locs h (hw : mw E A s.heap H locs (cR E aR v_2)) => ?_)
  refine lv_bipush (v := 48) hx hb dX7_isDigit_4 (by decide) ?_
  refine lv_bipush (v := 57) hx hb dX7_isDigit_6 (by decide) ?_
  refine x_cS (As := [.int r_1, .int 48, .int 57]) (rest := []) (F := (cR E aR v_2)) C0 hw (p_non _) hl.1 (c_X7_in l E  h) 3 gX7_isDigit_X7_in rfl ⟨rfl, rfl⟩ (by decide +kernel) ⟨Nat.le_of_ble_eq_true rfl, Nat.le_of_ble_eq_true rfl⟩ rfl rfl (Nat.le_of_ble_eq_true rfl) dX7_isDigit_8 ⟨Nat.zero_le _, Nat.zero_le _⟩ (fun r_3 _u H locs h (hw : mw E A s.heap H locs (cR E aR v_2)) => ?_)
  exact x_retz C0 h.1 v_2 hw h.2 dX7_isDigit_11

abbrev rmX7_takesSign : Room := { frames := 1, cells := 0, slots := 0, locals := 20 }
set_option maxRecDepth 100000 in
set_option maxHeartbeats 4000000 in
theorem c_X7_takesSign (l : Launch) (E : EE) (aR : Nat → Nat) {v : V}  {p1 : Int32} {post : V → Prop} (h : s_X7_takesSign v p1 post) : KV l E yX7_takesSign wsX7_takesSign rmX7_takesSign [.ref (aR 0), .int p1] (cR E aR v) post (fun u => cR E aR u) := by
  unfold s_X7_takesSign at h
  refine KV.go (cc := cX7_takesSign) (ret := none) (maxL := 2) (own := RX7) (by decide) rfl (Nat.le_of_ble_eq_true rfl) rfl (fun p e s m below meth c A ls C0 hw hl => ?_)
  have hx := C0.1
  have hb := C0.2.1
  have hiX7 : ∀ w ∈ wsX70, w ∈ wsX7_takesSign := fun w h => List.mem_cons_of_mem _ (List.mem_append_right _ h)
  replace hl : lv_has ls 2 [(0, .ref (aR 0)), (1, .int p1)] := hl
  refine lv_aload_n hx hb dX7_takesSign_0 rfl (lv_at hl 0 rfl) ?_
  refine lv_aload_n hx hb dX7_takesSign_1 rfl (lv_at hl 0 rfl) ?_
  refine x_get C0 hw 7 hiX7 rfl 0 rfl 11 (by decide) 1 rfl rfl dX7_takesSign_2 ?_
  refine lv_if_eq (tgt := 20) hx hb dX7_takesSign_5 (by decide) (fun c_16 => ?_) (fun c_16 => ?_)
  · replace h := h.1 c_16
    refine lv_iconst (v := 0) hx hb dX7_takesSign_20 (by decide) ?_
    refine x_put (ws' := (cR E aR ((sc v 0 11 0)))) C0 hw 7 hiX7 rfl tyX7 tyX7_ok nmX7 0 rfl 11 (by decide) 1 rfl rfl rfl rfl (Nat.le_of_ble_eq_true rfl) rfl dX7_takesSign_21 (fun H locs hw => ?_)
    obtain ⟨v_1, e_v_1⟩ : ∃ z, z = sc v 0 11 0 := ⟨_, rfl⟩
    rw [← e_v_1] at hw
    replace h := h v_1 e_v_1
    refine lv_aload_n hx hb dX7_takesSign_24 rfl (lv_at hl 0 rfl) ?_
    refine lv_dup hx hb dX7_takesSign_25 rfl ?_
    refine x_get C0 hw 7 hiX7 rfl 0 rfl 8 (by decide) 2 rfl rfl dX7_takesSign_26 ?_
    refine lv_aload_n hx hb dX7_takesSign_29 rfl (lv_at hl 0 rfl) ?_
    refine x_get C0 hw 7 hiX7 rfl 0 rfl 11 (by decide) 1 rfl rfl dX7_takesSign_30 ?_
    refine lv_if_eq (tgt := 40) hx hb dX7_takesSign_33 (by decide) (fun c_4 => ?_) (fun c_4 => ?_)
    · replace h := h.1 c_4
      refine lv_iconst (v := 0) hx hb dX7_takesSign_40 (by decide) ?_
      refine lv_iadd hx hb dX7_takesSign_41 ?_
      refine x_put (ws' := (cR E aR ((sc v_1 0 8 ((v_1 0 8) + 0))))) C0 hw 7 hiX7 rfl tyX7 tyX7_ok nmX7 0 rfl 8 (by decide) 2 rfl rfl rfl rfl (Nat.le_of_ble_eq_true rfl) rfl dX7_takesSign_42 (fun H locs hw => ?_)
      obtain ⟨v_2, e_v_2⟩ : ∃ z, z = sc v_1 0 8 ((v_1 0 8) + 0) := ⟨_, rfl⟩
      rw [← e_v_2] at hw
      replace h := h v_2 e_v_2
      exact x_retv C0 v_2 hw h dX7_takesSign_45
    · replace h := h.2 c_4
      refine lv_iconst (v := 1) hx hb dX7_takesSign_36 (by decide) ?_
      refine lv_goto (tgt := 41) hx hb dX7_takesSign_37 (by decide) ?_
      refine lv_iadd hx hb dX7_takesSign_41 ?_
      refine x_put (ws' := (cR E aR ((sc v_1 0 8 ((v_1 0 8) + 1))))) C0 hw 7 hiX7 rfl tyX7 tyX7_ok nmX7 0 rfl 8 (by decide) 2 rfl rfl rfl rfl (Nat.le_of_ble_eq_true rfl) rfl dX7_takesSign_42 (fun H locs hw => ?_)
      obtain ⟨v_3, e_v_3⟩ : ∃ z, z = sc v_1 0 8 ((v_1 0 8) + 1) := ⟨_, rfl⟩
      rw [← e_v_3] at hw
      replace h := h v_3 e_v_3
      exact x_retv C0 v_3 hw h dX7_takesSign_45
  · replace h := h.2 c_16
    refine lv_aload_n hx hb dX7_takesSign_8 rfl (lv_at hl 0 rfl) ?_
    refine x_cV (As := []) (rest := [.ref (aR 0)]) (F := []) C0 hw (p_nil _) hl.1 0 7 rfl rfl (c_X7_here l E aR h) 0 gX7_takesSign_X7_here rfl ⟨rfl, rfl⟩ (by decide +kernel) ⟨Nat.le_of_ble_eq_true rfl, Nat.le_of_ble_eq_true rfl⟩ rfl rfl (Nat.le_of_ble_eq_true rfl) dX7_takesSign_9 ⟨Nat.zero_le _, Nat.zero_le _⟩ (fun r_5 v_6 H locs h (hw : mw E A s.heap H locs (cR E aR v_6)) => ?_)
    refine lv_iload_n hx hb dX7_takesSign_12 rfl (lv_at hl 1 rfl) ?_
    refine lv_icmp_ne (tgt := 20) hx hb dX7_takesSign_13 (by decide) (fun c_15 => ?_) (fun c_15 => ?_)
    · replace h := h.1 c_15
      refine lv_iconst (v := 0) hx hb dX7_takesSign_20 (by decide) ?_
      refine x_put (ws' := (cR E aR ((sc v_6 0 11 0)))) C0 hw 7 hiX7 rfl tyX7 tyX7_ok nmX7 0 rfl 11 (by decide) 1 rfl rfl rfl rfl (Nat.le_of_ble_eq_true rfl) rfl dX7_takesSign_21 (fun H locs hw => ?_)
      obtain ⟨v_7, e_v_7⟩ : ∃ z, z = sc v_6 0 11 0 := ⟨_, rfl⟩
      rw [← e_v_7] at hw
      replace h := h v_7 e_v_7
      refine lv_aload_n hx hb dX7_takesSign_24 rfl (lv_at hl 0 rfl) ?_
      refine lv_dup hx hb dX7_takesSign_25 rfl ?_
      refine x_get C0 hw 7 hiX7 rfl 0 rfl 8 (by decide) 2 rfl rfl dX7_takesSign_26 ?_
      refine lv_aload_n hx hb dX7_takesSign_29 rfl (lv_at hl 0 rfl) ?_
      refine x_get C0 hw 7 hiX7 rfl 0 rfl 11 (by decide) 1 rfl rfl dX7_takesSign_30 ?_
      refine lv_if_eq (tgt := 40) hx hb dX7_takesSign_33 (by decide) (fun c_10 => ?_) (fun c_10 => ?_)
      · replace h := h.1 c_10
        refine lv_iconst (v := 0) hx hb dX7_takesSign_40 (by decide) ?_
        refine lv_iadd hx hb dX7_takesSign_41 ?_
        refine x_put (ws' := (cR E aR ((sc v_7 0 8 ((v_7 0 8) + 0))))) C0 hw 7 hiX7 rfl tyX7 tyX7_ok nmX7 0 rfl 8 (by decide) 2 rfl rfl rfl rfl (Nat.le_of_ble_eq_true rfl) rfl dX7_takesSign_42 (fun H locs hw => ?_)
        obtain ⟨v_8, e_v_8⟩ : ∃ z, z = sc v_7 0 8 ((v_7 0 8) + 0) := ⟨_, rfl⟩
        rw [← e_v_8] at hw
        replace h := h v_8 e_v_8
        exact x_retv C0 v_8 hw h dX7_takesSign_45
      · replace h := h.2 c_10
        refine lv_iconst (v := 1) hx hb dX7_takesSign_36 (by decide) ?_
        refine lv_goto (tgt := 41) hx hb dX7_takesSign_37 (by decide) ?_
        refine lv_iadd hx hb dX7_takesSign_41 ?_
        refine x_put (ws' := (cR E aR ((sc v_7 0 8 ((v_7 0 8) + 1))))) C0 hw 7 hiX7 rfl tyX7 tyX7_ok nmX7 0 rfl 8 (by decide) 2 rfl rfl rfl rfl (Nat.le_of_ble_eq_true rfl) rfl dX7_takesSign_42 (fun H locs hw => ?_)
        obtain ⟨v_9, e_v_9⟩ : ∃ z, z = sc v_7 0 8 ((v_7 0 8) + 1) := ⟨_, rfl⟩
        rw [← e_v_9] at hw
        replace h := h v_9 e_v_9
        exact x_retv C0 v_9 hw h dX7_takesSign_45
    · replace h := h.2 c_15
      refine lv_iconst (v := 1) hx hb dX7_takesSign_16 (by decide) ?_
      refine lv_goto (tgt := 21) hx hb dX7_takesSign_17 (by decide) ?_
      refine x_put (ws' := (cR E aR ((sc v_6 0 11 1)))) C0 hw 7 hiX7 rfl tyX7 tyX7_ok nmX7 0 rfl 11 (by decide) 1 rfl rfl rfl rfl (Nat.le_of_ble_eq_true rfl) rfl dX7_takesSign_21 (fun H locs hw => ?_)
      obtain ⟨v_11, e_v_11⟩ : ∃ z, z = sc v_6 0 11 1 := ⟨_, rfl⟩
      rw [← e_v_11] at hw
      replace h := h v_11 e_v_11
      refine lv_aload_n hx hb dX7_takesSign_24 rfl (lv_at hl 0 rfl) ?_
      refine lv_dup hx hb dX7_takesSign_25 rfl ?_
      refine x_get C0 hw 7 hiX7 rfl 0 rfl 8 (by decide) 2 rfl rfl dX7_takesSign_26 ?_
      refine lv_aload_n hx hb dX7_takesSign_29 rfl (lv_at hl 0 rfl) ?_
      refine x_get C0 hw 7 hiX7 rfl 0 rfl 11 (by decide) 1 rfl rfl dX7_takesSign_30 ?_
      refine lv_if_eq (tgt := 40) hx hb dX7_takesSign_33 (by decide) (fun c_14 => ?_) (fun c_14 => ?_)
      · replace h := h.1 c_14
        refine lv_iconst (v := 0) hx hb dX7_takesSign_40 (by decide) ?_
        refine lv_iadd hx hb dX7_takesSign_41 ?_
        refine x_put (ws' := (cR E aR ((sc v_11 0 8 ((v_11 0 8) + 0))))) C0 hw 7 hiX7 rfl tyX7 tyX7_ok nmX7 0 rfl 8 (by decide) 2 rfl rfl rfl rfl (Nat.le_of_ble_eq_true rfl) rfl dX7_takesSign_42 (fun H locs hw => ?_)
        obtain ⟨v_12, e_v_12⟩ : ∃ z, z = sc v_11 0 8 ((v_11 0 8) + 0) := ⟨_, rfl⟩
        rw [← e_v_12] at hw
        replace h := h v_12 e_v_12
        exact x_retv C0 v_12 hw h dX7_takesSign_45
      · replace h := h.2 c_14
        refine lv_iconst (v := 1) hx hb dX7_takesSign_36 (by decide) ?_
        refine lv_goto (tgt := 41) hx hb dX7_takesSign_37 (by decide) ?_
        refine lv_iadd hx hb dX7_takesSign_41 ?_
        refine x_put (ws' := (cR E aR ((sc v_11 0 8 ((v_11 0 8) + 1))))) C0 hw 7 hiX7 rfl tyX7 tyX7_ok nmX7 0 rfl 8 (by decide) 2 rfl rfl rfl rfl (Nat.le_of_ble_eq_true rfl) rfl dX7_takesSign_42 (fun H locs hw => ?_)
        obtain ⟨v_13, e_v_13⟩ : ∃ z, z = sc v_11 0 8 ((v_11 0 8) + 1) := ⟨_, rfl⟩
        rw [← e_v_13] at hw
        replace h := h v_13 e_v_13
        exact x_retv C0 v_13 hw h dX7_takesSign_45

abbrev rmX7_number : Room := { frames := 2, cells := 0, slots := 0, locals := 42 }
set_option maxRecDepth 100000 in
set_option maxHeartbeats 4000000 in
theorem w_X7_number_27 {p : Program} {l : Launch} {e : Env} {s : State} {m : MethodId} {below : List Frame} {meth : Method} {c : Code} {E : EE} {A : Nat → Prop} {aR : Nat → Nat} {args : Array Value} (C0 : Cx E p s m args meth c A cX7_number 3 RX7 wsX7_number (some .int)) {post : Int32 → V → Prop}   {k0 : Int32 → Int32 → V → Prop} : ∀ (n : Nat) (x1 : Int32) (x2 : Int32) (v : V), sl_X7_number_27 post k0 n x1 x2 v → ∀ (H : Heap) (locs : List Loc) (ls : Array Slot), mw E A s.heap H locs (cR E aR v) → lv_has ls 3 [(0, .ref (aR 0)), (1, .int x1), (2, .int x2)] → (∀ (x1 : Int32) (x2 : Int32) (v : V) (H : Heap) (locs : List Loc) (ls : Array Slot), k0 x1 x2 v → mw E A s.heap H locs (cR E aR v) → lv_has ls 3 [(0, .ref (aR 0)), (1, .int x1), (2, .int x2)] → W p l e rmX7_number s m args below meth c H locs 0 0 (qI E A post (fun u => cR E aR u) below args s) (F0 m 75 ls [])) → W p l e rmX7_number s m args below meth c H locs 0 0 (qI E A post (fun u => cR E aR u) below args s) (F0 m 27 ls []) := by
  have hx := C0.1
  have hb := C0.2.1
  have hiX7 : ∀ w ∈ wsX70, w ∈ wsX7_number := fun w h => List.mem_cons_of_mem _ (List.mem_append_right _ h)
  intro n
  induction n with
  | zero => intro x1 x2 v h; exact False.elim h
  | succ n ih =>
    intro x1 x2 v h H locs ls hw hl hk0
    replace h : sb_X7_number_27 post k0 (sl_X7_number_27 post k0 n) x1 x2 v := h
    unfold sb_X7_number_27 at h
    refine lv_iload_n hx hb dX7_number_27 rfl (lv_at hl 2 rfl) ?_
    refine lv_iconst (v := 4) hx hb dX7_number_28 (by decide) ?_
    refine lv_icmp_ge (tgt := 75) hx hb dX7_number_29 (by decide) (fun c_9 => ?_) (fun c_9 => ?_)
    · replace h := h.1 c_9
      exact hk0 _ _ _ _ _ _ h hw (lv_sub hl [0, 1, 2] rfl)
    · replace h := h.2 c_9
      refine lv_aload_n hx hb dX7_number_32 rfl (lv_at hl 0 rfl) ?_
      refine x_get C0 hw 7 hiX7 rfl 0 rfl 11 (by decide) 1 rfl rfl dX7_number_33 ?_
      refine lv_if_eq (tgt := 75) hx hb dX7_number_36 (by decide) (fun c_8 => ?_) (fun c_8 => ?_)
      · replace h := h.1 c_8
        exact hk0 _ _ _ _ _ _ h hw (lv_sub hl [0, 1, 2] rfl)
      · replace h := h.2 c_8
        refine lv_aload_n hx hb dX7_number_39 rfl (lv_at hl 0 rfl) ?_
        refine x_cV (As := []) (rest := []) (F := []) C0 hw (p_nil _) hl.1 0 7 rfl rfl (c_X7_isDigit l E aR h) 0 gX7_number_X7_isDigit rfl ⟨rfl, rfl⟩ (by decide +kernel) ⟨Nat.le_of_ble_eq_true rfl, Nat.le_of_ble_eq_true rfl⟩ rfl rfl (Nat.le_of_ble_eq_true rfl) dX7_number_40 ⟨Nat.zero_le _, Nat.zero_le _⟩ (fun r_2 v_3 H locs h (hw : mw E A s.heap H locs (cR E aR v_3)) => ?_)
        refine lv_if_eq (tgt := 75) hx hb dX7_number_43 (by decide) (fun c_7 => ?_) (fun c_7 => ?_)
        · replace h := h.1 c_7
          exact hk0 _ _ _ _ _ _ h hw (lv_sub hl [0, 1, 2] rfl)
        · replace h := h.2 c_7
          refine lv_bipush (v := 10) hx hb dX7_number_46 (by decide) ?_
          refine lv_iload_n hx hb dX7_number_48 rfl (lv_at hl 1 rfl) ?_
          refine lv_imul hx hb dX7_number_49 ?_
          refine lv_aload_n hx hb dX7_number_50 rfl (lv_at hl 0 rfl) ?_
          refine x_cV (As := []) (rest := [.int (10 * x1)]) (F := []) C0 hw (p_nil _) hl.1 0 7 rfl rfl (c_X7_here l E aR h) 0 gX7_number_X7_here rfl ⟨rfl, rfl⟩ (by decide +kernel) ⟨Nat.le_of_ble_eq_true rfl, Nat.le_of_ble_eq_true rfl⟩ rfl rfl (Nat.le_of_ble_eq_true rfl) dX7_number_51 ⟨Nat.zero_le _, Nat.zero_le _⟩ (fun r_4 v_5 H locs h (hw : mw E A s.heap H locs (cR E aR v_5)) => ?_)
          refine lv_iadd hx hb dX7_number_54 ?_
          refine lv_bipush (v := 48) hx hb dX7_number_55 (by decide) ?_
          refine lv_isub hx hb dX7_number_57 ?_
          refine lv_istore_n (lv' := [(1, .int (((10 * x1) + r_4) - 48)), (0, .ref (aR 0)), (2, .int x2)]) hx hb dX7_number_58 rfl hl (by decide) rfl (fun ls hl => ?_)
          refine lv_aload_n hx hb dX7_number_59 rfl (lv_at hl 1 rfl) ?_
          refine lv_dup hx hb dX7_number_60 rfl ?_
          refine x_get C0 hw 7 hiX7 rfl 0 rfl 8 (by decide) 2 rfl rfl dX7_number_61 ?_
          refine lv_iconst (v := 1) hx hb dX7_number_64 (by decide) ?_
          refine lv_iadd hx hb dX7_number_65 ?_
          refine x_put (ws' := (cR E aR ((sc v_5 0 8 ((v_5 0 8) + 1))))) C0 hw 7 hiX7 rfl tyX7 tyX7_ok nmX7 0 rfl 8 (by decide) 2 rfl rfl rfl rfl (Nat.le_of_ble_eq_true rfl) rfl dX7_number_66 (fun H locs hw => ?_)
          obtain ⟨v_6, e_v_6⟩ : ∃ z, z = sc v_5 0 8 ((v_5 0 8) + 1) := ⟨_, rfl⟩
          rw [← e_v_6] at hw
          replace h := h v_6 e_v_6
          refine lv_iinc (v := (x2 + 1)) (lv' := [(2, .int (x2 + 1)), (1, .int (((10 * x1) + r_4) - 48)), (0, .ref (aR 0))]) hx hb dX7_number_69 hl (k := 2) rfl rfl (by decide) rfl (fun ls hl => ?_)
          refine lv_goto (tgt := 27) hx hb dX7_number_72 (by decide) ?_
          exact ih _ _ _ h _ _ _ hw (lv_sub hl [2, 1, 0] rfl) hk0
set_option maxRecDepth 100000 in
set_option maxHeartbeats 4000000 in
theorem c_X7_number (l : Launch) (E : EE) (aR : Nat → Nat) {v : V}   {post : Int32 → V → Prop} (h : s_X7_number v post) : KI l E yX7_number wsX7_number rmX7_number [.ref (aR 0)] (cR E aR v) post (fun u => cR E aR u) := by
  unfold s_X7_number at h
  refine KI.go (cc := cX7_number) (ret := (some .int)) (maxL := 3) (own := RX7) (by decide) rfl (Nat.le_of_ble_eq_true rfl) rfl (fun p e s m below meth c A ls C0 hw hl => ?_)
  have hx := C0.1
  have hb := C0.2.1
  have hiX7 : ∀ w ∈ wsX70, w ∈ wsX7_number := fun w h => List.mem_cons_of_mem _ (List.mem_append_right _ h)
  replace hl : lv_has ls 3 [(0, .ref (aR 0))] := hl
  refine lv_aload_n hx hb dX7_number_0 rfl (lv_at hl 0 rfl) ?_
  refine lv_aload_n hx hb dX7_number_1 rfl (lv_at hl 0 rfl) ?_
  refine x_get C0 hw 7 hiX7 rfl 0 rfl 11 (by decide) 1 rfl rfl dX7_number_2 ?_
  refine lv_if_eq (tgt := 19) hx hb dX7_number_5 (by decide) (fun c_27 => ?_) (fun c_27 => ?_)
  · replace h := h.1 c_27
    refine lv_iconst (v := 0) hx hb dX7_number_19 (by decide) ?_
    refine x_put (ws' := (cR E aR ((sc v 0 11 0)))) C0 hw 7 hiX7 rfl tyX7 tyX7_ok nmX7 0 rfl 11 (by decide) 1 rfl rfl rfl rfl (Nat.le_of_ble_eq_true rfl) rfl dX7_number_20 (fun H locs hw => ?_)
    obtain ⟨v_1, e_v_1⟩ : ∃ z, z = sc v 0 11 0 := ⟨_, rfl⟩
    rw [← e_v_1] at hw
    replace h := h v_1 e_v_1
    refine lv_iconst (v := 0) hx hb dX7_number_23 (by decide) ?_
    refine lv_istore_n (lv' := [(1, .int 0), (0, .ref (aR 0))]) hx hb dX7_number_24 rfl hl (by decide) rfl (fun ls hl => ?_)
    refine lv_iconst (v := 0) hx hb dX7_number_25 (by decide) ?_
    refine lv_istore_n (lv' := [(2, .int 0), (1, .int 0), (0, .ref (aR 0))]) hx hb dX7_number_26 rfl hl (by decide) rfl (fun ls hl => ?_)
    obtain ⟨n_10, h⟩ := h
    refine w_X7_number_27 C0 _ _ _ _ h _ _ _ hw (lv_sub hl [2, 1, 0] rfl) ?_
    · intro x1_11 x2_12 v_13 H locs ls h hw hl
      refine lv_iload_n hx hb dX7_number_75 rfl (lv_at hl 1 rfl) ?_
      exact x_ret C0 v_13 hw h dX7_number_76
  · replace h := h.2 c_27
    refine lv_aload_n hx hb dX7_number_8 rfl (lv_at hl 0 rfl) ?_
    refine x_cV (As := []) (rest := [.ref (aR 0)]) (F := []) C0 hw (p_nil _) hl.1 0 7 rfl rfl (c_X7_isDigit l E aR h) 0 gX7_number_X7_isDigit rfl ⟨rfl, rfl⟩ (by decide +kernel) ⟨Nat.le_of_ble_eq_true rfl, Nat.le_of_ble_eq_true rfl⟩ rfl rfl (Nat.le_of_ble_eq_true rfl) dX7_number_9 ⟨Nat.zero_le _, Nat.zero_le _⟩ (fun r_14 v_15 H locs h (hw : mw E A s.heap H locs (cR E aR v_15)) => ?_)
    refine lv_if_eq (tgt := 19) hx hb dX7_number_12 (by decide) (fun c_26 => ?_) (fun c_26 => ?_)
    · replace h := h.1 c_26
      refine lv_iconst (v := 0) hx hb dX7_number_19 (by decide) ?_
      refine x_put (ws' := (cR E aR ((sc v_15 0 11 0)))) C0 hw 7 hiX7 rfl tyX7 tyX7_ok nmX7 0 rfl 11 (by decide) 1 rfl rfl rfl rfl (Nat.le_of_ble_eq_true rfl) rfl dX7_number_20 (fun H locs hw => ?_)
      obtain ⟨v_16, e_v_16⟩ : ∃ z, z = sc v_15 0 11 0 := ⟨_, rfl⟩
      rw [← e_v_16] at hw
      replace h := h v_16 e_v_16
      refine lv_iconst (v := 0) hx hb dX7_number_23 (by decide) ?_
      refine lv_istore_n (lv' := [(1, .int 0), (0, .ref (aR 0))]) hx hb dX7_number_24 rfl hl (by decide) rfl (fun ls hl => ?_)
      refine lv_iconst (v := 0) hx hb dX7_number_25 (by decide) ?_
      refine lv_istore_n (lv' := [(2, .int 0), (1, .int 0), (0, .ref (aR 0))]) hx hb dX7_number_26 rfl hl (by decide) rfl (fun ls hl => ?_)
      obtain ⟨n_17, h⟩ := h
      refine w_X7_number_27 C0 _ _ _ _ h _ _ _ hw (lv_sub hl [2, 1, 0] rfl) ?_
      · intro x1_18 x2_19 v_20 H locs ls h hw hl
        refine lv_iload_n hx hb dX7_number_75 rfl (lv_at hl 1 rfl) ?_
        exact x_ret C0 v_20 hw h dX7_number_76
    · replace h := h.2 c_26
      refine lv_iconst (v := 1) hx hb dX7_number_15 (by decide) ?_
      refine lv_goto (tgt := 20) hx hb dX7_number_16 (by decide) ?_
      refine x_put (ws' := (cR E aR ((sc v_15 0 11 1)))) C0 hw 7 hiX7 rfl tyX7 tyX7_ok nmX7 0 rfl 11 (by decide) 1 rfl rfl rfl rfl (Nat.le_of_ble_eq_true rfl) rfl dX7_number_20 (fun H locs hw => ?_)
      obtain ⟨v_21, e_v_21⟩ : ∃ z, z = sc v_15 0 11 1 := ⟨_, rfl⟩
      rw [← e_v_21] at hw
      replace h := h v_21 e_v_21
      refine lv_iconst (v := 0) hx hb dX7_number_23 (by decide) ?_
      refine lv_istore_n (lv' := [(1, .int 0), (0, .ref (aR 0))]) hx hb dX7_number_24 rfl hl (by decide) rfl (fun ls hl => ?_)
      refine lv_iconst (v := 0) hx hb dX7_number_25 (by decide) ?_
      refine lv_istore_n (lv' := [(2, .int 0), (1, .int 0), (0, .ref (aR 0))]) hx hb dX7_number_26 rfl hl (by decide) rfl (fun ls hl => ?_)
      obtain ⟨n_22, h⟩ := h
      refine w_X7_number_27 C0 _ _ _ _ h _ _ _ hw (lv_sub hl [2, 1, 0] rfl) ?_
      · intro x1_23 x2_24 v_25 H locs ls h hw hl
        refine lv_iload_n hx hb dX7_number_75 rfl (lv_at hl 1 rfl) ?_
        exact x_ret C0 v_25 hw h dX7_number_76

abbrev rmX7_word : Room := { frames := 1, cells := 0, slots := 0, locals := 22 }
set_option maxRecDepth 100000 in
set_option maxHeartbeats 4000000 in
theorem w_X7_word_4 {p : Program} {l : Launch} {e : Env} {s : State} {m : MethodId} {below : List Frame} {meth : Method} {c : Code} {E : EE} {A : Nat → Prop} {aR : Nat → Nat} {args : Array Value} (C0 : Cx E p s m args meth c A cX7_word 3 RX7 wsX7_word (some .int)) {post : Int32 → V → Prop}   {k0 : Int32 → Int32 → V → Prop} : ∀ (n : Nat) (x1 : Int32) (x2 : Int32) (v : V), sl_X7_word_4 post k0 n x1 x2 v → ∀ (H : Heap) (locs : List Loc) (ls : Array Slot), mw E A s.heap H locs (cR E aR v) → lv_has ls 3 [(0, .ref (aR 0)), (1, .int x1), (2, .int x2)] → (∀ (x1 : Int32) (x2 : Int32) (v : V) (H : Heap) (locs : List Loc) (ls : Array Slot), k0 x1 x2 v → mw E A s.heap H locs (cR E aR v) → lv_has ls 3 [(0, .ref (aR 0)), (1, .int x1), (2, .int x2)] → W p l e rmX7_word s m args below meth c H locs 0 0 (qI E A post (fun u => cR E aR u) below args s) (F0 m 58 ls [])) → W p l e rmX7_word s m args below meth c H locs 0 0 (qI E A post (fun u => cR E aR u) below args s) (F0 m 4 ls []) := by
  have hx := C0.1
  have hb := C0.2.1
  have hiX7 : ∀ w ∈ wsX70, w ∈ wsX7_word := fun w h => List.mem_cons_of_mem _ (List.mem_append_right _ h)
  intro n
  induction n with
  | zero => intro x1 x2 v h; exact False.elim h
  | succ n ih =>
    intro x1 x2 v h H locs ls hw hl hk0
    replace h : sb_X7_word_4 post k0 (sl_X7_word_4 post k0 n) x1 x2 v := h
    unfold sb_X7_word_4 at h
    refine lv_aload_n hx hb dX7_word_4 rfl (lv_at hl 0 rfl) ?_
    refine x_cV (As := []) (rest := []) (F := []) C0 hw (p_nil _) hl.1 0 7 rfl rfl (c_X7_here l E aR h) 0 gX7_word_X7_here rfl ⟨rfl, rfl⟩ (by decide +kernel) ⟨Nat.le_of_ble_eq_true rfl, Nat.le_of_ble_eq_true rfl⟩ rfl rfl (Nat.le_of_ble_eq_true rfl) dX7_word_5 ⟨Nat.zero_le _, Nat.zero_le _⟩ (fun r_1 v_2 H locs h (hw : mw E A s.heap H locs (cR E aR v_2)) => ?_)
    refine lv_bipush (v := 97) hx hb dX7_word_8 (by decide) ?_
    refine lv_bipush (v := 122) hx hb dX7_word_10 (by decide) ?_
    refine x_cS (As := [.int r_1, .int 97, .int 122]) (rest := []) (F := (cR E aR v_2)) C0 hw (p_non _) hl.1 (c_X7_in l E  h) 3 gX7_word_X7_in rfl ⟨rfl, rfl⟩ (by decide +kernel) ⟨Nat.le_of_ble_eq_true rfl, Nat.le_of_ble_eq_true rfl⟩ rfl rfl (Nat.le_of_ble_eq_true rfl) dX7_word_12 ⟨Nat.zero_le _, Nat.zero_le _⟩ (fun r_3 _u H locs h (hw : mw E A s.heap H locs (cR E aR v_2)) => ?_)
    refine lv_if_eq (tgt := 58) hx hb dX7_word_15 (by decide) (fun c_9 => ?_) (fun c_9 => ?_)
    · replace h := h.1 c_9
      exact hk0 _ _ _ _ _ _ h hw (lv_sub hl [0, 1, 2] rfl)
    · replace h := h.2 c_9
      refine lv_iinc (v := (x2 + 1)) (lv' := [(2, .int (x2 + 1)), (0, .ref (aR 0)), (1, .int x1)]) hx hb dX7_word_18 hl (k := 2) rfl rfl (by decide) rfl (fun ls hl => ?_)
      refine lv_iload_n hx hb dX7_word_21 rfl (lv_at hl 0 rfl) ?_
      refine lv_iconst (v := 5) hx hb dX7_word_22 (by decide) ?_
      refine lv_icmp_le (tgt := 30) hx hb dX7_word_23 (by decide) (fun c_8 => ?_) (fun c_8 => ?_)
      · replace h := h.1 c_8
        refine lv_bipush (v := 32) hx hb dX7_word_30 (by decide) ?_
        refine lv_iload_n hx hb dX7_word_32 rfl (lv_at hl 2 rfl) ?_
        refine lv_imul hx hb dX7_word_33 ?_
        refine lv_aload_n hx hb dX7_word_34 rfl (lv_at hl 1 rfl) ?_
        refine x_cV (As := []) (rest := [.int (32 * x1)]) (F := []) C0 hw (p_nil _) hl.1 0 7 rfl rfl (c_X7_here l E aR h) 0 gX7_word_X7_here rfl ⟨rfl, rfl⟩ (by decide +kernel) ⟨Nat.le_of_ble_eq_true rfl, Nat.le_of_ble_eq_true rfl⟩ rfl rfl (Nat.le_of_ble_eq_true rfl) dX7_word_35 ⟨Nat.zero_le _, Nat.zero_le _⟩ (fun r_4 v_5 H locs h (hw : mw E A s.heap H locs (cR E aR v_5)) => ?_)
        refine lv_iadd hx hb dX7_word_38 ?_
        refine lv_bipush (v := 97) hx hb dX7_word_39 (by decide) ?_
        refine lv_isub hx hb dX7_word_41 ?_
        refine lv_iconst (v := 1) hx hb dX7_word_42 (by decide) ?_
        refine lv_iadd hx hb dX7_word_43 ?_
        refine lv_istore_n (lv' := [(1, .int ((((32 * x1) + r_4) - 97) + 1)), (2, .int (x2 + 1)), (0, .ref (aR 0))]) hx hb dX7_word_44 rfl hl (by decide) rfl (fun ls hl => ?_)
        refine lv_aload_n hx hb dX7_word_45 rfl (lv_at hl 2 rfl) ?_
        refine lv_dup hx hb dX7_word_46 rfl ?_
        refine x_get C0 hw 7 hiX7 rfl 0 rfl 8 (by decide) 1 rfl rfl dX7_word_47 ?_
        refine lv_iconst (v := 1) hx hb dX7_word_50 (by decide) ?_
        refine lv_iadd hx hb dX7_word_51 ?_
        refine x_put (ws' := (cR E aR ((sc v_5 0 8 ((v_5 0 8) + 1))))) C0 hw 7 hiX7 rfl tyX7 tyX7_ok nmX7 0 rfl 8 (by decide) 1 rfl rfl rfl rfl (Nat.le_of_ble_eq_true rfl) rfl dX7_word_52 (fun H locs hw => ?_)
        obtain ⟨v_6, e_v_6⟩ : ∃ z, z = sc v_5 0 8 ((v_5 0 8) + 1) := ⟨_, rfl⟩
        rw [← e_v_6] at hw
        replace h := h v_6 e_v_6
        refine lv_goto (tgt := 4) hx hb dX7_word_55 (by decide) ?_
        exact ih _ _ _ h _ _ _ hw (lv_sub hl [2, 0, 1] rfl) hk0
      · replace h := h.2 c_8
        refine lv_iconst (v := (-1)) hx hb dX7_word_26 (by decide) ?_
        refine lv_goto (tgt := 44) hx hb dX7_word_27 (by decide) ?_
        refine lv_istore_n (lv' := [(1, .int (-1)), (2, .int (x2 + 1)), (0, .ref (aR 0))]) hx hb dX7_word_44 rfl hl (by decide) rfl (fun ls hl => ?_)
        refine lv_aload_n hx hb dX7_word_45 rfl (lv_at hl 2 rfl) ?_
        refine lv_dup hx hb dX7_word_46 rfl ?_
        refine x_get C0 hw 7 hiX7 rfl 0 rfl 8 (by decide) 1 rfl rfl dX7_word_47 ?_
        refine lv_iconst (v := 1) hx hb dX7_word_50 (by decide) ?_
        refine lv_iadd hx hb dX7_word_51 ?_
        refine x_put (ws' := (cR E aR ((sc v_2 0 8 ((v_2 0 8) + 1))))) C0 hw 7 hiX7 rfl tyX7 tyX7_ok nmX7 0 rfl 8 (by decide) 1 rfl rfl rfl rfl (Nat.le_of_ble_eq_true rfl) rfl dX7_word_52 (fun H locs hw => ?_)
        obtain ⟨v_7, e_v_7⟩ : ∃ z, z = sc v_2 0 8 ((v_2 0 8) + 1) := ⟨_, rfl⟩
        rw [← e_v_7] at hw
        replace h := h v_7 e_v_7
        refine lv_goto (tgt := 4) hx hb dX7_word_55 (by decide) ?_
        exact ih _ _ _ h _ _ _ hw (lv_sub hl [2, 0, 1] rfl) hk0
set_option maxRecDepth 100000 in
set_option maxHeartbeats 4000000 in
theorem c_X7_word (l : Launch) (E : EE) (aR : Nat → Nat) {v : V}   {post : Int32 → V → Prop} (h : s_X7_word v post) : KI l E yX7_word wsX7_word rmX7_word [.ref (aR 0)] (cR E aR v) post (fun u => cR E aR u) := by
  unfold s_X7_word at h
  refine KI.go (cc := cX7_word) (ret := (some .int)) (maxL := 3) (own := RX7) (by decide) rfl (Nat.le_of_ble_eq_true rfl) rfl (fun p e s m below meth c A ls C0 hw hl => ?_)
  have hx := C0.1
  have hb := C0.2.1
  have hiX7 : ∀ w ∈ wsX70, w ∈ wsX7_word := fun w h => List.mem_cons_of_mem _ (List.mem_append_right _ h)
  replace hl : lv_has ls 3 [(0, .ref (aR 0))] := hl
  refine lv_iconst (v := 0) hx hb dX7_word_0 (by decide) ?_
  refine lv_istore_n (lv' := [(1, .int 0), (0, .ref (aR 0))]) hx hb dX7_word_1 rfl hl (by decide) rfl (fun ls hl => ?_)
  refine lv_iconst (v := 0) hx hb dX7_word_2 (by decide) ?_
  refine lv_istore_n (lv' := [(2, .int 0), (1, .int 0), (0, .ref (aR 0))]) hx hb dX7_word_3 rfl hl (by decide) rfl (fun ls hl => ?_)
  obtain ⟨n_11, h⟩ := h
  refine w_X7_word_4 C0 _ _ _ _ h _ _ _ hw (lv_sub hl [2, 1, 0] rfl) ?_
  · intro x1_12 x2_13 v_14 H locs ls h hw hl
    refine lv_iload_n hx hb dX7_word_58 rfl (lv_at hl 1 rfl) ?_
    exact x_ret C0 v_14 hw h dX7_word_59

abbrev rmX7_code : Room := { frames := 0, cells := 0, slots := 0, locals := 0 }
set_option maxRecDepth 100000 in
set_option maxHeartbeats 4000000 in
theorem c_X7_code (l : Launch) (E : EE)    {p0 : Int32} {p1 : Int32} {p2 : Int32} {p3 : Int32} {post : Int32 → Prop} (h : s_X7_code p0 p1 p2 p3 post) : KI l E yX7_code wsX7_code rmX7_code [.int p0, .int p1, .int p2, .int p3] ([] : va_W) (S := Unit) (fun r (_ : Unit) => post r) (fun (_ : Unit) => ([] : va_W)) := by
  unfold s_X7_code at h
  refine KI.go (cc := cX7_code) (ret := (some .int)) (maxL := 4) (own := RX7) (by decide) rfl (Nat.le_of_ble_eq_true rfl) rfl (fun p e s m below meth c A ls C0 hw hl => ?_)
  have hx := C0.1
  have hb := C0.2.1
  replace hl : lv_has ls 4 [(0, .int p0), (1, .int p1), (2, .int p2), (3, .int p3)] := hl
  refine x_ldc (v := 32768) C0 1 rfl dX7_code_0 ?_
  refine lv_iload_n hx hb dX7_code_2 rfl (lv_at hl 0 rfl) ?_
  refine lv_bipush (v := 96) hx hb dX7_code_3 (by decide) ?_
  refine lv_isub hx hb dX7_code_5 ?_
  refine lv_imul hx hb dX7_code_6 ?_
  refine lv_sipush (v := 1024) hx hb dX7_code_7 (by decide) ?_
  refine lv_iload_n hx hb dX7_code_10 rfl (lv_at hl 1 rfl) ?_
  refine lv_bipush (v := 96) hx hb dX7_code_11 (by decide) ?_
  refine lv_isub hx hb dX7_code_13 ?_
  refine lv_imul hx hb dX7_code_14 ?_
  refine lv_iadd hx hb dX7_code_15 ?_
  refine lv_bipush (v := 32) hx hb dX7_code_16 (by decide) ?_
  refine lv_iload_n hx hb dX7_code_18 rfl (lv_at hl 2 rfl) ?_
  refine lv_bipush (v := 96) hx hb dX7_code_19 (by decide) ?_
  refine lv_isub hx hb dX7_code_21 ?_
  refine lv_imul hx hb dX7_code_22 ?_
  refine lv_iadd hx hb dX7_code_23 ?_
  refine lv_iload_n hx hb dX7_code_24 rfl (lv_at hl 3 rfl) ?_
  refine lv_iadd hx hb dX7_code_25 ?_
  refine lv_bipush (v := 96) hx hb dX7_code_26 (by decide) ?_
  refine lv_isub hx hb dX7_code_28 ?_
  exact x_ret C0 () hw h dX7_code_29

abbrev rmX7_sort : Room := { frames := 1, cells := 0, slots := 0, locals := 23 }
set_option maxRecDepth 100000 in
set_option maxHeartbeats 4000000 in
theorem c_X7_sort (l : Launch) (E : EE)    {p0 : Int32} {post : Int32 → Prop} (h : s_X7_sort p0 post) : KI l E yX7_sort wsX7_sort rmX7_sort [.int p0] ([] : va_W) (S := Unit) (fun r (_ : Unit) => post r) (fun (_ : Unit) => ([] : va_W)) := by
  unfold s_X7_sort at h
  refine KI.go (cc := cX7_sort) (ret := (some .int)) (maxL := 1) (own := RX7) (by decide) rfl (Nat.le_of_ble_eq_true rfl) rfl (fun p e s m below meth c A ls C0 hw hl => ?_)
  have hx := C0.1
  have hb := C0.2.1
  replace hl : lv_has ls 1 [(0, .int p0)] := hl
  refine lv_iload_n hx hb dX7_sort_0 rfl (lv_at hl 0 rfl) ?_
  refine lv_bipush (v := 108) hx hb dX7_sort_1 (by decide) ?_
  refine lv_bipush (v := 101) hx hb dX7_sort_3 (by decide) ?_
  refine lv_bipush (v := 110) hx hb dX7_sort_5 (by decide) ?_
  refine lv_bipush (v := 100) hx hb dX7_sort_7 (by decide) ?_
  refine x_cS (As := [.int 108, .int 101, .int 110, .int 100]) (rest := [.int p0]) (F := ([] : va_W)) C0 hw (p_non _) hl.1 (c_X7_code l E  h) 4 gX7_sort_X7_code rfl ⟨rfl, rfl⟩ (by decide +kernel) ⟨Nat.le_of_ble_eq_true rfl, Nat.le_of_ble_eq_true rfl⟩ rfl rfl (Nat.le_of_ble_eq_true rfl) dX7_sort_9 ⟨Nat.zero_le _, Nat.zero_le _⟩ (fun r_1 _u H locs h (hw : mw E A s.heap H locs ([] : va_W)) => ?_)
  refine lv_icmp_eq (tgt := 30) hx hb dX7_sort_12 (by decide) (fun c_32 => ?_) (fun c_32 => ?_)
  · replace h := h.1 c_32
    refine lv_iload_n hx hb dX7_sort_30 rfl (lv_at hl 0 rfl) ?_
    refine lv_bipush (v := 108) hx hb dX7_sort_31 (by decide) ?_
    refine lv_bipush (v := 101) hx hb dX7_sort_33 (by decide) ?_
    refine lv_bipush (v := 110) hx hb dX7_sort_35 (by decide) ?_
    refine lv_bipush (v := 100) hx hb dX7_sort_37 (by decide) ?_
    refine x_cS (As := [.int 108, .int 101, .int 110, .int 100]) (rest := [.int p0]) (F := ([] : va_W)) C0 hw (p_non _) hl.1 (c_X7_code l E  h) 4 gX7_sort_X7_code rfl ⟨rfl, rfl⟩ (by decide +kernel) ⟨Nat.le_of_ble_eq_true rfl, Nat.le_of_ble_eq_true rfl⟩ rfl rfl (Nat.le_of_ble_eq_true rfl) dX7_sort_39 ⟨Nat.zero_le _, Nat.zero_le _⟩ (fun r_2 _u H locs h (hw : mw E A s.heap H locs ([] : va_W)) => ?_)
    refine lv_icmp_ne (tgt := 49) hx hb dX7_sort_42 (by decide) (fun c_3 => ?_) (fun c_3 => ?_)
    · replace h := h.1 c_3
      refine lv_iconst (v := 2) hx hb dX7_sort_49 (by decide) ?_
      exact x_ret C0 () hw h dX7_sort_50
    · replace h := h.2 c_3
      refine lv_iconst (v := 1) hx hb dX7_sort_45 (by decide) ?_
      refine lv_goto (tgt := 50) hx hb dX7_sort_46 (by decide) ?_
      exact x_ret C0 () hw h dX7_sort_50
  · replace h := h.2 c_32
    refine lv_iload_n hx hb dX7_sort_15 rfl (lv_at hl 0 rfl) ?_
    refine lv_bipush (v := 98) hx hb dX7_sort_16 (by decide) ?_
    refine lv_bipush (v := 97) hx hb dX7_sort_18 (by decide) ?_
    refine lv_bipush (v := 99) hx hb dX7_sort_20 (by decide) ?_
    refine lv_bipush (v := 107) hx hb dX7_sort_22 (by decide) ?_
    refine x_cS (As := [.int 98, .int 97, .int 99, .int 107]) (rest := [.int p0]) (F := ([] : va_W)) C0 hw (p_non _) hl.1 (c_X7_code l E  h) 4 gX7_sort_X7_code rfl ⟨rfl, rfl⟩ (by decide +kernel) ⟨Nat.le_of_ble_eq_true rfl, Nat.le_of_ble_eq_true rfl⟩ rfl rfl (Nat.le_of_ble_eq_true rfl) dX7_sort_24 ⟨Nat.zero_le _, Nat.zero_le _⟩ (fun r_5 _u H locs h (hw : mw E A s.heap H locs ([] : va_W)) => ?_)
    refine lv_icmp_ne (tgt := 51) hx hb dX7_sort_27 (by decide) (fun c_30 => ?_) (fun c_30 => ?_)
    · replace h := h.1 c_30
      refine lv_iload_n hx hb dX7_sort_51 rfl (lv_at hl 0 rfl) ?_
      refine lv_bipush (v := 107) hx hb dX7_sort_52 (by decide) ?_
      refine lv_bipush (v := 101) hx hb dX7_sort_54 (by decide) ?_
      refine lv_bipush (v := 101) hx hb dX7_sort_56 (by decide) ?_
      refine lv_bipush (v := 112) hx hb dX7_sort_58 (by decide) ?_
      refine x_cS (As := [.int 107, .int 101, .int 101, .int 112]) (rest := [.int p0]) (F := ([] : va_W)) C0 hw (p_non _) hl.1 (c_X7_code l E  h) 4 gX7_sort_X7_code rfl ⟨rfl, rfl⟩ (by decide +kernel) ⟨Nat.le_of_ble_eq_true rfl, Nat.le_of_ble_eq_true rfl⟩ rfl rfl (Nat.le_of_ble_eq_true rfl) dX7_sort_60 ⟨Nat.zero_le _, Nat.zero_le _⟩ (fun r_6 _u H locs h (hw : mw E A s.heap H locs ([] : va_W)) => ?_)
      refine lv_icmp_eq (tgt := 81) hx hb dX7_sort_63 (by decide) (fun c_25 => ?_) (fun c_25 => ?_)
      · replace h := h.1 c_25
        refine lv_iload_n hx hb dX7_sort_81 rfl (lv_at hl 0 rfl) ?_
        refine lv_bipush (v := 107) hx hb dX7_sort_82 (by decide) ?_
        refine lv_bipush (v := 101) hx hb dX7_sort_84 (by decide) ?_
        refine lv_bipush (v := 101) hx hb dX7_sort_86 (by decide) ?_
        refine lv_bipush (v := 112) hx hb dX7_sort_88 (by decide) ?_
        refine x_cS (As := [.int 107, .int 101, .int 101, .int 112]) (rest := [.int p0]) (F := ([] : va_W)) C0 hw (p_non _) hl.1 (c_X7_code l E  h) 4 gX7_sort_X7_code rfl ⟨rfl, rfl⟩ (by decide +kernel) ⟨Nat.le_of_ble_eq_true rfl, Nat.le_of_ble_eq_true rfl⟩ rfl rfl (Nat.le_of_ble_eq_true rfl) dX7_sort_90 ⟨Nat.zero_le _, Nat.zero_le _⟩ (fun r_7 _u H locs h (hw : mw E A s.heap H locs ([] : va_W)) => ?_)
        refine lv_icmp_ne (tgt := 100) hx hb dX7_sort_93 (by decide) (fun c_8 => ?_) (fun c_8 => ?_)
        · replace h := h.1 c_8
          refine lv_iconst (v := 4) hx hb dX7_sort_100 (by decide) ?_
          exact x_ret C0 () hw h dX7_sort_101
        · replace h := h.2 c_8
          refine lv_iconst (v := 3) hx hb dX7_sort_96 (by decide) ?_
          refine lv_goto (tgt := 101) hx hb dX7_sort_97 (by decide) ?_
          exact x_ret C0 () hw h dX7_sort_101
      · replace h := h.2 c_25
        refine lv_iload_n hx hb dX7_sort_66 rfl (lv_at hl 0 rfl) ?_
        refine lv_bipush (v := 115) hx hb dX7_sort_67 (by decide) ?_
        refine lv_bipush (v := 101) hx hb dX7_sort_69 (by decide) ?_
        refine lv_bipush (v := 108) hx hb dX7_sort_71 (by decide) ?_
        refine lv_bipush (v := 108) hx hb dX7_sort_73 (by decide) ?_
        refine x_cS (As := [.int 115, .int 101, .int 108, .int 108]) (rest := [.int p0]) (F := ([] : va_W)) C0 hw (p_non _) hl.1 (c_X7_code l E  h) 4 gX7_sort_X7_code rfl ⟨rfl, rfl⟩ (by decide +kernel) ⟨Nat.le_of_ble_eq_true rfl, Nat.le_of_ble_eq_true rfl⟩ rfl rfl (Nat.le_of_ble_eq_true rfl) dX7_sort_75 ⟨Nat.zero_le _, Nat.zero_le _⟩ (fun r_10 _u H locs h (hw : mw E A s.heap H locs ([] : va_W)) => ?_)
        refine lv_icmp_ne (tgt := 102) hx hb dX7_sort_78 (by decide) (fun c_23 => ?_) (fun c_23 => ?_)
        · replace h := h.1 c_23
          refine lv_iload_n hx hb dX7_sort_102 rfl (lv_at hl 0 rfl) ?_
          refine lv_bipush (v := 32) hx hb dX7_sort_103 (by decide) ?_
          refine lv_bipush (v := 103) hx hb dX7_sort_105 (by decide) ?_
          refine lv_bipush (v := 114) hx hb dX7_sort_107 (by decide) ?_
          refine lv_bipush (v := 97) hx hb dX7_sort_109 (by decide) ?_
          refine lv_bipush (v := 100) hx hb dX7_sort_111 (by decide) ?_
          refine x_cS (As := [.int 103, .int 114, .int 97, .int 100]) (rest := [.int 32, .int p0]) (F := ([] : va_W)) C0 hw (p_non _) hl.1 (c_X7_code l E  h) 4 gX7_sort_X7_code rfl ⟨rfl, rfl⟩ (by decide +kernel) ⟨Nat.le_of_ble_eq_true rfl, Nat.le_of_ble_eq_true rfl⟩ rfl rfl (Nat.le_of_ble_eq_true rfl) dX7_sort_113 ⟨Nat.zero_le _, Nat.zero_le _⟩ (fun r_11 _u H locs h (hw : mw E A s.heap H locs ([] : va_W)) => ?_)
          refine lv_imul hx hb dX7_sort_116 ?_
          refine lv_iconst (v := 5) hx hb dX7_sort_117 (by decide) ?_
          refine lv_iadd hx hb dX7_sort_118 ?_
          refine lv_icmp_ne (tgt := 124) hx hb dX7_sort_119 (by decide) (fun c_18 => ?_) (fun c_18 => ?_)
          · replace h := h.1 c_18
            refine lv_iload_n hx hb dX7_sort_124 rfl (lv_at hl 0 rfl) ?_
            refine lv_bipush (v := 114) hx hb dX7_sort_125 (by decide) ?_
            refine lv_bipush (v := 97) hx hb dX7_sort_127 (by decide) ?_
            refine lv_bipush (v := 116) hx hb dX7_sort_129 (by decide) ?_
            refine lv_bipush (v := 101) hx hb dX7_sort_131 (by decide) ?_
            refine x_cS (As := [.int 114, .int 97, .int 116, .int 101]) (rest := [.int p0]) (F := ([] : va_W)) C0 hw (p_non _) hl.1 (c_X7_code l E  h) 4 gX7_sort_X7_code rfl ⟨rfl, rfl⟩ (by decide +kernel) ⟨Nat.le_of_ble_eq_true rfl, Nat.le_of_ble_eq_true rfl⟩ rfl rfl (Nat.le_of_ble_eq_true rfl) dX7_sort_133 ⟨Nat.zero_le _, Nat.zero_le _⟩ (fun r_12 _u H locs h (hw : mw E A s.heap H locs ([] : va_W)) => ?_)
            refine lv_icmp_ne (tgt := 144) hx hb dX7_sort_136 (by decide) (fun c_16 => ?_) (fun c_16 => ?_)
            · replace h := h.1 c_16
              refine lv_iload_n hx hb dX7_sort_144 rfl (lv_at hl 0 rfl) ?_
              refine lv_bipush (v := 119) hx hb dX7_sort_145 (by decide) ?_
              refine lv_bipush (v := 97) hx hb dX7_sort_147 (by decide) ?_
              refine lv_bipush (v := 105) hx hb dX7_sort_149 (by decide) ?_
              refine lv_bipush (v := 116) hx hb dX7_sort_151 (by decide) ?_
              refine x_cS (As := [.int 119, .int 97, .int 105, .int 116]) (rest := [.int p0]) (F := ([] : va_W)) C0 hw (p_non _) hl.1 (c_X7_code l E  h) 4 gX7_sort_X7_code rfl ⟨rfl, rfl⟩ (by decide +kernel) ⟨Nat.le_of_ble_eq_true rfl, Nat.le_of_ble_eq_true rfl⟩ rfl rfl (Nat.le_of_ble_eq_true rfl) dX7_sort_153 ⟨Nat.zero_le _, Nat.zero_le _⟩ (fun r_13 _u H locs h (hw : mw E A s.heap H locs ([] : va_W)) => ?_)
              refine lv_icmp_ne (tgt := 164) hx hb dX7_sort_156 (by decide) (fun c_14 => ?_) (fun c_14 => ?_)
              · replace h := h.1 c_14
                refine lv_iconst (v := 0) hx hb dX7_sort_164 (by decide) ?_
                exact x_ret C0 () hw h dX7_sort_165
              · replace h := h.2 c_14
                refine lv_bipush (v := 7) hx hb dX7_sort_159 (by decide) ?_
                refine lv_goto (tgt := 165) hx hb dX7_sort_161 (by decide) ?_
                exact x_ret C0 () hw h dX7_sort_165
            · replace h := h.2 c_16
              refine lv_bipush (v := 6) hx hb dX7_sort_139 (by decide) ?_
              refine lv_goto (tgt := 165) hx hb dX7_sort_141 (by decide) ?_
              exact x_ret C0 () hw h dX7_sort_165
          · replace h := h.2 c_18
            refine lv_iconst (v := 5) hx hb dX7_sort_122 (by decide) ?_
            exact x_ret C0 () hw h dX7_sort_123
        · replace h := h.2 c_23
          refine lv_iload_n hx hb dX7_sort_81 rfl (lv_at hl 0 rfl) ?_
          refine lv_bipush (v := 107) hx hb dX7_sort_82 (by decide) ?_
          refine lv_bipush (v := 101) hx hb dX7_sort_84 (by decide) ?_
          refine lv_bipush (v := 101) hx hb dX7_sort_86 (by decide) ?_
          refine lv_bipush (v := 112) hx hb dX7_sort_88 (by decide) ?_
          refine x_cS (As := [.int 107, .int 101, .int 101, .int 112]) (rest := [.int p0]) (F := ([] : va_W)) C0 hw (p_non _) hl.1 (c_X7_code l E  h) 4 gX7_sort_X7_code rfl ⟨rfl, rfl⟩ (by decide +kernel) ⟨Nat.le_of_ble_eq_true rfl, Nat.le_of_ble_eq_true rfl⟩ rfl rfl (Nat.le_of_ble_eq_true rfl) dX7_sort_90 ⟨Nat.zero_le _, Nat.zero_le _⟩ (fun r_20 _u H locs h (hw : mw E A s.heap H locs ([] : va_W)) => ?_)
          refine lv_icmp_ne (tgt := 100) hx hb dX7_sort_93 (by decide) (fun c_21 => ?_) (fun c_21 => ?_)
          · replace h := h.1 c_21
            refine lv_iconst (v := 4) hx hb dX7_sort_100 (by decide) ?_
            exact x_ret C0 () hw h dX7_sort_101
          · replace h := h.2 c_21
            refine lv_iconst (v := 3) hx hb dX7_sort_96 (by decide) ?_
            refine lv_goto (tgt := 101) hx hb dX7_sort_97 (by decide) ?_
            exact x_ret C0 () hw h dX7_sort_101
    · replace h := h.2 c_30
      refine lv_iload_n hx hb dX7_sort_30 rfl (lv_at hl 0 rfl) ?_
      refine lv_bipush (v := 108) hx hb dX7_sort_31 (by decide) ?_
      refine lv_bipush (v := 101) hx hb dX7_sort_33 (by decide) ?_
      refine lv_bipush (v := 110) hx hb dX7_sort_35 (by decide) ?_
      refine lv_bipush (v := 100) hx hb dX7_sort_37 (by decide) ?_
      refine x_cS (As := [.int 108, .int 101, .int 110, .int 100]) (rest := [.int p0]) (F := ([] : va_W)) C0 hw (p_non _) hl.1 (c_X7_code l E  h) 4 gX7_sort_X7_code rfl ⟨rfl, rfl⟩ (by decide +kernel) ⟨Nat.le_of_ble_eq_true rfl, Nat.le_of_ble_eq_true rfl⟩ rfl rfl (Nat.le_of_ble_eq_true rfl) dX7_sort_39 ⟨Nat.zero_le _, Nat.zero_le _⟩ (fun r_27 _u H locs h (hw : mw E A s.heap H locs ([] : va_W)) => ?_)
      refine lv_icmp_ne (tgt := 49) hx hb dX7_sort_42 (by decide) (fun c_28 => ?_) (fun c_28 => ?_)
      · replace h := h.1 c_28
        refine lv_iconst (v := 2) hx hb dX7_sort_49 (by decide) ?_
        exact x_ret C0 () hw h dX7_sort_50
      · replace h := h.2 c_28
        refine lv_iconst (v := 1) hx hb dX7_sort_45 (by decide) ?_
        refine lv_goto (tgt := 50) hx hb dX7_sort_46 (by decide) ?_
        exact x_ret C0 () hw h dX7_sort_50

abbrev rmX7_wants : Room := { frames := 0, cells := 0, slots := 0, locals := 0 }
set_option maxRecDepth 100000 in
set_option maxHeartbeats 4000000 in
theorem c_X7_wants (l : Launch) (E : EE)    {p0 : Int32} {post : Int32 → Prop} (h : s_X7_wants p0 post) : KI l E yX7_wants wsX7_wants rmX7_wants [.int p0] ([] : va_W) (S := Unit) (fun r (_ : Unit) => post r) (fun (_ : Unit) => ([] : va_W)) := by
  unfold s_X7_wants at h
  refine KI.go (cc := cX7_wants) (ret := (some .int)) (maxL := 1) (own := RX7) (by decide) rfl (Nat.le_of_ble_eq_true rfl) rfl (fun p e s m below meth c A ls C0 hw hl => ?_)
  have hx := C0.1
  have hb := C0.2.1
  replace hl : lv_has ls 1 [(0, .int p0)] := hl
  refine lv_iload_n hx hb dX7_wants_0 rfl (lv_at hl 0 rfl) ?_
  refine lv_iconst (v := 1) hx hb dX7_wants_1 (by decide) ?_
  refine lv_icmp_eq (tgt := 11) hx hb dX7_wants_2 (by decide) (fun c_4 => ?_) (fun c_4 => ?_)
  · replace h := h.1 c_4
    refine lv_iconst (v := 4) hx hb dX7_wants_11 (by decide) ?_
    refine lv_goto (tgt := 34) hx hb dX7_wants_12 (by decide) ?_
    exact x_ret C0 () hw h dX7_wants_34
  · replace h := h.2 c_4
    refine lv_iload_n hx hb dX7_wants_5 rfl (lv_at hl 0 rfl) ?_
    refine lv_bipush (v := 6) hx hb dX7_wants_6 (by decide) ?_
    refine lv_icmp_ne (tgt := 15) hx hb dX7_wants_8 (by decide) (fun c_3 => ?_) (fun c_3 => ?_)
    · replace h := h.1 c_3
      refine lv_iload_n hx hb dX7_wants_15 rfl (lv_at hl 0 rfl) ?_
      refine lv_iconst (v := 5) hx hb dX7_wants_16 (by decide) ?_
      refine lv_icmp_ne (tgt := 24) hx hb dX7_wants_17 (by decide) (fun c_2 => ?_) (fun c_2 => ?_)
      · replace h := h.1 c_2
        refine lv_iload_n hx hb dX7_wants_24 rfl (lv_at hl 0 rfl) ?_
        refine lv_iconst (v := 4) hx hb dX7_wants_25 (by decide) ?_
        refine lv_icmp_ne (tgt := 33) hx hb dX7_wants_26 (by decide) (fun c_1 => ?_) (fun c_1 => ?_)
        · replace h := h.1 c_1
          refine lv_iconst (v := 1) hx hb dX7_wants_33 (by decide) ?_
          exact x_ret C0 () hw h dX7_wants_34
        · replace h := h.2 c_1
          refine lv_iconst (v := 2) hx hb dX7_wants_29 (by decide) ?_
          refine lv_goto (tgt := 34) hx hb dX7_wants_30 (by decide) ?_
          exact x_ret C0 () hw h dX7_wants_34
      · replace h := h.2 c_2
        refine lv_iconst (v := 3) hx hb dX7_wants_20 (by decide) ?_
        refine lv_goto (tgt := 34) hx hb dX7_wants_21 (by decide) ?_
        exact x_ret C0 () hw h dX7_wants_34
    · replace h := h.2 c_3
      refine lv_iconst (v := 4) hx hb dX7_wants_11 (by decide) ?_
      refine lv_goto (tgt := 34) hx hb dX7_wants_12 (by decide) ?_
      exact x_ret C0 () hw h dX7_wants_34
