abbrev rmX7_stone : Room := { frames := 2, cells := 0, slots := 0, locals := 43 }
set_option maxRecDepth 100000 in
set_option maxHeartbeats 4000000 in
theorem c_X7_stone (l : Launch) (E : EE) (aR : Nat → Nat) {v : V}  {p1 : Int32} {p2 : Int32} {p3 : Int32} {p4 : Int32} {post : Int32 → V → Prop} (h : s_X7_stone v p1 p2 p3 p4 post) : KI l E yX7_stone wsX7_stone rmX7_stone [.ref (aR 0), .int p1, .int p2, .int p3, .int p4] (cR E aR v) post (fun u => cR E aR u) := by
  unfold s_X7_stone at h
  refine KI.go (cc := cX7_stone) (ret := (some .int)) (maxL := 6) (own := RX7) (by decide) rfl (Nat.le_of_ble_eq_true rfl) rfl (fun p e s m below meth c A ls C0 hw hl => ?_)
  have hx := C0.1
  have hb := C0.2.1
  have hiX7 : ∀ w ∈ wsX70, w ∈ wsX7_stone := fun w h => List.mem_cons_of_mem _ (List.mem_append_right _ h)
  replace hl : lv_has ls 6 [(0, .ref (aR 0)), (1, .int p1), (2, .int p2), (3, .int p3), (4, .int p4)] := hl
  refine lv_aload_n hx hb dX7_stone_0 rfl (lv_at hl 0 rfl) ?_
  refine x_cVv (As := []) (rest := []) (F := []) C0 hw (p_nil _) hl.1 0 7 rfl rfl (c_X7_begins l E aR h) 0 gX7_stone_X7_begins rfl ⟨rfl, rfl⟩ (by decide +kernel) ⟨Nat.le_of_ble_eq_true rfl, Nat.le_of_ble_eq_true rfl⟩ rfl rfl (Nat.le_of_ble_eq_true rfl) dX7_stone_1 ⟨Nat.zero_le _, Nat.zero_le _⟩ (fun v_1 H locs h (hw : mw E A s.heap H locs (cR E aR v_1)) => ?_)
  refine lv_aload_n hx hb dX7_stone_4 rfl (lv_at hl 0 rfl) ?_
  refine lv_iload_n hx hb dX7_stone_5 rfl (lv_at hl 1 rfl) ?_
  refine x_cV (As := [.int p1]) (rest := []) (F := []) C0 hw (p_nil _) hl.1 0 7 rfl rfl (c_X7_isDealer l E aR h) 1 gX7_stone_X7_isDealer rfl ⟨rfl, rfl⟩ (by decide +kernel) ⟨Nat.le_of_ble_eq_true rfl, Nat.le_of_ble_eq_true rfl⟩ rfl rfl (Nat.le_of_ble_eq_true rfl) dX7_stone_6 ⟨Nat.zero_le _, Nat.zero_le _⟩ (fun r_2 v_3 H locs h (hw : mw E A s.heap H locs (cR E aR v_3)) => ?_)
  refine lv_if_eq (tgt := 32) hx hb dX7_stone_9 (by decide) (fun c_20 => ?_) (fun c_20 => ?_)
  · replace h := h.1 c_20
    refine x_ldc (v := (-10000001)) C0 1 rfl dX7_stone_32 ?_
    exact x_ret C0 v_3 hw h dX7_stone_34
  · replace h := h.2 c_20
    refine lv_iload_n hx hb dX7_stone_12 rfl (lv_at hl 2 rfl) ?_
    refine lv_iconst (v := 1) hx hb dX7_stone_13 (by decide) ?_
    refine lv_sipush (v := 999) hx hb dX7_stone_14 (by decide) ?_
    refine x_cS (As := [.int p2, .int 1, .int 999]) (rest := []) (F := (cR E aR v_3)) C0 hw (p_non _) hl.1 (c_X7_in l E  h) 3 gX7_stone_X7_in rfl ⟨rfl, rfl⟩ (by decide +kernel) ⟨Nat.le_of_ble_eq_true rfl, Nat.le_of_ble_eq_true rfl⟩ rfl rfl (Nat.le_of_ble_eq_true rfl) dX7_stone_17 ⟨Nat.zero_le _, Nat.zero_le _⟩ (fun r_4 _u H locs h (hw : mw E A s.heap H locs (cR E aR v_3)) => ?_)
    refine lv_if_eq (tgt := 32) hx hb dX7_stone_20 (by decide) (fun c_18 => ?_) (fun c_18 => ?_)
    · replace h := h.1 c_18
      refine x_ldc (v := (-10000001)) C0 1 rfl dX7_stone_32 ?_
      exact x_ret C0 v_3 hw h dX7_stone_34
    · replace h := h.2 c_18
      refine lv_iload_n hx hb dX7_stone_23 rfl (lv_at hl 3 rfl) ?_
      refine lv_iload hx hb dX7_stone_24 (lv_at hl 4 rfl) ?_
      refine x_cS (As := [.int p3, .int p4]) (rest := []) (F := (cR E aR v_3)) C0 hw (p_non _) hl.1 (c_X7_isGrade l E  h) 2 gX7_stone_X7_isGrade rfl ⟨rfl, rfl⟩ (by decide +kernel) ⟨Nat.le_of_ble_eq_true rfl, Nat.le_of_ble_eq_true rfl⟩ rfl rfl (Nat.le_of_ble_eq_true rfl) dX7_stone_26 ⟨Nat.zero_le _, Nat.zero_le _⟩ (fun r_5 _u H locs h (hw : mw E A s.heap H locs (cR E aR v_3)) => ?_)
      refine lv_if_ne (tgt := 35) hx hb dX7_stone_29 (by decide) (fun c_16 => ?_) (fun c_16 => ?_)
      · replace h := h.1 c_16
        refine lv_aload_n hx hb dX7_stone_35 rfl (lv_at hl 0 rfl) ?_
        refine x_get C0 hw 7 hiX7 rfl 0 rfl 0 (by decide) 2 rfl rfl dX7_stone_36 ?_
        refine lv_iconst (v := 1) hx hb dX7_stone_39 (by decide) ?_
        refine x_ald C0 hw 1 rfl (vp_in_nI (n := 1) (by decide) (by decide)) dX7_stone_40 ?_
        refine lv_bipush (v := 20) hx hb dX7_stone_41 (by decide) ?_
        refine lv_icmp_ne (tgt := 49) hx hb dX7_stone_43 (by decide) (fun c_15 => ?_) (fun c_15 => ?_)
        · replace h := h.1 c_15
          refine lv_aload_n hx hb dX7_stone_49 rfl (lv_at hl 0 rfl) ?_
          refine x_get C0 hw 7 hiX7 rfl 0 rfl 0 (by decide) 2 rfl rfl dX7_stone_50 ?_
          refine lv_iconst (v := 1) hx hb dX7_stone_53 (by decide) ?_
          refine x_ald C0 hw 1 rfl (vp_in_nI (n := 1) (by decide) (by decide)) dX7_stone_54 ?_
          refine lv_istore (lv' := [(5, .int (v_3 1 (tn 1))), (0, .ref (aR 0)), (1, .int p1), (2, .int p2), (3, .int p3), (4, .int p4)]) hx hb dX7_stone_55 hl (by decide) rfl (fun ls hl => ?_)
          refine lv_aload_n hx hb dX7_stone_57 rfl (lv_at hl 1 rfl) ?_
          refine x_get C0 hw 7 hiX7 rfl 0 rfl 0 (by decide) 2 rfl rfl dX7_stone_58 ?_
          refine lv_iconst (v := 1) hx hb dX7_stone_61 (by decide) ?_
          refine lv_dup2_11 hx hb dX7_stone_62 rfl rfl ?_
          refine x_ald C0 hw 1 rfl (vp_in_nI (n := 1) (by decide) (by decide)) dX7_stone_63 ?_
          refine lv_iconst (v := 1) hx hb dX7_stone_64 (by decide) ?_
          refine lv_iadd hx hb dX7_stone_65 ?_
          refine x_ast (ws' := (cR E aR ((st v_3 1 (tn 1) ((v_3 1 (tn 1)) + 1))))) C0 hw 1 rfl (vp_in_nI (n := 1) (by decide) (by decide)) rfl dX7_stone_66 (fun H locs hw => ?_)
          obtain ⟨v_6, e_v_6⟩ : ∃ z, z = st v_3 1 (tn 1) ((v_3 1 (tn 1)) + 1) := ⟨_, rfl⟩
          rw [← e_v_6] at hw
          replace h := h v_6 e_v_6
          refine lv_aload_n hx hb dX7_stone_67 rfl (lv_at hl 1 rfl) ?_
          refine lv_iload hx hb dX7_stone_68 (lv_at hl 0 rfl) ?_
          refine lv_iconst (v := 0) hx hb dX7_stone_70 (by decide) ?_
          refine lv_iload_n hx hb dX7_stone_71 rfl (lv_at hl 3 rfl) ?_
          refine x_cVv (As := [.int (v_3 1 (tn 1)), .int 0, .int p2]) (rest := []) (F := []) C0 hw (p_nil _) hl.1 0 7 rfl rfl (c_X7_setStone l E aR h) 3 gX7_stone_X7_setStone rfl ⟨rfl, rfl⟩ (by decide +kernel) ⟨Nat.le_of_ble_eq_true rfl, Nat.le_of_ble_eq_true rfl⟩ rfl rfl (Nat.le_of_ble_eq_true rfl) dX7_stone_72 ⟨Nat.zero_le _, Nat.zero_le _⟩ (fun v_7 H locs h (hw : mw E A s.heap H locs (cR E aR v_7)) => ?_)
          refine lv_aload_n hx hb dX7_stone_75 rfl (lv_at hl 1 rfl) ?_
          refine lv_iload hx hb dX7_stone_76 (lv_at hl 0 rfl) ?_
          refine lv_iconst (v := 1) hx hb dX7_stone_78 (by decide) ?_
          refine lv_iload_n hx hb dX7_stone_79 rfl (lv_at hl 4 rfl) ?_
          refine x_cVv (As := [.int (v_3 1 (tn 1)), .int 1, .int p3]) (rest := []) (F := []) C0 hw (p_nil _) hl.1 0 7 rfl rfl (c_X7_setStone l E aR h) 3 gX7_stone_X7_setStone rfl ⟨rfl, rfl⟩ (by decide +kernel) ⟨Nat.le_of_ble_eq_true rfl, Nat.le_of_ble_eq_true rfl⟩ rfl rfl (Nat.le_of_ble_eq_true rfl) dX7_stone_80 ⟨Nat.zero_le _, Nat.zero_le _⟩ (fun v_8 H locs h (hw : mw E A s.heap H locs (cR E aR v_8)) => ?_)
          refine lv_aload_n hx hb dX7_stone_83 rfl (lv_at hl 1 rfl) ?_
          refine lv_iload hx hb dX7_stone_84 (lv_at hl 0 rfl) ?_
          refine lv_iconst (v := 2) hx hb dX7_stone_86 (by decide) ?_
          refine lv_iload hx hb dX7_stone_87 (lv_at hl 5 rfl) ?_
          refine x_cVv (As := [.int (v_3 1 (tn 1)), .int 2, .int p4]) (rest := []) (F := []) C0 hw (p_nil _) hl.1 0 7 rfl rfl (c_X7_setStone l E aR h) 3 gX7_stone_X7_setStone rfl ⟨rfl, rfl⟩ (by decide +kernel) ⟨Nat.le_of_ble_eq_true rfl, Nat.le_of_ble_eq_true rfl⟩ rfl rfl (Nat.le_of_ble_eq_true rfl) dX7_stone_89 ⟨Nat.zero_le _, Nat.zero_le _⟩ (fun v_9 H locs h (hw : mw E A s.heap H locs (cR E aR v_9)) => ?_)
          refine lv_aload_n hx hb dX7_stone_92 rfl (lv_at hl 1 rfl) ?_
          refine lv_iload hx hb dX7_stone_93 (lv_at hl 0 rfl) ?_
          refine lv_iconst (v := 3) hx hb dX7_stone_95 (by decide) ?_
          refine lv_iload_n hx hb dX7_stone_96 rfl (lv_at hl 2 rfl) ?_
          refine x_cVv (As := [.int (v_3 1 (tn 1)), .int 3, .int p1]) (rest := []) (F := []) C0 hw (p_nil _) hl.1 0 7 rfl rfl (c_X7_setStone l E aR h) 3 gX7_stone_X7_setStone rfl ⟨rfl, rfl⟩ (by decide +kernel) ⟨Nat.le_of_ble_eq_true rfl, Nat.le_of_ble_eq_true rfl⟩ rfl rfl (Nat.le_of_ble_eq_true rfl) dX7_stone_97 ⟨Nat.zero_le _, Nat.zero_le _⟩ (fun v_10 H locs h (hw : mw E A s.heap H locs (cR E aR v_10)) => ?_)
          refine lv_aload_n hx hb dX7_stone_100 rfl (lv_at hl 1 rfl) ?_
          refine lv_iload hx hb dX7_stone_101 (lv_at hl 0 rfl) ?_
          refine lv_iconst (v := 4) hx hb dX7_stone_103 (by decide) ?_
          refine lv_iload_n hx hb dX7_stone_104 rfl (lv_at hl 2 rfl) ?_
          refine x_cVv (As := [.int (v_3 1 (tn 1)), .int 4, .int p1]) (rest := []) (F := []) C0 hw (p_nil _) hl.1 0 7 rfl rfl (c_X7_setStone l E aR h) 3 gX7_stone_X7_setStone rfl ⟨rfl, rfl⟩ (by decide +kernel) ⟨Nat.le_of_ble_eq_true rfl, Nat.le_of_ble_eq_true rfl⟩ rfl rfl (Nat.le_of_ble_eq_true rfl) dX7_stone_105 ⟨Nat.zero_le _, Nat.zero_le _⟩ (fun v_11 H locs h (hw : mw E A s.heap H locs (cR E aR v_11)) => ?_)
          refine lv_aload_n hx hb dX7_stone_108 rfl (lv_at hl 1 rfl) ?_
          refine lv_iload hx hb dX7_stone_109 (lv_at hl 0 rfl) ?_
          refine lv_iconst (v := 5) hx hb dX7_stone_111 (by decide) ?_
          refine lv_iconst (v := (-1)) hx hb dX7_stone_112 (by decide) ?_
          refine x_cVv (As := [.int (v_3 1 (tn 1)), .int 5, .int (-1)]) (rest := []) (F := []) C0 hw (p_nil _) hl.1 0 7 rfl rfl (c_X7_setStone l E aR h) 3 gX7_stone_X7_setStone rfl ⟨rfl, rfl⟩ (by decide +kernel) ⟨Nat.le_of_ble_eq_true rfl, Nat.le_of_ble_eq_true rfl⟩ rfl rfl (Nat.le_of_ble_eq_true rfl) dX7_stone_113 ⟨Nat.zero_le _, Nat.zero_le _⟩ (fun v_12 H locs h (hw : mw E A s.heap H locs (cR E aR v_12)) => ?_)
          refine lv_aload_n hx hb dX7_stone_116 rfl (lv_at hl 1 rfl) ?_
          refine lv_iload hx hb dX7_stone_117 (lv_at hl 0 rfl) ?_
          refine x_cV (As := [.int (v_3 1 (tn 1))]) (rest := []) (F := []) C0 hw (p_nil _) hl.1 0 7 rfl rfl (c_X7_acted l E aR h) 1 gX7_stone_X7_acted rfl ⟨rfl, rfl⟩ (by decide +kernel) ⟨Nat.le_of_ble_eq_true rfl, Nat.le_of_ble_eq_true rfl⟩ rfl rfl (Nat.le_of_ble_eq_true rfl) dX7_stone_119 ⟨Nat.zero_le _, Nat.zero_le _⟩ (fun r_13 v_14 H locs h (hw : mw E A s.heap H locs (cR E aR v_14)) => ?_)
          exact x_ret C0 v_14 hw h dX7_stone_122
        · replace h := h.2 c_15
          refine x_ldc (v := (-10000003)) C0 3 rfl dX7_stone_46 ?_
          exact x_ret C0 v_3 hw h dX7_stone_48
      · replace h := h.2 c_16
        refine x_ldc (v := (-10000001)) C0 1 rfl dX7_stone_32 ?_
        exact x_ret C0 v_3 hw h dX7_stone_34

abbrev rmX7_rate : Room := { frames := 3, cells := 0, slots := 0, locals := 69 }
set_option maxRecDepth 100000 in
set_option maxHeartbeats 4000000 in
theorem c_X7_rate (l : Launch) (E : EE) (aR : Nat → Nat) {v : V}  {p1 : Int32} {p2 : Int32} {p3 : Int32} {p4 : Int32} {post : Int32 → V → Prop} (h : s_X7_rate v p1 p2 p3 p4 post) : KI l E yX7_rate wsX7_rate rmX7_rate [.ref (aR 0), .int p1, .int p2, .int p3, .int p4] (cR E aR v) post (fun u => cR E aR u) := by
  unfold s_X7_rate at h
  refine KI.go (cc := cX7_rate) (ret := (some .int)) (maxL := 5) (own := RX7) (by decide) rfl (Nat.le_of_ble_eq_true rfl) rfl (fun p e s m below meth c A ls C0 hw hl => ?_)
  have hx := C0.1
  have hb := C0.2.1
  replace hl : lv_has ls 5 [(0, .ref (aR 0)), (1, .int p1), (2, .int p2), (3, .int p3), (4, .int p4)] := hl
  refine lv_aload_n hx hb dX7_rate_0 rfl (lv_at hl 0 rfl) ?_
  refine x_cVv (As := []) (rest := []) (F := []) C0 hw (p_nil _) hl.1 0 7 rfl rfl (c_X7_begins l E aR h) 0 gX7_rate_X7_begins rfl ⟨rfl, rfl⟩ (by decide +kernel) ⟨Nat.le_of_ble_eq_true rfl, Nat.le_of_ble_eq_true rfl⟩ rfl rfl (Nat.le_of_ble_eq_true rfl) dX7_rate_1 ⟨Nat.zero_le _, Nat.zero_le _⟩ (fun v_1 H locs h (hw : mw E A s.heap H locs (cR E aR v_1)) => ?_)
  refine lv_aload_n hx hb dX7_rate_4 rfl (lv_at hl 0 rfl) ?_
  refine lv_aload_n hx hb dX7_rate_5 rfl (lv_at hl 0 rfl) ?_
  refine lv_iload_n hx hb dX7_rate_6 rfl (lv_at hl 1 rfl) ?_
  refine lv_iload_n hx hb dX7_rate_7 rfl (lv_at hl 2 rfl) ?_
  refine lv_iload_n hx hb dX7_rate_8 rfl (lv_at hl 3 rfl) ?_
  refine lv_iload hx hb dX7_rate_9 (lv_at hl 4 rfl) ?_
  refine x_cV (As := [.int p1, .int p2, .int p3, .int p4]) (rest := [.ref (aR 0)]) (F := []) C0 hw (p_nil _) hl.1 0 7 rfl rfl (c_X7_rates l E aR h) 4 gX7_rate_X7_rates rfl ⟨rfl, rfl⟩ (by decide +kernel) ⟨Nat.le_of_ble_eq_true rfl, Nat.le_of_ble_eq_true rfl⟩ rfl rfl (Nat.le_of_ble_eq_true rfl) dX7_rate_11 ⟨Nat.zero_le _, Nat.zero_le _⟩ (fun r_2 v_3 H locs h (hw : mw E A s.heap H locs (cR E aR v_3)) => ?_)
  refine x_cV (As := [.int r_2]) (rest := []) (F := []) C0 hw (p_nil _) hl.1 0 7 rfl rfl (c_X7_acted l E aR h) 1 gX7_rate_X7_acted rfl ⟨rfl, rfl⟩ (by decide +kernel) ⟨Nat.le_of_ble_eq_true rfl, Nat.le_of_ble_eq_true rfl⟩ rfl rfl (Nat.le_of_ble_eq_true rfl) dX7_rate_14 ⟨Nat.zero_le _, Nat.zero_le _⟩ (fun r_4 v_5 H locs h (hw : mw E A s.heap H locs (cR E aR v_5)) => ?_)
  exact x_ret C0 v_5 hw h dX7_rate_17

abbrev rmX7_unrate : Room := { frames := 2, cells := 0, slots := 0, locals := 43 }
set_option maxRecDepth 100000 in
set_option maxHeartbeats 4000000 in
theorem c_X7_unrate (l : Launch) (E : EE) (aR : Nat → Nat) {v : V}  {p1 : Int32} {p2 : Int32} {p3 : Int32} {post : Int32 → V → Prop} (h : s_X7_unrate v p1 p2 p3 post) : KI l E yX7_unrate wsX7_unrate rmX7_unrate [.ref (aR 0), .int p1, .int p2, .int p3] (cR E aR v) post (fun u => cR E aR u) := by
  unfold s_X7_unrate at h
  refine KI.go (cc := cX7_unrate) (ret := (some .int)) (maxL := 6) (own := RX7) (by decide) rfl (Nat.le_of_ble_eq_true rfl) rfl (fun p e s m below meth c A ls C0 hw hl => ?_)
  have hx := C0.1
  have hb := C0.2.1
  have hiX7 : ∀ w ∈ wsX70, w ∈ wsX7_unrate := fun w h => List.mem_cons_of_mem _ (List.mem_append_right _ h)
  replace hl : lv_has ls 6 [(0, .ref (aR 0)), (1, .int p1), (2, .int p2), (3, .int p3)] := hl
  refine lv_aload_n hx hb dX7_unrate_0 rfl (lv_at hl 0 rfl) ?_
  refine x_cVv (As := []) (rest := []) (F := []) C0 hw (p_nil _) hl.1 0 7 rfl rfl (c_X7_begins l E aR h) 0 gX7_unrate_X7_begins rfl ⟨rfl, rfl⟩ (by decide +kernel) ⟨Nat.le_of_ble_eq_true rfl, Nat.le_of_ble_eq_true rfl⟩ rfl rfl (Nat.le_of_ble_eq_true rfl) dX7_unrate_1 ⟨Nat.zero_le _, Nat.zero_le _⟩ (fun v_1 H locs h (hw : mw E A s.heap H locs (cR E aR v_1)) => ?_)
  refine lv_iload_n hx hb dX7_unrate_4 rfl (lv_at hl 1 rfl) ?_
  refine lv_iconst (v := 0) hx hb dX7_unrate_5 (by decide) ?_
  refine lv_iconst (v := 4) hx hb dX7_unrate_6 (by decide) ?_
  refine x_cS (As := [.int p1, .int 0, .int 4]) (rest := []) (F := (cR E aR v_1)) C0 hw (p_non _) hl.1 (c_X7_in l E  h) 3 gX7_unrate_X7_in rfl ⟨rfl, rfl⟩ (by decide +kernel) ⟨Nat.le_of_ble_eq_true rfl, Nat.le_of_ble_eq_true rfl⟩ rfl rfl (Nat.le_of_ble_eq_true rfl) dX7_unrate_7 ⟨Nat.zero_le _, Nat.zero_le _⟩ (fun r_2 _u H locs h (hw : mw E A s.heap H locs (cR E aR v_1)) => ?_)
  refine lv_if_eq (tgt := 21) hx hb dX7_unrate_10 (by decide) (fun c_13 => ?_) (fun c_13 => ?_)
  · replace h := h.1 c_13
    refine x_ldc (v := (-10000001)) C0 1 rfl dX7_unrate_21 ?_
    exact x_ret C0 v_1 hw h dX7_unrate_23
  · replace h := h.2 c_13
    refine lv_iload_n hx hb dX7_unrate_13 rfl (lv_at hl 2 rfl) ?_
    refine lv_iload_n hx hb dX7_unrate_14 rfl (lv_at hl 3 rfl) ?_
    refine x_cS (As := [.int p2, .int p3]) (rest := []) (F := (cR E aR v_1)) C0 hw (p_non _) hl.1 (c_X7_isGrade l E  h) 2 gX7_unrate_X7_isGrade rfl ⟨rfl, rfl⟩ (by decide +kernel) ⟨Nat.le_of_ble_eq_true rfl, Nat.le_of_ble_eq_true rfl⟩ rfl rfl (Nat.le_of_ble_eq_true rfl) dX7_unrate_15 ⟨Nat.zero_le _, Nat.zero_le _⟩ (fun r_3 _u H locs h (hw : mw E A s.heap H locs (cR E aR v_1)) => ?_)
    refine lv_if_ne (tgt := 24) hx hb dX7_unrate_18 (by decide) (fun c_11 => ?_) (fun c_11 => ?_)
    · replace h := h.1 c_11
      refine lv_iload_n hx hb dX7_unrate_24 rfl (lv_at hl 1 rfl) ?_
      refine lv_iload_n hx hb dX7_unrate_25 rfl (lv_at hl 2 rfl) ?_
      refine lv_iload_n hx hb dX7_unrate_26 rfl (lv_at hl 3 rfl) ?_
      refine x_cS (As := [.int p1, .int p2, .int p3]) (rest := []) (F := (cR E aR v_1)) C0 hw (p_non _) hl.1 (c_X7_rateAt l E  h) 3 gX7_unrate_X7_rateAt rfl ⟨rfl, rfl⟩ (by decide +kernel) ⟨Nat.le_of_ble_eq_true rfl, Nat.le_of_ble_eq_true rfl⟩ rfl rfl (Nat.le_of_ble_eq_true rfl) dX7_unrate_27 ⟨Nat.zero_le _, Nat.zero_le _⟩ (fun r_4 _u H locs h (hw : mw E A s.heap H locs (cR E aR v_1)) => ?_)
      refine lv_istore (lv' := [(4, .int r_4), (0, .ref (aR 0)), (1, .int p1), (2, .int p2), (3, .int p3)]) hx hb dX7_unrate_30 hl (by decide) rfl (fun ls hl => ?_)
      refine lv_aload_n hx hb dX7_unrate_32 rfl (lv_at hl 1 rfl) ?_
      refine x_get C0 hw 7 hiX7 rfl 0 rfl 0 (by decide) 2 rfl rfl dX7_unrate_33 ?_
      refine lv_iload hx hb dX7_unrate_36 (lv_at hl 0 rfl) ?_
      obtain ⟨hin, h⟩ := h
      refine x_ald C0 hw 1 rfl hin dX7_unrate_38 ?_
      refine lv_istore (lv' := [(5, .int (v_1 1 (tn r_4))), (4, .int r_4), (0, .ref (aR 0)), (1, .int p1), (2, .int p2), (3, .int p3)]) hx hb dX7_unrate_39 hl (by decide) rfl (fun ls hl => ?_)
      refine lv_iload hx hb dX7_unrate_41 (lv_at hl 0 rfl) ?_
      refine lv_if_ne (tgt := 49) hx hb dX7_unrate_43 (by decide) (fun c_9 => ?_) (fun c_9 => ?_)
      · replace h := h.1 c_9
        refine lv_aload_n hx hb dX7_unrate_49 rfl (lv_at hl 2 rfl) ?_
        refine x_get C0 hw 7 hiX7 rfl 0 rfl 0 (by decide) 2 rfl rfl dX7_unrate_50 ?_
        refine lv_iload hx hb dX7_unrate_53 (lv_at hl 1 rfl) ?_
        refine lv_iconst (v := 0) hx hb dX7_unrate_55 (by decide) ?_
        obtain ⟨hin, h⟩ := h
        refine x_ast (ws' := (cR E aR ((st v_1 1 (tn r_4) 0)))) C0 hw 1 rfl hin rfl dX7_unrate_56 (fun H locs hw => ?_)
        obtain ⟨v_5, e_v_5⟩ : ∃ z, z = st v_1 1 (tn r_4) 0 := ⟨_, rfl⟩
        rw [← e_v_5] at hw
        replace h := h v_5 e_v_5
        refine lv_aload_n hx hb dX7_unrate_57 rfl (lv_at hl 2 rfl) ?_
        refine x_get C0 hw 7 hiX7 rfl 0 rfl 0 (by decide) 2 rfl rfl dX7_unrate_58 ?_
        refine lv_iconst (v := 5) hx hb dX7_unrate_61 (by decide) ?_
        refine lv_dup2_11 hx hb dX7_unrate_62 rfl rfl ?_
        refine x_ald C0 hw 1 rfl (vp_in_nI (n := 5) (by decide) (by decide)) dX7_unrate_63 ?_
        refine lv_iconst (v := 1) hx hb dX7_unrate_64 (by decide) ?_
        refine lv_isub hx hb dX7_unrate_65 ?_
        refine x_ast (ws' := (cR E aR ((st v_5 1 (tn 5) ((v_5 1 (tn 5)) - 1))))) C0 hw 1 rfl (vp_in_nI (n := 5) (by decide) (by decide)) rfl dX7_unrate_66 (fun H locs hw => ?_)
        obtain ⟨v_6, e_v_6⟩ : ∃ z, z = st v_5 1 (tn 5) ((v_5 1 (tn 5)) - 1) := ⟨_, rfl⟩
        rw [← e_v_6] at hw
        replace h := h v_6 e_v_6
        refine lv_aload_n hx hb dX7_unrate_67 rfl (lv_at hl 2 rfl) ?_
        refine lv_iload hx hb dX7_unrate_68 (lv_at hl 0 rfl) ?_
        refine x_cV (As := [.int (v_1 1 (tn r_4))]) (rest := []) (F := []) C0 hw (p_nil _) hl.1 0 7 rfl rfl (c_X7_acted l E aR h) 1 gX7_unrate_X7_acted rfl ⟨rfl, rfl⟩ (by decide +kernel) ⟨Nat.le_of_ble_eq_true rfl, Nat.le_of_ble_eq_true rfl⟩ rfl rfl (Nat.le_of_ble_eq_true rfl) dX7_unrate_70 ⟨Nat.zero_le _, Nat.zero_le _⟩ (fun r_7 v_8 H locs h (hw : mw E A s.heap H locs (cR E aR v_8)) => ?_)
        exact x_ret C0 v_8 hw h dX7_unrate_73
      · replace h := h.2 c_9
        refine x_ldc (v := (-10000002)) C0 3 rfl dX7_unrate_46 ?_
        exact x_ret C0 v_1 hw h dX7_unrate_48
    · replace h := h.2 c_11
      refine x_ldc (v := (-10000001)) C0 1 rfl dX7_unrate_21 ?_
      exact x_ret C0 v_1 hw h dX7_unrate_23

abbrev rmX7_lend : Room := { frames := 5, cells := 0, slots := 0, locals := 125 }
set_option maxRecDepth 100000 in
set_option maxHeartbeats 4000000 in
theorem c_X7_lend (l : Launch) (E : EE) (aR : Nat → Nat) {v : V}  {p1 : Int32} {p2 : Int32} {p3 : Int32} {p4 : Int32} {post : Int32 → V → Prop} (h : s_X7_lend v p1 p2 p3 p4 post) : KI l E yX7_lend wsX7_lend rmX7_lend [.ref (aR 0), .int p1, .int p2, .int p3, .int p4] (cR E aR v) post (fun u => cR E aR u) := by
  unfold s_X7_lend at h
  refine KI.go (cc := cX7_lend) (ret := (some .int)) (maxL := 5) (own := RX7) (by decide) rfl (Nat.le_of_ble_eq_true rfl) rfl (fun p e s m below meth c A ls C0 hw hl => ?_)
  have hx := C0.1
  have hb := C0.2.1
  replace hl : lv_has ls 5 [(0, .ref (aR 0)), (1, .int p1), (2, .int p2), (3, .int p3), (4, .int p4)] := hl
  refine lv_aload_n hx hb dX7_lend_0 rfl (lv_at hl 0 rfl) ?_
  refine x_cVv (As := []) (rest := []) (F := []) C0 hw (p_nil _) hl.1 0 7 rfl rfl (c_X7_begins l E aR h) 0 gX7_lend_X7_begins rfl ⟨rfl, rfl⟩ (by decide +kernel) ⟨Nat.le_of_ble_eq_true rfl, Nat.le_of_ble_eq_true rfl⟩ rfl rfl (Nat.le_of_ble_eq_true rfl) dX7_lend_1 ⟨Nat.zero_le _, Nat.zero_le _⟩ (fun v_1 H locs h (hw : mw E A s.heap H locs (cR E aR v_1)) => ?_)
  refine lv_aload_n hx hb dX7_lend_4 rfl (lv_at hl 0 rfl) ?_
  refine lv_aload_n hx hb dX7_lend_5 rfl (lv_at hl 0 rfl) ?_
  refine lv_iload_n hx hb dX7_lend_6 rfl (lv_at hl 1 rfl) ?_
  refine lv_iload_n hx hb dX7_lend_7 rfl (lv_at hl 2 rfl) ?_
  refine lv_iload_n hx hb dX7_lend_8 rfl (lv_at hl 3 rfl) ?_
  refine lv_iload hx hb dX7_lend_9 (lv_at hl 4 rfl) ?_
  refine x_cV (As := [.int p1, .int p2, .int p3, .int p4]) (rest := [.ref (aR 0)]) (F := []) C0 hw (p_nil _) hl.1 0 7 rfl rfl (c_X7_lends l E aR h) 4 gX7_lend_X7_lends rfl ⟨rfl, rfl⟩ (by decide +kernel) ⟨Nat.le_of_ble_eq_true rfl, Nat.le_of_ble_eq_true rfl⟩ rfl rfl (Nat.le_of_ble_eq_true rfl) dX7_lend_11 ⟨Nat.zero_le _, Nat.zero_le _⟩ (fun r_2 v_3 H locs h (hw : mw E A s.heap H locs (cR E aR v_3)) => ?_)
  refine x_cV (As := [.int r_2]) (rest := []) (F := []) C0 hw (p_nil _) hl.1 0 7 rfl rfl (c_X7_acted l E aR h) 1 gX7_lend_X7_acted rfl ⟨rfl, rfl⟩ (by decide +kernel) ⟨Nat.le_of_ble_eq_true rfl, Nat.le_of_ble_eq_true rfl⟩ rfl rfl (Nat.le_of_ble_eq_true rfl) dX7_lend_14 ⟨Nat.zero_le _, Nat.zero_le _⟩ (fun r_4 v_5 H locs h (hw : mw E A s.heap H locs (cR E aR v_5)) => ?_)
  exact x_ret C0 v_5 hw h dX7_lend_17

abbrev rmX7_back : Room := { frames := 3, cells := 0, slots := 0, locals := 67 }
set_option maxRecDepth 100000 in
set_option maxHeartbeats 4000000 in
theorem c_X7_back (l : Launch) (E : EE) (aR : Nat → Nat) {v : V}  {p1 : Int32} {post : Int32 → V → Prop} (h : s_X7_back v p1 post) : KI l E yX7_back wsX7_back rmX7_back [.ref (aR 0), .int p1] (cR E aR v) post (fun u => cR E aR u) := by
  unfold s_X7_back at h
  refine KI.go (cc := cX7_back) (ret := (some .int)) (maxL := 2) (own := RX7) (by decide) rfl (Nat.le_of_ble_eq_true rfl) rfl (fun p e s m below meth c A ls C0 hw hl => ?_)
  have hx := C0.1
  have hb := C0.2.1
  replace hl : lv_has ls 2 [(0, .ref (aR 0)), (1, .int p1)] := hl
  refine lv_aload_n hx hb dX7_back_0 rfl (lv_at hl 0 rfl) ?_
  refine x_cVv (As := []) (rest := []) (F := []) C0 hw (p_nil _) hl.1 0 7 rfl rfl (c_X7_begins l E aR h) 0 gX7_back_X7_begins rfl ⟨rfl, rfl⟩ (by decide +kernel) ⟨Nat.le_of_ble_eq_true rfl, Nat.le_of_ble_eq_true rfl⟩ rfl rfl (Nat.le_of_ble_eq_true rfl) dX7_back_1 ⟨Nat.zero_le _, Nat.zero_le _⟩ (fun v_1 H locs h (hw : mw E A s.heap H locs (cR E aR v_1)) => ?_)
  refine lv_aload_n hx hb dX7_back_4 rfl (lv_at hl 0 rfl) ?_
  refine lv_aload_n hx hb dX7_back_5 rfl (lv_at hl 0 rfl) ?_
  refine lv_iload_n hx hb dX7_back_6 rfl (lv_at hl 1 rfl) ?_
  refine x_cV (As := [.int p1]) (rest := [.ref (aR 0)]) (F := []) C0 hw (p_nil _) hl.1 0 7 rfl rfl (c_X7_gives l E aR h) 1 gX7_back_X7_gives rfl ⟨rfl, rfl⟩ (by decide +kernel) ⟨Nat.le_of_ble_eq_true rfl, Nat.le_of_ble_eq_true rfl⟩ rfl rfl (Nat.le_of_ble_eq_true rfl) dX7_back_7 ⟨Nat.zero_le _, Nat.zero_le _⟩ (fun r_2 v_3 H locs h (hw : mw E A s.heap H locs (cR E aR v_3)) => ?_)
  refine x_cV (As := [.int r_2]) (rest := []) (F := []) C0 hw (p_nil _) hl.1 0 7 rfl rfl (c_X7_acted l E aR h) 1 gX7_back_X7_acted rfl ⟨rfl, rfl⟩ (by decide +kernel) ⟨Nat.le_of_ble_eq_true rfl, Nat.le_of_ble_eq_true rfl⟩ rfl rfl (Nat.le_of_ble_eq_true rfl) dX7_back_10 ⟨Nat.zero_le _, Nat.zero_le _⟩ (fun r_4 v_5 H locs h (hw : mw E A s.heap H locs (cR E aR v_5)) => ?_)
  exact x_ret C0 v_5 hw h dX7_back_13

abbrev rmX7_keep : Room := { frames := 3, cells := 0, slots := 0, locals := 68 }
set_option maxRecDepth 100000 in
set_option maxHeartbeats 4000000 in
theorem c_X7_keep (l : Launch) (E : EE) (aR : Nat → Nat) {v : V}  {p1 : Int32} {post : Int32 → V → Prop} (h : s_X7_keep v p1 post) : KI l E yX7_keep wsX7_keep rmX7_keep [.ref (aR 0), .int p1] (cR E aR v) post (fun u => cR E aR u) := by
  unfold s_X7_keep at h
  refine KI.go (cc := cX7_keep) (ret := (some .int)) (maxL := 2) (own := RX7) (by decide) rfl (Nat.le_of_ble_eq_true rfl) rfl (fun p e s m below meth c A ls C0 hw hl => ?_)
  have hx := C0.1
  have hb := C0.2.1
  replace hl : lv_has ls 2 [(0, .ref (aR 0)), (1, .int p1)] := hl
  refine lv_aload_n hx hb dX7_keep_0 rfl (lv_at hl 0 rfl) ?_
  refine x_cVv (As := []) (rest := []) (F := []) C0 hw (p_nil _) hl.1 0 7 rfl rfl (c_X7_begins l E aR h) 0 gX7_keep_X7_begins rfl ⟨rfl, rfl⟩ (by decide +kernel) ⟨Nat.le_of_ble_eq_true rfl, Nat.le_of_ble_eq_true rfl⟩ rfl rfl (Nat.le_of_ble_eq_true rfl) dX7_keep_1 ⟨Nat.zero_le _, Nat.zero_le _⟩ (fun v_1 H locs h (hw : mw E A s.heap H locs (cR E aR v_1)) => ?_)
  refine lv_aload_n hx hb dX7_keep_4 rfl (lv_at hl 0 rfl) ?_
  refine lv_aload_n hx hb dX7_keep_5 rfl (lv_at hl 0 rfl) ?_
  refine lv_iload_n hx hb dX7_keep_6 rfl (lv_at hl 1 rfl) ?_
  refine x_cV (As := [.int p1]) (rest := [.ref (aR 0)]) (F := []) C0 hw (p_nil _) hl.1 0 7 rfl rfl (c_X7_keeps l E aR h) 1 gX7_keep_X7_keeps rfl ⟨rfl, rfl⟩ (by decide +kernel) ⟨Nat.le_of_ble_eq_true rfl, Nat.le_of_ble_eq_true rfl⟩ rfl rfl (Nat.le_of_ble_eq_true rfl) dX7_keep_7 ⟨Nat.zero_le _, Nat.zero_le _⟩ (fun r_2 v_3 H locs h (hw : mw E A s.heap H locs (cR E aR v_3)) => ?_)
  refine x_cV (As := [.int r_2]) (rest := []) (F := []) C0 hw (p_nil _) hl.1 0 7 rfl rfl (c_X7_acted l E aR h) 1 gX7_keep_X7_acted rfl ⟨rfl, rfl⟩ (by decide +kernel) ⟨Nat.le_of_ble_eq_true rfl, Nat.le_of_ble_eq_true rfl⟩ rfl rfl (Nat.le_of_ble_eq_true rfl) dX7_keep_10 ⟨Nat.zero_le _, Nat.zero_le _⟩ (fun r_4 v_5 H locs h (hw : mw E A s.heap H locs (cR E aR v_5)) => ?_)
  exact x_ret C0 v_5 hw h dX7_keep_13

abbrev rmX7_sell : Room := { frames := 3, cells := 0, slots := 0, locals := 66 }
set_option maxRecDepth 100000 in
set_option maxHeartbeats 4000000 in
theorem c_X7_sell (l : Launch) (E : EE) (aR : Nat → Nat) {v : V}  {p1 : Int32} {p2 : Int32} {post : Int32 → V → Prop} (h : s_X7_sell v p1 p2 post) : KI l E yX7_sell wsX7_sell rmX7_sell [.ref (aR 0), .int p1, .int p2] (cR E aR v) post (fun u => cR E aR u) := by
  unfold s_X7_sell at h
  refine KI.go (cc := cX7_sell) (ret := (some .int)) (maxL := 3) (own := RX7) (by decide) rfl (Nat.le_of_ble_eq_true rfl) rfl (fun p e s m below meth c A ls C0 hw hl => ?_)
  have hx := C0.1
  have hb := C0.2.1
  replace hl : lv_has ls 3 [(0, .ref (aR 0)), (1, .int p1), (2, .int p2)] := hl
  refine lv_aload_n hx hb dX7_sell_0 rfl (lv_at hl 0 rfl) ?_
  refine x_cVv (As := []) (rest := []) (F := []) C0 hw (p_nil _) hl.1 0 7 rfl rfl (c_X7_begins l E aR h) 0 gX7_sell_X7_begins rfl ⟨rfl, rfl⟩ (by decide +kernel) ⟨Nat.le_of_ble_eq_true rfl, Nat.le_of_ble_eq_true rfl⟩ rfl rfl (Nat.le_of_ble_eq_true rfl) dX7_sell_1 ⟨Nat.zero_le _, Nat.zero_le _⟩ (fun v_1 H locs h (hw : mw E A s.heap H locs (cR E aR v_1)) => ?_)
  refine lv_aload_n hx hb dX7_sell_4 rfl (lv_at hl 0 rfl) ?_
  refine lv_aload_n hx hb dX7_sell_5 rfl (lv_at hl 0 rfl) ?_
  refine lv_iload_n hx hb dX7_sell_6 rfl (lv_at hl 1 rfl) ?_
  refine lv_iload_n hx hb dX7_sell_7 rfl (lv_at hl 2 rfl) ?_
  refine x_cV (As := [.int p1, .int p2]) (rest := [.ref (aR 0)]) (F := []) C0 hw (p_nil _) hl.1 0 7 rfl rfl (c_X7_sells l E aR h) 2 gX7_sell_X7_sells rfl ⟨rfl, rfl⟩ (by decide +kernel) ⟨Nat.le_of_ble_eq_true rfl, Nat.le_of_ble_eq_true rfl⟩ rfl rfl (Nat.le_of_ble_eq_true rfl) dX7_sell_8 ⟨Nat.zero_le _, Nat.zero_le _⟩ (fun r_2 v_3 H locs h (hw : mw E A s.heap H locs (cR E aR v_3)) => ?_)
  refine x_cV (As := [.int r_2]) (rest := []) (F := []) C0 hw (p_nil _) hl.1 0 7 rfl rfl (c_X7_acted l E aR h) 1 gX7_sell_X7_acted rfl ⟨rfl, rfl⟩ (by decide +kernel) ⟨Nat.le_of_ble_eq_true rfl, Nat.le_of_ble_eq_true rfl⟩ rfl rfl (Nat.le_of_ble_eq_true rfl) dX7_sell_11 ⟨Nat.zero_le _, Nat.zero_le _⟩ (fun r_4 v_5 H locs h (hw : mw E A s.heap H locs (cR E aR v_5)) => ?_)
  exact x_ret C0 v_5 hw h dX7_sell_14

abbrev rmX7_grade : Room := { frames := 4, cells := 0, slots := 0, locals := 97 }
set_option maxRecDepth 100000 in
set_option maxHeartbeats 4000000 in
theorem c_X7_grade (l : Launch) (E : EE) (aR : Nat → Nat) {v : V}  {p1 : Int32} {p2 : Int32} {p3 : Int32} {post : Int32 → V → Prop} (h : s_X7_grade v p1 p2 p3 post) : KI l E yX7_grade wsX7_grade rmX7_grade [.ref (aR 0), .int p1, .int p2, .int p3] (cR E aR v) post (fun u => cR E aR u) := by
  unfold s_X7_grade at h
  refine KI.go (cc := cX7_grade) (ret := (some .int)) (maxL := 4) (own := RX7) (by decide) rfl (Nat.le_of_ble_eq_true rfl) rfl (fun p e s m below meth c A ls C0 hw hl => ?_)
  have hx := C0.1
  have hb := C0.2.1
  replace hl : lv_has ls 4 [(0, .ref (aR 0)), (1, .int p1), (2, .int p2), (3, .int p3)] := hl
  refine lv_aload_n hx hb dX7_grade_0 rfl (lv_at hl 0 rfl) ?_
  refine x_cVv (As := []) (rest := []) (F := []) C0 hw (p_nil _) hl.1 0 7 rfl rfl (c_X7_begins l E aR h) 0 gX7_grade_X7_begins rfl ⟨rfl, rfl⟩ (by decide +kernel) ⟨Nat.le_of_ble_eq_true rfl, Nat.le_of_ble_eq_true rfl⟩ rfl rfl (Nat.le_of_ble_eq_true rfl) dX7_grade_1 ⟨Nat.zero_le _, Nat.zero_le _⟩ (fun v_1 H locs h (hw : mw E A s.heap H locs (cR E aR v_1)) => ?_)
  refine lv_aload_n hx hb dX7_grade_4 rfl (lv_at hl 0 rfl) ?_
  refine lv_aload_n hx hb dX7_grade_5 rfl (lv_at hl 0 rfl) ?_
  refine lv_iload_n hx hb dX7_grade_6 rfl (lv_at hl 1 rfl) ?_
  refine lv_iload_n hx hb dX7_grade_7 rfl (lv_at hl 2 rfl) ?_
  refine lv_iload_n hx hb dX7_grade_8 rfl (lv_at hl 3 rfl) ?_
  refine x_cV (As := [.int p1, .int p2, .int p3]) (rest := [.ref (aR 0)]) (F := []) C0 hw (p_nil _) hl.1 0 7 rfl rfl (c_X7_grades1 l E aR h) 3 gX7_grade_X7_grades1 rfl ⟨rfl, rfl⟩ (by decide +kernel) ⟨Nat.le_of_ble_eq_true rfl, Nat.le_of_ble_eq_true rfl⟩ rfl rfl (Nat.le_of_ble_eq_true rfl) dX7_grade_9 ⟨Nat.zero_le _, Nat.zero_le _⟩ (fun r_2 v_3 H locs h (hw : mw E A s.heap H locs (cR E aR v_3)) => ?_)
  refine x_cV (As := [.int r_2]) (rest := []) (F := []) C0 hw (p_nil _) hl.1 0 7 rfl rfl (c_X7_acted l E aR h) 1 gX7_grade_X7_acted rfl ⟨rfl, rfl⟩ (by decide +kernel) ⟨Nat.le_of_ble_eq_true rfl, Nat.le_of_ble_eq_true rfl⟩ rfl rfl (Nat.le_of_ble_eq_true rfl) dX7_grade_12 ⟨Nat.zero_le _, Nat.zero_le _⟩ (fun r_4 v_5 H locs h (hw : mw E A s.heap H locs (cR E aR v_5)) => ?_)
  exact x_ret C0 v_5 hw h dX7_grade_15

abbrev rmX7_pause : Room := { frames := 4, cells := 0, slots := 0, locals := 93 }
set_option maxRecDepth 100000 in
set_option maxHeartbeats 4000000 in
theorem c_X7_pause (l : Launch) (E : EE) (aR : Nat → Nat) {v : V}  {p1 : Int32} {post : Int32 → V → Prop} (h : s_X7_pause v p1 post) : KI l E yX7_pause wsX7_pause rmX7_pause [.ref (aR 0), .int p1] (cR E aR v) post (fun u => cR E aR u) := by
  unfold s_X7_pause at h
  refine KI.go (cc := cX7_pause) (ret := (some .int)) (maxL := 2) (own := RX7) (by decide) rfl (Nat.le_of_ble_eq_true rfl) rfl (fun p e s m below meth c A ls C0 hw hl => ?_)
  have hx := C0.1
  have hb := C0.2.1
  replace hl : lv_has ls 2 [(0, .ref (aR 0)), (1, .int p1)] := hl
  refine lv_aload_n hx hb dX7_pause_0 rfl (lv_at hl 0 rfl) ?_
  refine x_cVv (As := []) (rest := []) (F := []) C0 hw (p_nil _) hl.1 0 7 rfl rfl (c_X7_begins l E aR h) 0 gX7_pause_X7_begins rfl ⟨rfl, rfl⟩ (by decide +kernel) ⟨Nat.le_of_ble_eq_true rfl, Nat.le_of_ble_eq_true rfl⟩ rfl rfl (Nat.le_of_ble_eq_true rfl) dX7_pause_1 ⟨Nat.zero_le _, Nat.zero_le _⟩ (fun v_1 H locs h (hw : mw E A s.heap H locs (cR E aR v_1)) => ?_)
  refine lv_aload_n hx hb dX7_pause_4 rfl (lv_at hl 0 rfl) ?_
  refine lv_aload_n hx hb dX7_pause_5 rfl (lv_at hl 0 rfl) ?_
  refine lv_iload_n hx hb dX7_pause_6 rfl (lv_at hl 1 rfl) ?_
  refine x_cV (As := [.int p1]) (rest := [.ref (aR 0)]) (F := []) C0 hw (p_nil _) hl.1 0 7 rfl rfl (c_X7_goes l E aR h) 1 gX7_pause_X7_goes rfl ⟨rfl, rfl⟩ (by decide +kernel) ⟨Nat.le_of_ble_eq_true rfl, Nat.le_of_ble_eq_true rfl⟩ rfl rfl (Nat.le_of_ble_eq_true rfl) dX7_pause_7 ⟨Nat.zero_le _, Nat.zero_le _⟩ (fun r_2 v_3 H locs h (hw : mw E A s.heap H locs (cR E aR v_3)) => ?_)
  refine x_cV (As := [.int r_2]) (rest := []) (F := []) C0 hw (p_nil _) hl.1 0 7 rfl rfl (c_X7_acted l E aR h) 1 gX7_pause_X7_acted rfl ⟨rfl, rfl⟩ (by decide +kernel) ⟨Nat.le_of_ble_eq_true rfl, Nat.le_of_ble_eq_true rfl⟩ rfl rfl (Nat.le_of_ble_eq_true rfl) dX7_pause_10 ⟨Nat.zero_le _, Nat.zero_le _⟩ (fun r_4 v_5 H locs h (hw : mw E A s.heap H locs (cR E aR v_5)) => ?_)
  exact x_ret C0 v_5 hw h dX7_pause_13

abbrev rmX7_set : Room := { frames := 2, cells := 0, slots := 0, locals := 43 }
set_option maxRecDepth 100000 in
set_option maxHeartbeats 4000000 in
theorem c_X7_set (l : Launch) (E : EE) (aR : Nat → Nat) {v : V}  {p1 : Int32} {p2 : Int32} {post : Int32 → V → Prop} (h : s_X7_set v p1 p2 post) : KI l E yX7_set wsX7_set rmX7_set [.ref (aR 0), .int p1, .int p2] (cR E aR v) post (fun u => cR E aR u) := by
  unfold s_X7_set at h
  refine KI.go (cc := cX7_set) (ret := (some .int)) (maxL := 4) (own := RX7) (by decide) rfl (Nat.le_of_ble_eq_true rfl) rfl (fun p e s m below meth c A ls C0 hw hl => ?_)
  have hx := C0.1
  have hb := C0.2.1
  have hiX7 : ∀ w ∈ wsX70, w ∈ wsX7_set := fun w h => List.mem_cons_of_mem _ (List.mem_append_right _ h)
  replace hl : lv_has ls 4 [(0, .ref (aR 0)), (1, .int p1), (2, .int p2)] := hl
  refine lv_aload_n hx hb dX7_set_0 rfl (lv_at hl 0 rfl) ?_
  refine x_cVv (As := []) (rest := []) (F := []) C0 hw (p_nil _) hl.1 0 7 rfl rfl (c_X7_begins l E aR h) 0 gX7_set_X7_begins rfl ⟨rfl, rfl⟩ (by decide +kernel) ⟨Nat.le_of_ble_eq_true rfl, Nat.le_of_ble_eq_true rfl⟩ rfl rfl (Nat.le_of_ble_eq_true rfl) dX7_set_1 ⟨Nat.zero_le _, Nat.zero_le _⟩ (fun v_1 H locs h (hw : mw E A s.heap H locs (cR E aR v_1)) => ?_)
  refine lv_iload_n hx hb dX7_set_4 rfl (lv_at hl 1 rfl) ?_
  refine lv_iconst (v := 0) hx hb dX7_set_5 (by decide) ?_
  refine lv_iconst (v := 1) hx hb dX7_set_6 (by decide) ?_
  refine x_cS (As := [.int p1, .int 0, .int 1]) (rest := []) (F := (cR E aR v_1)) C0 hw (p_non _) hl.1 (c_X7_in l E  h) 3 gX7_set_X7_in rfl ⟨rfl, rfl⟩ (by decide +kernel) ⟨Nat.le_of_ble_eq_true rfl, Nat.le_of_ble_eq_true rfl⟩ rfl rfl (Nat.le_of_ble_eq_true rfl) dX7_set_7 ⟨Nat.zero_le _, Nat.zero_le _⟩ (fun r_2 _u H locs h (hw : mw E A s.heap H locs (cR E aR v_1)) => ?_)
  refine lv_if_eq (tgt := 32) hx hb dX7_set_10 (by decide) (fun c_16 => ?_) (fun c_16 => ?_)
  · replace h := h.1 c_16
    refine x_ldc (v := (-10000001)) C0 1 rfl dX7_set_32 ?_
    exact x_ret C0 v_1 hw h dX7_set_34
  · replace h := h.2 c_16
    refine lv_iload_n hx hb dX7_set_13 rfl (lv_at hl 2 rfl) ?_
    refine lv_iconst (v := 0) hx hb dX7_set_14 (by decide) ?_
    refine lv_iload_n hx hb dX7_set_15 rfl (lv_at hl 1 rfl) ?_
    refine lv_if_ne (tgt := 24) hx hb dX7_set_16 (by decide) (fun c_15 => ?_) (fun c_15 => ?_)
    · replace h := h.1 c_15
      refine lv_bipush (v := 100) hx hb dX7_set_24 (by decide) ?_
      refine x_cS (As := [.int p2, .int 0, .int 100]) (rest := []) (F := (cR E aR v_1)) C0 hw (p_non _) hl.1 (c_X7_in l E  h) 3 gX7_set_X7_in rfl ⟨rfl, rfl⟩ (by decide +kernel) ⟨Nat.le_of_ble_eq_true rfl, Nat.le_of_ble_eq_true rfl⟩ rfl rfl (Nat.le_of_ble_eq_true rfl) dX7_set_26 ⟨Nat.zero_le _, Nat.zero_le _⟩ (fun r_3 _u H locs h (hw : mw E A s.heap H locs (cR E aR v_1)) => ?_)
      refine lv_if_ne (tgt := 35) hx hb dX7_set_29 (by decide) (fun c_7 => ?_) (fun c_7 => ?_)
      · replace h := h.1 c_7
        refine lv_aload_n hx hb dX7_set_35 rfl (lv_at hl 0 rfl) ?_
        refine x_get C0 hw 7 hiX7 rfl 0 rfl 0 (by decide) 2 rfl rfl dX7_set_36 ?_
        refine lv_bipush (v := 6) hx hb dX7_set_39 (by decide) ?_
        refine lv_iload_n hx hb dX7_set_41 rfl (lv_at hl 1 rfl) ?_
        refine lv_iadd hx hb dX7_set_42 ?_
        obtain ⟨hin, h⟩ := h
        refine x_ald C0 hw 1 rfl hin dX7_set_43 ?_
        refine lv_istore_n (lv' := [(3, .int (v_1 1 (tn (6 + p1)))), (0, .ref (aR 0)), (1, .int p1), (2, .int p2)]) hx hb dX7_set_44 rfl hl (by decide) rfl (fun ls hl => ?_)
        refine lv_aload_n hx hb dX7_set_45 rfl (lv_at hl 1 rfl) ?_
        refine x_get C0 hw 7 hiX7 rfl 0 rfl 0 (by decide) 2 rfl rfl dX7_set_46 ?_
        refine lv_bipush (v := 6) hx hb dX7_set_49 (by decide) ?_
        refine lv_iload_n hx hb dX7_set_51 rfl (lv_at hl 2 rfl) ?_
        refine lv_iadd hx hb dX7_set_52 ?_
        refine lv_iload_n hx hb dX7_set_53 rfl (lv_at hl 3 rfl) ?_
        obtain ⟨hin, h⟩ := h
        refine x_ast (ws' := (cR E aR ((st v_1 1 (tn (6 + p1)) p2)))) C0 hw 1 rfl hin rfl dX7_set_54 (fun H locs hw => ?_)
        obtain ⟨v_4, e_v_4⟩ : ∃ z, z = st v_1 1 (tn (6 + p1)) p2 := ⟨_, rfl⟩
        rw [← e_v_4] at hw
        replace h := h v_4 e_v_4
        refine lv_aload_n hx hb dX7_set_55 rfl (lv_at hl 1 rfl) ?_
        refine lv_iload_n hx hb dX7_set_56 rfl (lv_at hl 0 rfl) ?_
        refine x_cV (As := [.int (v_1 1 (tn (6 + p1)))]) (rest := []) (F := []) C0 hw (p_nil _) hl.1 0 7 rfl rfl (c_X7_acted l E aR h) 1 gX7_set_X7_acted rfl ⟨rfl, rfl⟩ (by decide +kernel) ⟨Nat.le_of_ble_eq_true rfl, Nat.le_of_ble_eq_true rfl⟩ rfl rfl (Nat.le_of_ble_eq_true rfl) dX7_set_57 ⟨Nat.zero_le _, Nat.zero_le _⟩ (fun r_5 v_6 H locs h (hw : mw E A s.heap H locs (cR E aR v_6)) => ?_)
        exact x_ret C0 v_6 hw h dX7_set_60
      · replace h := h.2 c_7
        refine x_ldc (v := (-10000001)) C0 1 rfl dX7_set_32 ?_
        exact x_ret C0 v_1 hw h dX7_set_34
    · replace h := h.2 c_15
      refine lv_bipush (v := 30) hx hb dX7_set_19 (by decide) ?_
      refine lv_goto (tgt := 26) hx hb dX7_set_21 (by decide) ?_
      refine x_cS (As := [.int p2, .int 0, .int 30]) (rest := []) (F := (cR E aR v_1)) C0 hw (p_non _) hl.1 (c_X7_in l E  h) 3 gX7_set_X7_in rfl ⟨rfl, rfl⟩ (by decide +kernel) ⟨Nat.le_of_ble_eq_true rfl, Nat.le_of_ble_eq_true rfl⟩ rfl rfl (Nat.le_of_ble_eq_true rfl) dX7_set_26 ⟨Nat.zero_le _, Nat.zero_le _⟩ (fun r_9 _u H locs h (hw : mw E A s.heap H locs (cR E aR v_1)) => ?_)
      refine lv_if_ne (tgt := 35) hx hb dX7_set_29 (by decide) (fun c_13 => ?_) (fun c_13 => ?_)
      · replace h := h.1 c_13
        refine lv_aload_n hx hb dX7_set_35 rfl (lv_at hl 0 rfl) ?_
        refine x_get C0 hw 7 hiX7 rfl 0 rfl 0 (by decide) 2 rfl rfl dX7_set_36 ?_
        refine lv_bipush (v := 6) hx hb dX7_set_39 (by decide) ?_
        refine lv_iload_n hx hb dX7_set_41 rfl (lv_at hl 1 rfl) ?_
        refine lv_iadd hx hb dX7_set_42 ?_
        obtain ⟨hin, h⟩ := h
        refine x_ald C0 hw 1 rfl hin dX7_set_43 ?_
        refine lv_istore_n (lv' := [(3, .int (v_1 1 (tn (6 + p1)))), (0, .ref (aR 0)), (1, .int p1), (2, .int p2)]) hx hb dX7_set_44 rfl hl (by decide) rfl (fun ls hl => ?_)
        refine lv_aload_n hx hb dX7_set_45 rfl (lv_at hl 1 rfl) ?_
        refine x_get C0 hw 7 hiX7 rfl 0 rfl 0 (by decide) 2 rfl rfl dX7_set_46 ?_
        refine lv_bipush (v := 6) hx hb dX7_set_49 (by decide) ?_
        refine lv_iload_n hx hb dX7_set_51 rfl (lv_at hl 2 rfl) ?_
        refine lv_iadd hx hb dX7_set_52 ?_
        refine lv_iload_n hx hb dX7_set_53 rfl (lv_at hl 3 rfl) ?_
        obtain ⟨hin, h⟩ := h
        refine x_ast (ws' := (cR E aR ((st v_1 1 (tn (6 + p1)) p2)))) C0 hw 1 rfl hin rfl dX7_set_54 (fun H locs hw => ?_)
        obtain ⟨v_10, e_v_10⟩ : ∃ z, z = st v_1 1 (tn (6 + p1)) p2 := ⟨_, rfl⟩
        rw [← e_v_10] at hw
        replace h := h v_10 e_v_10
        refine lv_aload_n hx hb dX7_set_55 rfl (lv_at hl 1 rfl) ?_
        refine lv_iload_n hx hb dX7_set_56 rfl (lv_at hl 0 rfl) ?_
        refine x_cV (As := [.int (v_1 1 (tn (6 + p1)))]) (rest := []) (F := []) C0 hw (p_nil _) hl.1 0 7 rfl rfl (c_X7_acted l E aR h) 1 gX7_set_X7_acted rfl ⟨rfl, rfl⟩ (by decide +kernel) ⟨Nat.le_of_ble_eq_true rfl, Nat.le_of_ble_eq_true rfl⟩ rfl rfl (Nat.le_of_ble_eq_true rfl) dX7_set_57 ⟨Nat.zero_le _, Nat.zero_le _⟩ (fun r_11 v_12 H locs h (hw : mw E A s.heap H locs (cR E aR v_12)) => ?_)
        exact x_ret C0 v_12 hw h dX7_set_60
      · replace h := h.2 c_13
        refine x_ldc (v := (-10000001)) C0 1 rfl dX7_set_32 ?_
        exact x_ret C0 v_1 hw h dX7_set_34

abbrev rmX7_orNone : Room := { frames := 0, cells := 0, slots := 0, locals := 0 }
set_option maxRecDepth 100000 in
set_option maxHeartbeats 4000000 in
theorem c_X7_orNone (l : Launch) (E : EE)    {p0 : Int32} {post : Int32 → Prop} (h : s_X7_orNone p0 post) : KI l E yX7_orNone wsX7_orNone rmX7_orNone [.int p0] ([] : va_W) (S := Unit) (fun r (_ : Unit) => post r) (fun (_ : Unit) => ([] : va_W)) := by
  unfold s_X7_orNone at h
  refine KI.go (cc := cX7_orNone) (ret := (some .int)) (maxL := 1) (own := RX7) (by decide) rfl (Nat.le_of_ble_eq_true rfl) rfl (fun p e s m below meth c A ls C0 hw hl => ?_)
  have hx := C0.1
  have hb := C0.2.1
  replace hl : lv_has ls 1 [(0, .int p0)] := hl
  refine lv_iload_n hx hb dX7_orNone_0 rfl (lv_at hl 0 rfl) ?_
  refine lv_if_ge (tgt := 9) hx hb dX7_orNone_1 (by decide) (fun c_1 => ?_) (fun c_1 => ?_)
  · replace h := h.1 c_1
    refine lv_iload_n hx hb dX7_orNone_9 rfl (lv_at hl 0 rfl) ?_
    exact x_ret C0 () hw h dX7_orNone_10
  · replace h := h.2 c_1
    refine x_ldc (v := (-10000004)) C0 1 rfl dX7_orNone_4 ?_
    refine lv_goto (tgt := 10) hx hb dX7_orNone_6 (by decide) ?_
    exact x_ret C0 () hw h dX7_orNone_10

abbrev rmX7_stoneOf : Room := { frames := 3, cells := 0, slots := 0, locals := 72 }
set_option maxRecDepth 100000 in
set_option maxHeartbeats 4000000 in
theorem c_X7_stoneOf (l : Launch) (E : EE) (aR : Nat → Nat) {v : V}  {p1 : Int32} {p2 : Int32} {post : Int32 → V → Prop} (h : s_X7_stoneOf v p1 p2 post) : KI l E yX7_stoneOf wsX7_stoneOf rmX7_stoneOf [.ref (aR 0), .int p1, .int p2] (cR E aR v) post (fun u => cR E aR u) := by
  unfold s_X7_stoneOf at h
  refine KI.go (cc := cX7_stoneOf) (ret := (some .int)) (maxL := 3) (own := RX7) (by decide) rfl (Nat.le_of_ble_eq_true rfl) rfl (fun p e s m below meth c A ls C0 hw hl => ?_)
  have hx := C0.1
  have hb := C0.2.1
  replace hl : lv_has ls 3 [(0, .ref (aR 0)), (1, .int p1), (2, .int p2)] := hl
  refine lv_aload_n hx hb dX7_stoneOf_0 rfl (lv_at hl 0 rfl) ?_
  refine lv_iload_n hx hb dX7_stoneOf_1 rfl (lv_at hl 1 rfl) ?_
  refine x_cV (As := [.int p1]) (rest := []) (F := []) C0 hw (p_nil _) hl.1 0 7 rfl rfl (c_X7_isStone l E aR h) 1 gX7_stoneOf_X7_isStone rfl ⟨rfl, rfl⟩ (by decide +kernel) ⟨Nat.le_of_ble_eq_true rfl, Nat.le_of_ble_eq_true rfl⟩ rfl rfl (Nat.le_of_ble_eq_true rfl) dX7_stoneOf_2 ⟨Nat.zero_le _, Nat.zero_le _⟩ (fun r_1 v_2 H locs h (hw : mw E A s.heap H locs (cR E aR v_2)) => ?_)
  refine lv_if_eq (tgt := 18) hx hb dX7_stoneOf_5 (by decide) (fun c_46 => ?_) (fun c_46 => ?_)
  · replace h := h.1 c_46
    refine x_ldc (v := (-10000001)) C0 1 rfl dX7_stoneOf_18 ?_
    exact x_ret C0 v_2 hw h dX7_stoneOf_20
  · replace h := h.2 c_46
    refine lv_iload_n hx hb dX7_stoneOf_8 rfl (lv_at hl 2 rfl) ?_
    refine lv_iconst (v := 0) hx hb dX7_stoneOf_9 (by decide) ?_
    refine lv_bipush (v := 10) hx hb dX7_stoneOf_10 (by decide) ?_
    refine x_cS (As := [.int p2, .int 0, .int 10]) (rest := []) (F := (cR E aR v_2)) C0 hw (p_non _) hl.1 (c_X7_in l E  h) 3 gX7_stoneOf_X7_in rfl ⟨rfl, rfl⟩ (by decide +kernel) ⟨Nat.le_of_ble_eq_true rfl, Nat.le_of_ble_eq_true rfl⟩ rfl rfl (Nat.le_of_ble_eq_true rfl) dX7_stoneOf_12 ⟨Nat.zero_le _, Nat.zero_le _⟩ (fun r_3 _u H locs h (hw : mw E A s.heap H locs (cR E aR v_2)) => ?_)
    refine lv_if_ne (tgt := 21) hx hb dX7_stoneOf_15 (by decide) (fun c_44 => ?_) (fun c_44 => ?_)
    · replace h := h.1 c_44
      refine lv_iload_n hx hb dX7_stoneOf_21 rfl (lv_at hl 2 rfl) ?_
      by_cases c_6 : p2 = 3
      · replace h := h.1 c_6
        refine x_tabIn (tgt := 68) C0 3 c_6 dX7_stoneOf_22 (by decide) (by decide) rfl (by decide) ?_
        refine lv_aload_n hx hb dX7_stoneOf_68 rfl (lv_at hl 0 rfl) ?_
        refine lv_iload_n hx hb dX7_stoneOf_69 rfl (lv_at hl 1 rfl) ?_
        refine x_cV (As := [.int p1]) (rest := []) (F := []) C0 hw (p_nil _) hl.1 0 7 rfl rfl (c_X7_sieve l E aR h) 1 gX7_stoneOf_X7_sieve rfl ⟨rfl, rfl⟩ (by decide +kernel) ⟨Nat.le_of_ble_eq_true rfl, Nat.le_of_ble_eq_true rfl⟩ rfl rfl (Nat.le_of_ble_eq_true rfl) dX7_stoneOf_70 ⟨Nat.zero_le _, Nat.zero_le _⟩ (fun r_4 v_5 H locs h (hw : mw E A s.heap H locs (cR E aR v_5)) => ?_)
        exact x_ret C0 v_5 hw h dX7_stoneOf_73
      replace h := h.2
      by_cases c_11 : p2 = 4
      · replace h := h.1 c_11
        refine x_tabIn (tgt := 74) C0 4 c_11 dX7_stoneOf_22 (by decide) (by decide) rfl (by decide) ?_
        refine lv_aload_n hx hb dX7_stoneOf_74 rfl (lv_at hl 0 rfl) ?_
        refine lv_iload_n hx hb dX7_stoneOf_75 rfl (lv_at hl 1 rfl) ?_
        refine lv_iload_n hx hb dX7_stoneOf_76 rfl (lv_at hl 2 rfl) ?_
        refine lv_iconst (v := 1) hx hb dX7_stoneOf_77 (by decide) ?_
        refine lv_isub hx hb dX7_stoneOf_78 ?_
        refine x_cV (As := [.int p1, .int (p2 - 1)]) (rest := []) (F := []) C0 hw (p_nil _) hl.1 0 7 rfl rfl (c_X7_ofStone l E aR h) 2 gX7_stoneOf_X7_ofStone rfl ⟨rfl, rfl⟩ (by decide +kernel) ⟨Nat.le_of_ble_eq_true rfl, Nat.le_of_ble_eq_true rfl⟩ rfl rfl (Nat.le_of_ble_eq_true rfl) dX7_stoneOf_79 ⟨Nat.zero_le _, Nat.zero_le _⟩ (fun r_7 v_8 H locs h (hw : mw E A s.heap H locs (cR E aR v_8)) => ?_)
        refine x_cS (As := [.int r_7]) (rest := []) (F := (cR E aR v_8)) C0 hw (p_non _) hl.1 (c_X7_orNone l E  h) 1 gX7_stoneOf_X7_orNone rfl ⟨rfl, rfl⟩ (by decide +kernel) ⟨Nat.le_of_ble_eq_true rfl, Nat.le_of_ble_eq_true rfl⟩ rfl rfl (Nat.le_of_ble_eq_true rfl) dX7_stoneOf_82 ⟨Nat.zero_le _, Nat.zero_le _⟩ (fun r_9 _u H locs h (hw : mw E A s.heap H locs (cR E aR v_8)) => ?_)
        exact x_ret C0 v_8 hw h dX7_stoneOf_85
      replace h := h.2
      by_cases c_16 : p2 = 5
      · replace h := h.1 c_16
        refine x_tabIn (tgt := 74) C0 5 c_16 dX7_stoneOf_22 (by decide) (by decide) rfl (by decide) ?_
        refine lv_aload_n hx hb dX7_stoneOf_74 rfl (lv_at hl 0 rfl) ?_
        refine lv_iload_n hx hb dX7_stoneOf_75 rfl (lv_at hl 1 rfl) ?_
        refine lv_iload_n hx hb dX7_stoneOf_76 rfl (lv_at hl 2 rfl) ?_
        refine lv_iconst (v := 1) hx hb dX7_stoneOf_77 (by decide) ?_
        refine lv_isub hx hb dX7_stoneOf_78 ?_
        refine x_cV (As := [.int p1, .int (p2 - 1)]) (rest := []) (F := []) C0 hw (p_nil _) hl.1 0 7 rfl rfl (c_X7_ofStone l E aR h) 2 gX7_stoneOf_X7_ofStone rfl ⟨rfl, rfl⟩ (by decide +kernel) ⟨Nat.le_of_ble_eq_true rfl, Nat.le_of_ble_eq_true rfl⟩ rfl rfl (Nat.le_of_ble_eq_true rfl) dX7_stoneOf_79 ⟨Nat.zero_le _, Nat.zero_le _⟩ (fun r_12 v_13 H locs h (hw : mw E A s.heap H locs (cR E aR v_13)) => ?_)
        refine x_cS (As := [.int r_12]) (rest := []) (F := (cR E aR v_13)) C0 hw (p_non _) hl.1 (c_X7_orNone l E  h) 1 gX7_stoneOf_X7_orNone rfl ⟨rfl, rfl⟩ (by decide +kernel) ⟨Nat.le_of_ble_eq_true rfl, Nat.le_of_ble_eq_true rfl⟩ rfl rfl (Nat.le_of_ble_eq_true rfl) dX7_stoneOf_82 ⟨Nat.zero_le _, Nat.zero_le _⟩ (fun r_14 _u H locs h (hw : mw E A s.heap H locs (cR E aR v_13)) => ?_)
        exact x_ret C0 v_13 hw h dX7_stoneOf_85
      replace h := h.2
      by_cases c_21 : p2 = 6
      · replace h := h.1 c_21
        refine x_tabIn (tgt := 86) C0 6 c_21 dX7_stoneOf_22 (by decide) (by decide) rfl (by decide) ?_
        refine lv_aload_n hx hb dX7_stoneOf_86 rfl (lv_at hl 0 rfl) ?_
        refine lv_iload_n hx hb dX7_stoneOf_87 rfl (lv_at hl 1 rfl) ?_
        refine x_cV (As := [.int p1]) (rest := []) (F := []) C0 hw (p_nil _) hl.1 0 7 rfl rfl (c_X7_price l E aR h) 1 gX7_stoneOf_X7_price rfl ⟨rfl, rfl⟩ (by decide +kernel) ⟨Nat.le_of_ble_eq_true rfl, Nat.le_of_ble_eq_true rfl⟩ rfl rfl (Nat.le_of_ble_eq_true rfl) dX7_stoneOf_88 ⟨Nat.zero_le _, Nat.zero_le _⟩ (fun r_17 v_18 H locs h (hw : mw E A s.heap H locs (cR E aR v_18)) => ?_)
        refine x_cS (As := [.int r_17]) (rest := []) (F := (cR E aR v_18)) C0 hw (p_non _) hl.1 (c_X7_orNone l E  h) 1 gX7_stoneOf_X7_orNone rfl ⟨rfl, rfl⟩ (by decide +kernel) ⟨Nat.le_of_ble_eq_true rfl, Nat.le_of_ble_eq_true rfl⟩ rfl rfl (Nat.le_of_ble_eq_true rfl) dX7_stoneOf_91 ⟨Nat.zero_le _, Nat.zero_le _⟩ (fun r_19 _u H locs h (hw : mw E A s.heap H locs (cR E aR v_18)) => ?_)
        exact x_ret C0 v_18 hw h dX7_stoneOf_94
      replace h := h.2
      by_cases c_26 : p2 = 7
      · replace h := h.1 c_26
        refine x_tabIn (tgt := 95) C0 7 c_26 dX7_stoneOf_22 (by decide) (by decide) rfl (by decide) ?_
        refine lv_aload_n hx hb dX7_stoneOf_95 rfl (lv_at hl 0 rfl) ?_
        refine lv_iload_n hx hb dX7_stoneOf_96 rfl (lv_at hl 1 rfl) ?_
        refine lv_iconst (v := 5) hx hb dX7_stoneOf_97 (by decide) ?_
        refine x_cV (As := [.int p1, .int 5]) (rest := []) (F := []) C0 hw (p_nil _) hl.1 0 7 rfl rfl (c_X7_ofStone l E aR h) 2 gX7_stoneOf_X7_ofStone rfl ⟨rfl, rfl⟩ (by decide +kernel) ⟨Nat.le_of_ble_eq_true rfl, Nat.le_of_ble_eq_true rfl⟩ rfl rfl (Nat.le_of_ble_eq_true rfl) dX7_stoneOf_98 ⟨Nat.zero_le _, Nat.zero_le _⟩ (fun r_22 v_23 H locs h (hw : mw E A s.heap H locs (cR E aR v_23)) => ?_)
        refine x_cS (As := [.int r_22]) (rest := []) (F := (cR E aR v_23)) C0 hw (p_non _) hl.1 (c_X7_orNone l E  h) 1 gX7_stoneOf_X7_orNone rfl ⟨rfl, rfl⟩ (by decide +kernel) ⟨Nat.le_of_ble_eq_true rfl, Nat.le_of_ble_eq_true rfl⟩ rfl rfl (Nat.le_of_ble_eq_true rfl) dX7_stoneOf_101 ⟨Nat.zero_le _, Nat.zero_le _⟩ (fun r_24 _u H locs h (hw : mw E A s.heap H locs (cR E aR v_23)) => ?_)
        exact x_ret C0 v_23 hw h dX7_stoneOf_104
      replace h := h.2
      by_cases c_32 : p2 = 8
      · replace h := h.1 c_32
        refine x_tabIn (tgt := 105) C0 8 c_32 dX7_stoneOf_22 (by decide) (by decide) rfl (by decide) ?_
        refine lv_aload_n hx hb dX7_stoneOf_105 rfl (lv_at hl 0 rfl) ?_
        refine lv_iload_n hx hb dX7_stoneOf_106 rfl (lv_at hl 1 rfl) ?_
        refine x_cV (As := [.int p1]) (rest := []) (F := []) C0 hw (p_nil _) hl.1 0 7 rfl rfl (c_X7_isOut l E aR h) 1 gX7_stoneOf_X7_isOut rfl ⟨rfl, rfl⟩ (by decide +kernel) ⟨Nat.le_of_ble_eq_true rfl, Nat.le_of_ble_eq_true rfl⟩ rfl rfl (Nat.le_of_ble_eq_true rfl) dX7_stoneOf_107 ⟨Nat.zero_le _, Nat.zero_le _⟩ (fun r_27 v_28 H locs h (hw : mw E A s.heap H locs (cR E aR v_28)) => ?_)
        refine lv_if_eq (tgt := 123) hx hb dX7_stoneOf_110 (by decide) (fun c_31 => ?_) (fun c_31 => ?_)
        · replace h := h.1 c_31
          refine x_ldc (v := (-10000004)) C0 2 rfl dX7_stoneOf_123 ?_
          exact x_ret C0 v_28 hw h dX7_stoneOf_125
        · replace h := h.2 c_31
          refine lv_aload_n hx hb dX7_stoneOf_113 rfl (lv_at hl 0 rfl) ?_
          refine lv_iload_n hx hb dX7_stoneOf_114 rfl (lv_at hl 1 rfl) ?_
          refine lv_bipush (v := 6) hx hb dX7_stoneOf_115 (by decide) ?_
          refine x_cV (As := [.int p1, .int 6]) (rest := []) (F := []) C0 hw (p_nil _) hl.1 0 7 rfl rfl (c_X7_ofStone l E aR h) 2 gX7_stoneOf_X7_ofStone rfl ⟨rfl, rfl⟩ (by decide +kernel) ⟨Nat.le_of_ble_eq_true rfl, Nat.le_of_ble_eq_true rfl⟩ rfl rfl (Nat.le_of_ble_eq_true rfl) dX7_stoneOf_117 ⟨Nat.zero_le _, Nat.zero_le _⟩ (fun r_29 v_30 H locs h (hw : mw E A s.heap H locs (cR E aR v_30)) => ?_)
          refine lv_goto (tgt := 125) hx hb dX7_stoneOf_120 (by decide) ?_
          exact x_ret C0 v_30 hw h dX7_stoneOf_125
      replace h := h.2
      by_cases c_38 : p2 = 9
      · replace h := h.1 c_38
        refine x_tabIn (tgt := 126) C0 9 c_38 dX7_stoneOf_22 (by decide) (by decide) rfl (by decide) ?_
        refine lv_aload_n hx hb dX7_stoneOf_126 rfl (lv_at hl 0 rfl) ?_
        refine lv_iload_n hx hb dX7_stoneOf_127 rfl (lv_at hl 1 rfl) ?_
        refine x_cV (As := [.int p1]) (rest := []) (F := []) C0 hw (p_nil _) hl.1 0 7 rfl rfl (c_X7_isSold l E aR h) 1 gX7_stoneOf_X7_isSold rfl ⟨rfl, rfl⟩ (by decide +kernel) ⟨Nat.le_of_ble_eq_true rfl, Nat.le_of_ble_eq_true rfl⟩ rfl rfl (Nat.le_of_ble_eq_true rfl) dX7_stoneOf_128 ⟨Nat.zero_le _, Nat.zero_le _⟩ (fun r_33 v_34 H locs h (hw : mw E A s.heap H locs (cR E aR v_34)) => ?_)
        refine lv_if_eq (tgt := 144) hx hb dX7_stoneOf_131 (by decide) (fun c_37 => ?_) (fun c_37 => ?_)
        · replace h := h.1 c_37
          refine x_ldc (v := (-10000004)) C0 2 rfl dX7_stoneOf_144 ?_
          exact x_ret C0 v_34 hw h dX7_stoneOf_146
        · replace h := h.2 c_37
          refine lv_aload_n hx hb dX7_stoneOf_134 rfl (lv_at hl 0 rfl) ?_
          refine lv_iload_n hx hb dX7_stoneOf_135 rfl (lv_at hl 1 rfl) ?_
          refine lv_bipush (v := 7) hx hb dX7_stoneOf_136 (by decide) ?_
          refine x_cV (As := [.int p1, .int 7]) (rest := []) (F := []) C0 hw (p_nil _) hl.1 0 7 rfl rfl (c_X7_ofStone l E aR h) 2 gX7_stoneOf_X7_ofStone rfl ⟨rfl, rfl⟩ (by decide +kernel) ⟨Nat.le_of_ble_eq_true rfl, Nat.le_of_ble_eq_true rfl⟩ rfl rfl (Nat.le_of_ble_eq_true rfl) dX7_stoneOf_138 ⟨Nat.zero_le _, Nat.zero_le _⟩ (fun r_35 v_36 H locs h (hw : mw E A s.heap H locs (cR E aR v_36)) => ?_)
          refine lv_goto (tgt := 146) hx hb dX7_stoneOf_141 (by decide) ?_
          exact x_ret C0 v_36 hw h dX7_stoneOf_146
      replace h := h.2
      by_cases c_41 : p2 = 10
      · replace h := h.1 c_41
        refine x_tabIn (tgt := 147) C0 10 c_41 dX7_stoneOf_22 (by decide) (by decide) rfl (by decide) ?_
        refine lv_aload_n hx hb dX7_stoneOf_147 rfl (lv_at hl 0 rfl) ?_
        refine lv_iload_n hx hb dX7_stoneOf_148 rfl (lv_at hl 1 rfl) ?_
        refine lv_bipush (v := 8) hx hb dX7_stoneOf_149 (by decide) ?_
        refine x_cV (As := [.int p1, .int 8]) (rest := []) (F := []) C0 hw (p_nil _) hl.1 0 7 rfl rfl (c_X7_ofStone l E aR h) 2 gX7_stoneOf_X7_ofStone rfl ⟨rfl, rfl⟩ (by decide +kernel) ⟨Nat.le_of_ble_eq_true rfl, Nat.le_of_ble_eq_true rfl⟩ rfl rfl (Nat.le_of_ble_eq_true rfl) dX7_stoneOf_151 ⟨Nat.zero_le _, Nat.zero_le _⟩ (fun r_39 v_40 H locs h (hw : mw E A s.heap H locs (cR E aR v_40)) => ?_)
        exact x_ret C0 v_40 hw h dX7_stoneOf_154
      replace h := h.2
      have cD : p2.toInt < 3 ∨ 10 < p2.toInt := by
        have := ne_toInt (z := 3) (by decide) c_6
        have := ne_toInt (z := 4) (by decide) c_11
        have := ne_toInt (z := 5) (by decide) c_16
        have := ne_toInt (z := 6) (by decide) c_21
        have := ne_toInt (z := 7) (by decide) c_26
        have := ne_toInt (z := 8) (by decide) c_32
        have := ne_toInt (z := 9) (by decide) c_38
        have := ne_toInt (z := 10) (by decide) c_41
        omega
      replace h := h cD
      refine lv_tableOut (tgt := 155) hx hb dX7_stoneOf_22 cD (by decide) ?_
      refine lv_aload_n hx hb dX7_stoneOf_155 rfl (lv_at hl 0 rfl) ?_
      refine lv_iload_n hx hb dX7_stoneOf_156 rfl (lv_at hl 1 rfl) ?_
      refine lv_iload_n hx hb dX7_stoneOf_157 rfl (lv_at hl 2 rfl) ?_
      refine x_cV (As := [.int p1, .int p2]) (rest := []) (F := []) C0 hw (p_nil _) hl.1 0 7 rfl rfl (c_X7_ofStone l E aR h) 2 gX7_stoneOf_X7_ofStone rfl ⟨rfl, rfl⟩ (by decide +kernel) ⟨Nat.le_of_ble_eq_true rfl, Nat.le_of_ble_eq_true rfl⟩ rfl rfl (Nat.le_of_ble_eq_true rfl) dX7_stoneOf_158 ⟨Nat.zero_le _, Nat.zero_le _⟩ (fun r_42 v_43 H locs h (hw : mw E A s.heap H locs (cR E aR v_43)) => ?_)
      exact x_ret C0 v_43 hw h dX7_stoneOf_161
    · replace h := h.2 c_44
      refine x_ldc (v := (-10000001)) C0 1 rfl dX7_stoneOf_18 ?_
      exact x_ret C0 v_2 hw h dX7_stoneOf_20

abbrev rmX7_setOf : Room := { frames := 1, cells := 0, slots := 0, locals := 22 }
set_option maxRecDepth 100000 in
set_option maxHeartbeats 4000000 in
theorem w_X7_setOf_5 {p : Program} {l : Launch} {e : Env} {s : State} {m : MethodId} {below : List Frame} {meth : Method} {c : Code} {E : EE} {A : Nat → Prop} {aR : Nat → Nat} {args : Array Value} (C0 : Cx E p s m args meth c A cX7_setOf 5 RX7 wsX7_setOf (some .int)) {post : Int32 → V → Prop}  {f1 : Int32} {f2 : Int32} {k0 : Int32 → Int32 → V → Prop} : ∀ (n : Nat) (x3 : Int32) (x4 : Int32) (v : V), sl_X7_setOf_5 post f1 f2 k0 n x3 x4 v → ∀ (H : Heap) (locs : List Loc) (ls : Array Slot), mw E A s.heap H locs (cR E aR v) → lv_has ls 5 [(0, .ref (aR 0)), (1, .int f1), (2, .int f2), (3, .int x3), (4, .int x4)] → (∀ (x3 : Int32) (x4 : Int32) (v : V) (H : Heap) (locs : List Loc) (ls : Array Slot), k0 x3 x4 v → mw E A s.heap H locs (cR E aR v) → lv_has ls 5 [(0, .ref (aR 0)), (1, .int f1), (2, .int f2), (3, .int x3), (4, .int x4)] → W p l e rmX7_setOf s m args below meth c H locs 0 0 (qI E A post (fun u => cR E aR u) below args s) (F0 m 44 ls [])) → W p l e rmX7_setOf s m args below meth c H locs 0 0 (qI E A post (fun u => cR E aR u) below args s) (F0 m 5 ls []) := by
  have hx := C0.1
  have hb := C0.2.1
  have hiX7 : ∀ w ∈ wsX70, w ∈ wsX7_setOf := fun w h => List.mem_cons_of_mem _ (List.mem_append_right _ h)
  intro n
  induction n with
  | zero => intro x3 x4 v h; exact False.elim h
  | succ n ih =>
    intro x3 x4 v h H locs ls hw hl hk0
    replace h : sb_X7_setOf_5 post f1 f2 k0 (sl_X7_setOf_5 post f1 f2 k0 n) x3 x4 v := h
    unfold sb_X7_setOf_5 at h
    refine lv_iload hx hb dX7_setOf_5 (lv_at hl 4 rfl) ?_
    refine lv_aload_n hx hb dX7_setOf_7 rfl (lv_at hl 0 rfl) ?_
    refine x_get C0 hw 7 hiX7 rfl 0 rfl 0 (by decide) 1 rfl rfl dX7_setOf_8 ?_
    refine lv_iconst (v := 1) hx hb dX7_setOf_11 (by decide) ?_
    refine x_ald C0 hw 1 rfl (vp_in_nI (n := 1) (by decide) (by decide)) dX7_setOf_12 ?_
    refine lv_icmp_ge (tgt := 44) hx hb dX7_setOf_13 (by decide) (fun c_4 => ?_) (fun c_4 => ?_)
    · replace h := h.1 c_4
      exact hk0 _ _ _ _ _ _ h hw (lv_sub hl [0, 1, 2, 3, 4] rfl)
    · replace h := h.2 c_4
      refine lv_iload_n hx hb dX7_setOf_16 rfl (lv_at hl 3 rfl) ?_
      refine lv_aload_n hx hb dX7_setOf_17 rfl (lv_at hl 0 rfl) ?_
      refine lv_iload hx hb dX7_setOf_18 (lv_at hl 4 rfl) ?_
      refine lv_iload_n hx hb dX7_setOf_20 rfl (lv_at hl 2 rfl) ?_
      refine x_cV (As := [.int x4, .int f2]) (rest := [.int x3]) (F := []) C0 hw (p_nil _) hl.1 0 7 rfl rfl (c_X7_ofStone l E aR h) 2 gX7_setOf_X7_ofStone rfl ⟨rfl, rfl⟩ (by decide +kernel) ⟨Nat.le_of_ble_eq_true rfl, Nat.le_of_ble_eq_true rfl⟩ rfl rfl (Nat.le_of_ble_eq_true rfl) dX7_setOf_21 ⟨Nat.zero_le _, Nat.zero_le _⟩ (fun r_1 v_2 H locs h (hw : mw E A s.heap H locs (cR E aR v_2)) => ?_)
      refine lv_iload_n hx hb dX7_setOf_24 rfl (lv_at hl 1 rfl) ?_
      refine lv_icmp_ne (tgt := 35) hx hb dX7_setOf_25 (by decide) (fun c_3 => ?_) (fun c_3 => ?_)
      · replace h := h.1 c_3
        refine lv_iconst (v := 0) hx hb dX7_setOf_35 (by decide) ?_
        refine lv_ior hx hb dX7_setOf_36 ?_
        refine lv_istore_n (lv' := [(3, .int (x3 ||| 0)), (0, .ref (aR 0)), (1, .int f1), (2, .int f2), (4, .int x4)]) hx hb dX7_setOf_37 rfl hl (by decide) rfl (fun ls hl => ?_)
        refine lv_iinc (v := (x4 + 1)) (lv' := [(4, .int (x4 + 1)), (3, .int (x3 ||| 0)), (0, .ref (aR 0)), (1, .int f1), (2, .int f2)]) hx hb dX7_setOf_38 hl (k := 4) rfl rfl (by decide) rfl (fun ls hl => ?_)
        refine lv_goto (tgt := 5) hx hb dX7_setOf_41 (by decide) ?_
        exact ih _ _ _ h _ _ _ hw (lv_sub hl [2, 3, 4, 1, 0] rfl) hk0
      · replace h := h.2 c_3
        refine lv_iconst (v := 1) hx hb dX7_setOf_28 (by decide) ?_
        refine lv_iload hx hb dX7_setOf_29 (lv_at hl 4 rfl) ?_
        refine lv_ishl hx hb dX7_setOf_31 ?_
        refine lv_goto (tgt := 36) hx hb dX7_setOf_32 (by decide) ?_
        refine lv_ior hx hb dX7_setOf_36 ?_
        refine lv_istore_n (lv' := [(3, .int (x3 ||| (1 <<< (x4 &&& 31)))), (0, .ref (aR 0)), (1, .int f1), (2, .int f2), (4, .int x4)]) hx hb dX7_setOf_37 rfl hl (by decide) rfl (fun ls hl => ?_)
        refine lv_iinc (v := (x4 + 1)) (lv' := [(4, .int (x4 + 1)), (3, .int (x3 ||| (1 <<< (x4 &&& 31)))), (0, .ref (aR 0)), (1, .int f1), (2, .int f2)]) hx hb dX7_setOf_38 hl (k := 4) rfl rfl (by decide) rfl (fun ls hl => ?_)
        refine lv_goto (tgt := 5) hx hb dX7_setOf_41 (by decide) ?_
        exact ih _ _ _ h _ _ _ hw (lv_sub hl [2, 3, 4, 1, 0] rfl) hk0
set_option maxRecDepth 100000 in
set_option maxHeartbeats 4000000 in
theorem c_X7_setOf (l : Launch) (E : EE) (aR : Nat → Nat) {v : V}  {p1 : Int32} {p2 : Int32} {post : Int32 → V → Prop} (h : s_X7_setOf v p1 p2 post) : KI l E yX7_setOf wsX7_setOf rmX7_setOf [.ref (aR 0), .int p1, .int p2] (cR E aR v) post (fun u => cR E aR u) := by
  unfold s_X7_setOf at h
  refine KI.go (cc := cX7_setOf) (ret := (some .int)) (maxL := 5) (own := RX7) (by decide) rfl (Nat.le_of_ble_eq_true rfl) rfl (fun p e s m below meth c A ls C0 hw hl => ?_)
  have hx := C0.1
  have hb := C0.2.1
  have hiX7 : ∀ w ∈ wsX70, w ∈ wsX7_setOf := fun w h => List.mem_cons_of_mem _ (List.mem_append_right _ h)
  replace hl : lv_has ls 5 [(0, .ref (aR 0)), (1, .int p1), (2, .int p2)] := hl
  refine lv_iconst (v := 0) hx hb dX7_setOf_0 (by decide) ?_
  refine lv_istore_n (lv' := [(3, .int 0), (0, .ref (aR 0)), (1, .int p1), (2, .int p2)]) hx hb dX7_setOf_1 rfl hl (by decide) rfl (fun ls hl => ?_)
  refine lv_iconst (v := 0) hx hb dX7_setOf_2 (by decide) ?_
  refine lv_istore (lv' := [(4, .int 0), (3, .int 0), (0, .ref (aR 0)), (1, .int p1), (2, .int p2)]) hx hb dX7_setOf_3 hl (by decide) rfl (fun ls hl => ?_)
  obtain ⟨n_5, h⟩ := h
  refine w_X7_setOf_5 C0 _ _ _ _ h _ _ _ hw (lv_sub hl [2, 3, 4, 1, 0] rfl) ?_
  · intro x3_6 x4_7 v_8 H locs ls h hw hl
    refine lv_iload_n hx hb dX7_setOf_44 rfl (lv_at hl 3 rfl) ?_
    exact x_ret C0 v_8 hw h dX7_setOf_45

abbrev rmX7_worth : Room := { frames := 3, cells := 0, slots := 0, locals := 72 }
set_option maxRecDepth 100000 in
set_option maxHeartbeats 4000000 in
theorem w_X7_worth_4 {p : Program} {l : Launch} {e : Env} {s : State} {m : MethodId} {below : List Frame} {meth : Method} {c : Code} {E : EE} {A : Nat → Prop} {aR : Nat → Nat} {args : Array Value} (C0 : Cx E p s m args meth c A cX7_worth 5 RX7 wsX7_worth (some .int)) {post : Int32 → V → Prop}  {f1 : Int32} {k0 : Int32 → Int32 → V → Prop} : ∀ (n : Nat) (x2 : Int32) (x3 : Int32) (v : V), sl_X7_worth_4 post f1 k0 n x2 x3 v → ∀ (H : Heap) (locs : List Loc) (ls : Array Slot), mw E A s.heap H locs (cR E aR v) → lv_has ls 5 [(0, .ref (aR 0)), (1, .int f1), (2, .int x2), (3, .int x3)] → (∀ (x2 : Int32) (x3 : Int32) (v : V) (H : Heap) (locs : List Loc) (ls : Array Slot), k0 x2 x3 v → mw E A s.heap H locs (cR E aR v) → lv_has ls 5 [(0, .ref (aR 0)), (1, .int f1), (2, .int x2), (3, .int x3)] → W p l e rmX7_worth s m args below meth c H locs 0 0 (qI E A post (fun u => cR E aR u) below args s) (F0 m 51 ls [])) → W p l e rmX7_worth s m args below meth c H locs 0 0 (qI E A post (fun u => cR E aR u) below args s) (F0 m 4 ls []) := by
  have hx := C0.1
  have hb := C0.2.1
  have hiX7 : ∀ w ∈ wsX70, w ∈ wsX7_worth := fun w h => List.mem_cons_of_mem _ (List.mem_append_right _ h)
  intro n
  induction n with
  | zero => intro x2 x3 v h; exact False.elim h
  | succ n ih =>
    intro x2 x3 v h H locs ls hw hl hk0
    replace h : sb_X7_worth_4 post f1 k0 (sl_X7_worth_4 post f1 k0 n) x2 x3 v := h
    unfold sb_X7_worth_4 at h
    refine lv_iload_n hx hb dX7_worth_4 rfl (lv_at hl 3 rfl) ?_
    refine lv_aload_n hx hb dX7_worth_5 rfl (lv_at hl 0 rfl) ?_
    refine x_get C0 hw 7 hiX7 rfl 0 rfl 0 (by decide) 1 rfl rfl dX7_worth_6 ?_
    refine lv_iconst (v := 1) hx hb dX7_worth_9 (by decide) ?_
    refine x_ald C0 hw 1 rfl (vp_in_nI (n := 1) (by decide) (by decide)) dX7_worth_10 ?_
    refine lv_icmp_ge (tgt := 51) hx hb dX7_worth_11 (by decide) (fun c_7 => ?_) (fun c_7 => ?_)
    · replace h := h.1 c_7
      exact hk0 _ _ _ _ _ _ h hw (lv_sub hl [0, 1, 2, 3] rfl)
    · replace h := h.2 c_7
      refine lv_aload_n hx hb dX7_worth_14 rfl (lv_at hl 0 rfl) ?_
      refine lv_iload_n hx hb dX7_worth_15 rfl (lv_at hl 3 rfl) ?_
      refine x_cV (As := [.int x3]) (rest := []) (F := []) C0 hw (p_nil _) hl.1 0 7 rfl rfl (c_X7_price l E aR h) 1 gX7_worth_X7_price rfl ⟨rfl, rfl⟩ (by decide +kernel) ⟨Nat.le_of_ble_eq_true rfl, Nat.le_of_ble_eq_true rfl⟩ rfl rfl (Nat.le_of_ble_eq_true rfl) dX7_worth_16 ⟨Nat.zero_le _, Nat.zero_le _⟩ (fun r_1 v_2 H locs h (hw : mw E A s.heap H locs (cR E aR v_2)) => ?_)
      refine lv_istore (lv' := [(4, .int r_1), (0, .ref (aR 0)), (1, .int f1), (2, .int x2), (3, .int x3)]) hx hb dX7_worth_19 hl (by decide) rfl (fun ls hl => ?_)
      refine lv_iload_n hx hb dX7_worth_21 rfl (lv_at hl 3 rfl) ?_
      refine lv_aload_n hx hb dX7_worth_22 rfl (lv_at hl 1 rfl) ?_
      refine lv_iload_n hx hb dX7_worth_23 rfl (lv_at hl 4 rfl) ?_
      refine lv_iconst (v := 3) hx hb dX7_worth_24 (by decide) ?_
      refine x_cV (As := [.int x3, .int 3]) (rest := [.int x2]) (F := []) C0 hw (p_nil _) hl.1 0 7 rfl rfl (c_X7_ofStone l E aR h) 2 gX7_worth_X7_ofStone rfl ⟨rfl, rfl⟩ (by decide +kernel) ⟨Nat.le_of_ble_eq_true rfl, Nat.le_of_ble_eq_true rfl⟩ rfl rfl (Nat.le_of_ble_eq_true rfl) dX7_worth_25 ⟨Nat.zero_le _, Nat.zero_le _⟩ (fun r_3 v_4 H locs h (hw : mw E A s.heap H locs (cR E aR v_4)) => ?_)
      refine lv_iload_n hx hb dX7_worth_28 rfl (lv_at hl 2 rfl) ?_
      refine lv_icmp_ne (tgt := 42) hx hb dX7_worth_29 (by decide) (fun c_6 => ?_) (fun c_6 => ?_)
      · replace h := h.1 c_6
        refine lv_iconst (v := 0) hx hb dX7_worth_42 (by decide) ?_
        refine lv_iadd hx hb dX7_worth_43 ?_
        refine lv_istore_n (lv' := [(2, .int (x2 + 0)), (4, .int r_1), (0, .ref (aR 0)), (1, .int f1), (3, .int x3)]) hx hb dX7_worth_44 rfl hl (by decide) rfl (fun ls hl => ?_)
        refine lv_iinc (v := (x3 + 1)) (lv' := [(3, .int (x3 + 1)), (2, .int (x2 + 0)), (4, .int r_1), (0, .ref (aR 0)), (1, .int f1)]) hx hb dX7_worth_45 hl (k := 4) rfl rfl (by decide) rfl (fun ls hl => ?_)
        refine lv_goto (tgt := 4) hx hb dX7_worth_48 (by decide) ?_
        exact ih _ _ _ h _ _ _ hw (lv_sub hl [3, 4, 1, 0] rfl) hk0
      · replace h := h.2 c_6
        refine lv_iload hx hb dX7_worth_32 (lv_at hl 0 rfl) ?_
        refine lv_if_le (tgt := 42) hx hb dX7_worth_34 (by decide) (fun c_5 => ?_) (fun c_5 => ?_)
        · replace h := h.1 c_5
          refine lv_iconst (v := 0) hx hb dX7_worth_42 (by decide) ?_
          refine lv_iadd hx hb dX7_worth_43 ?_
          refine lv_istore_n (lv' := [(2, .int (x2 + 0)), (4, .int r_1), (0, .ref (aR 0)), (1, .int f1), (3, .int x3)]) hx hb dX7_worth_44 rfl hl (by decide) rfl (fun ls hl => ?_)
          refine lv_iinc (v := (x3 + 1)) (lv' := [(3, .int (x3 + 1)), (2, .int (x2 + 0)), (4, .int r_1), (0, .ref (aR 0)), (1, .int f1)]) hx hb dX7_worth_45 hl (k := 4) rfl rfl (by decide) rfl (fun ls hl => ?_)
          refine lv_goto (tgt := 4) hx hb dX7_worth_48 (by decide) ?_
          exact ih _ _ _ h _ _ _ hw (lv_sub hl [3, 4, 1, 0] rfl) hk0
        · replace h := h.2 c_5
          refine lv_iload hx hb dX7_worth_37 (lv_at hl 0 rfl) ?_
          refine lv_goto (tgt := 43) hx hb dX7_worth_39 (by decide) ?_
          refine lv_iadd hx hb dX7_worth_43 ?_
          refine lv_istore_n (lv' := [(2, .int (x2 + r_1)), (4, .int r_1), (0, .ref (aR 0)), (1, .int f1), (3, .int x3)]) hx hb dX7_worth_44 rfl hl (by decide) rfl (fun ls hl => ?_)
          refine lv_iinc (v := (x3 + 1)) (lv' := [(3, .int (x3 + 1)), (2, .int (x2 + r_1)), (4, .int r_1), (0, .ref (aR 0)), (1, .int f1)]) hx hb dX7_worth_45 hl (k := 4) rfl rfl (by decide) rfl (fun ls hl => ?_)
          refine lv_goto (tgt := 4) hx hb dX7_worth_48 (by decide) ?_
          exact ih _ _ _ h _ _ _ hw (lv_sub hl [3, 4, 1, 0] rfl) hk0
set_option maxRecDepth 100000 in
set_option maxHeartbeats 4000000 in
theorem c_X7_worth (l : Launch) (E : EE) (aR : Nat → Nat) {v : V}  {p1 : Int32} {post : Int32 → V → Prop} (h : s_X7_worth v p1 post) : KI l E yX7_worth wsX7_worth rmX7_worth [.ref (aR 0), .int p1] (cR E aR v) post (fun u => cR E aR u) := by
  unfold s_X7_worth at h
  refine KI.go (cc := cX7_worth) (ret := (some .int)) (maxL := 5) (own := RX7) (by decide) rfl (Nat.le_of_ble_eq_true rfl) rfl (fun p e s m below meth c A ls C0 hw hl => ?_)
  have hx := C0.1
  have hb := C0.2.1
  have hiX7 : ∀ w ∈ wsX70, w ∈ wsX7_worth := fun w h => List.mem_cons_of_mem _ (List.mem_append_right _ h)
  replace hl : lv_has ls 5 [(0, .ref (aR 0)), (1, .int p1)] := hl
  refine lv_iconst (v := 0) hx hb dX7_worth_0 (by decide) ?_
  refine lv_istore_n (lv' := [(2, .int 0), (0, .ref (aR 0)), (1, .int p1)]) hx hb dX7_worth_1 rfl hl (by decide) rfl (fun ls hl => ?_)
  refine lv_iconst (v := 0) hx hb dX7_worth_2 (by decide) ?_
  refine lv_istore_n (lv' := [(3, .int 0), (2, .int 0), (0, .ref (aR 0)), (1, .int p1)]) hx hb dX7_worth_3 rfl hl (by decide) rfl (fun ls hl => ?_)
  obtain ⟨n_8, h⟩ := h
  refine w_X7_worth_4 C0 _ _ _ _ h _ _ _ hw (lv_sub hl [2, 3, 1, 0] rfl) ?_
  · intro x2_9 x3_10 v_11 H locs ls h hw hl
    refine lv_iload_n hx hb dX7_worth_51 rfl (lv_at hl 2 rfl) ?_
    exact x_ret C0 v_11 hw h dX7_worth_52

abbrev rmX7_askedBy : Room := { frames := 2, cells := 0, slots := 0, locals := 43 }
set_option maxRecDepth 100000 in
set_option maxHeartbeats 4000000 in
theorem w_X7_askedBy_5 {p : Program} {l : Launch} {e : Env} {s : State} {m : MethodId} {below : List Frame} {meth : Method} {c : Code} {E : EE} {A : Nat → Prop} {aR : Nat → Nat} {args : Array Value} (C0 : Cx E p s m args meth c A cX7_askedBy 5 RX7 wsX7_askedBy (some .int)) {post : Int32 → V → Prop}  {f1 : Int32} {f2 : Int32} {k0 : Int32 → Int32 → V → Prop} : ∀ (n : Nat) (x3 : Int32) (x4 : Int32) (v : V), sl_X7_askedBy_5 post f1 f2 k0 n x3 x4 v → ∀ (H : Heap) (locs : List Loc) (ls : Array Slot), mw E A s.heap H locs (cR E aR v) → lv_has ls 5 [(0, .ref (aR 0)), (1, .int f1), (2, .int f2), (3, .int x3), (4, .int x4)] → (∀ (x3 : Int32) (x4 : Int32) (v : V) (H : Heap) (locs : List Loc) (ls : Array Slot), k0 x3 x4 v → mw E A s.heap H locs (cR E aR v) → lv_has ls 5 [(0, .ref (aR 0)), (1, .int f1), (2, .int f2), (3, .int x3), (4, .int x4)] → W p l e rmX7_askedBy s m args below meth c H locs 0 0 (qI E A post (fun u => cR E aR u) below args s) (F0 m 62 ls [])) → W p l e rmX7_askedBy s m args below meth c H locs 0 0 (qI E A post (fun u => cR E aR u) below args s) (F0 m 5 ls []) := by
  have hx := C0.1
  have hb := C0.2.1
  have hiX7 : ∀ w ∈ wsX70, w ∈ wsX7_askedBy := fun w h => List.mem_cons_of_mem _ (List.mem_append_right _ h)
  intro n
  induction n with
  | zero => intro x3 x4 v h; exact False.elim h
  | succ n ih =>
    intro x3 x4 v h H locs ls hw hl hk0
    replace h : sb_X7_askedBy_5 post f1 f2 k0 (sl_X7_askedBy_5 post f1 f2 k0 n) x3 x4 v := h
    unfold sb_X7_askedBy_5 at h
    refine lv_iload hx hb dX7_askedBy_5 (lv_at hl 4 rfl) ?_
    refine lv_aload_n hx hb dX7_askedBy_7 rfl (lv_at hl 0 rfl) ?_
    refine x_get C0 hw 7 hiX7 rfl 0 rfl 0 (by decide) 1 rfl rfl dX7_askedBy_8 ?_
    refine lv_iconst (v := 1) hx hb dX7_askedBy_11 (by decide) ?_
    refine x_ald C0 hw 1 rfl (vp_in_nI (n := 1) (by decide) (by decide)) dX7_askedBy_12 ?_
    refine lv_icmp_ge (tgt := 62) hx hb dX7_askedBy_13 (by decide) (fun c_11 => ?_) (fun c_11 => ?_)
    · replace h := h.1 c_11
      exact hk0 _ _ _ _ _ _ h hw (lv_sub hl [0, 1, 2, 3, 4] rfl)
    · replace h := h.2 c_11
      refine lv_iload_n hx hb dX7_askedBy_16 rfl (lv_at hl 3 rfl) ?_
      refine lv_aload_n hx hb dX7_askedBy_17 rfl (lv_at hl 0 rfl) ?_
      refine lv_iload hx hb dX7_askedBy_18 (lv_at hl 4 rfl) ?_
      refine x_cV (As := [.int x4]) (rest := [.int x3]) (F := []) C0 hw (p_nil _) hl.1 0 7 rfl rfl (c_X7_isOut l E aR h) 1 gX7_askedBy_X7_isOut rfl ⟨rfl, rfl⟩ (by decide +kernel) ⟨Nat.le_of_ble_eq_true rfl, Nat.le_of_ble_eq_true rfl⟩ rfl rfl (Nat.le_of_ble_eq_true rfl) dX7_askedBy_20 ⟨Nat.zero_le _, Nat.zero_le _⟩ (fun r_1 v_2 H locs h (hw : mw E A s.heap H locs (cR E aR v_2)) => ?_)
      refine lv_if_eq (tgt := 53) hx hb dX7_askedBy_23 (by decide) (fun c_10 => ?_) (fun c_10 => ?_)
      · replace h := h.1 c_10
        refine lv_iconst (v := 0) hx hb dX7_askedBy_53 (by decide) ?_
        refine lv_iadd hx hb dX7_askedBy_54 ?_
        refine lv_istore_n (lv' := [(3, .int (x3 + 0)), (0, .ref (aR 0)), (1, .int f1), (2, .int f2), (4, .int x4)]) hx hb dX7_askedBy_55 rfl hl (by decide) rfl (fun ls hl => ?_)
        refine lv_iinc (v := (x4 + 1)) (lv' := [(4, .int (x4 + 1)), (3, .int (x3 + 0)), (0, .ref (aR 0)), (1, .int f1), (2, .int f2)]) hx hb dX7_askedBy_56 hl (k := 4) rfl rfl (by decide) rfl (fun ls hl => ?_)
        refine lv_goto (tgt := 5) hx hb dX7_askedBy_59 (by decide) ?_
        exact ih _ _ _ h _ _ _ hw (lv_sub hl [2, 3, 4, 1, 0] rfl) hk0
      · replace h := h.2 c_10
        refine lv_aload_n hx hb dX7_askedBy_26 rfl (lv_at hl 0 rfl) ?_
        refine lv_aload_n hx hb dX7_askedBy_27 rfl (lv_at hl 0 rfl) ?_
        refine lv_iload hx hb dX7_askedBy_28 (lv_at hl 4 rfl) ?_
        refine lv_iconst (v := 5) hx hb dX7_askedBy_30 (by decide) ?_
        refine x_cV (As := [.int x4, .int 5]) (rest := [.ref (aR 0), .int x3]) (F := []) C0 hw (p_nil _) hl.1 0 7 rfl rfl (c_X7_ofStone l E aR h) 2 gX7_askedBy_X7_ofStone rfl ⟨rfl, rfl⟩ (by decide +kernel) ⟨Nat.le_of_ble_eq_true rfl, Nat.le_of_ble_eq_true rfl⟩ rfl rfl (Nat.le_of_ble_eq_true rfl) dX7_askedBy_31 ⟨Nat.zero_le _, Nat.zero_le _⟩ (fun r_3 v_4 H locs h (hw : mw E A s.heap H locs (cR E aR v_4)) => ?_)
        refine lv_iload_n hx hb dX7_askedBy_34 rfl (lv_at hl 2 rfl) ?_
        refine x_cV (As := [.int r_3, .int f2]) (rest := [.int x3]) (F := []) C0 hw (p_nil _) hl.1 0 7 rfl rfl (c_X7_ofMemo l E aR h) 2 gX7_askedBy_X7_ofMemo rfl ⟨rfl, rfl⟩ (by decide +kernel) ⟨Nat.le_of_ble_eq_true rfl, Nat.le_of_ble_eq_true rfl⟩ rfl rfl (Nat.le_of_ble_eq_true rfl) dX7_askedBy_35 ⟨Nat.zero_le _, Nat.zero_le _⟩ (fun r_5 v_6 H locs h (hw : mw E A s.heap H locs (cR E aR v_6)) => ?_)
        refine lv_iload_n hx hb dX7_askedBy_38 rfl (lv_at hl 1 rfl) ?_
        refine lv_icmp_ne (tgt := 53) hx hb dX7_askedBy_39 (by decide) (fun c_9 => ?_) (fun c_9 => ?_)
        · replace h := h.1 c_9
          refine lv_iconst (v := 0) hx hb dX7_askedBy_53 (by decide) ?_
          refine lv_iadd hx hb dX7_askedBy_54 ?_
          refine lv_istore_n (lv' := [(3, .int (x3 + 0)), (0, .ref (aR 0)), (1, .int f1), (2, .int f2), (4, .int x4)]) hx hb dX7_askedBy_55 rfl hl (by decide) rfl (fun ls hl => ?_)
          refine lv_iinc (v := (x4 + 1)) (lv' := [(4, .int (x4 + 1)), (3, .int (x3 + 0)), (0, .ref (aR 0)), (1, .int f1), (2, .int f2)]) hx hb dX7_askedBy_56 hl (k := 4) rfl rfl (by decide) rfl (fun ls hl => ?_)
          refine lv_goto (tgt := 5) hx hb dX7_askedBy_59 (by decide) ?_
          exact ih _ _ _ h _ _ _ hw (lv_sub hl [2, 3, 4, 1, 0] rfl) hk0
        · replace h := h.2 c_9
          refine lv_aload_n hx hb dX7_askedBy_42 rfl (lv_at hl 0 rfl) ?_
          refine lv_iload hx hb dX7_askedBy_43 (lv_at hl 4 rfl) ?_
          refine lv_bipush (v := 6) hx hb dX7_askedBy_45 (by decide) ?_
          refine x_cV (As := [.int x4, .int 6]) (rest := [.int x3]) (F := []) C0 hw (p_nil _) hl.1 0 7 rfl rfl (c_X7_ofStone l E aR h) 2 gX7_askedBy_X7_ofStone rfl ⟨rfl, rfl⟩ (by decide +kernel) ⟨Nat.le_of_ble_eq_true rfl, Nat.le_of_ble_eq_true rfl⟩ rfl rfl (Nat.le_of_ble_eq_true rfl) dX7_askedBy_47 ⟨Nat.zero_le _, Nat.zero_le _⟩ (fun r_7 v_8 H locs h (hw : mw E A s.heap H locs (cR E aR v_8)) => ?_)
          refine lv_goto (tgt := 54) hx hb dX7_askedBy_50 (by decide) ?_
          refine lv_iadd hx hb dX7_askedBy_54 ?_
          refine lv_istore_n (lv' := [(3, .int (x3 + r_7)), (0, .ref (aR 0)), (1, .int f1), (2, .int f2), (4, .int x4)]) hx hb dX7_askedBy_55 rfl hl (by decide) rfl (fun ls hl => ?_)
          refine lv_iinc (v := (x4 + 1)) (lv' := [(4, .int (x4 + 1)), (3, .int (x3 + r_7)), (0, .ref (aR 0)), (1, .int f1), (2, .int f2)]) hx hb dX7_askedBy_56 hl (k := 4) rfl rfl (by decide) rfl (fun ls hl => ?_)
          refine lv_goto (tgt := 5) hx hb dX7_askedBy_59 (by decide) ?_
          exact ih _ _ _ h _ _ _ hw (lv_sub hl [2, 3, 4, 1, 0] rfl) hk0
set_option maxRecDepth 100000 in
set_option maxHeartbeats 4000000 in
theorem c_X7_askedBy (l : Launch) (E : EE) (aR : Nat → Nat) {v : V}  {p1 : Int32} {p2 : Int32} {post : Int32 → V → Prop} (h : s_X7_askedBy v p1 p2 post) : KI l E yX7_askedBy wsX7_askedBy rmX7_askedBy [.ref (aR 0), .int p1, .int p2] (cR E aR v) post (fun u => cR E aR u) := by
  unfold s_X7_askedBy at h
  refine KI.go (cc := cX7_askedBy) (ret := (some .int)) (maxL := 5) (own := RX7) (by decide) rfl (Nat.le_of_ble_eq_true rfl) rfl (fun p e s m below meth c A ls C0 hw hl => ?_)
  have hx := C0.1
  have hb := C0.2.1
  have hiX7 : ∀ w ∈ wsX70, w ∈ wsX7_askedBy := fun w h => List.mem_cons_of_mem _ (List.mem_append_right _ h)
  replace hl : lv_has ls 5 [(0, .ref (aR 0)), (1, .int p1), (2, .int p2)] := hl
  refine lv_iconst (v := 0) hx hb dX7_askedBy_0 (by decide) ?_
  refine lv_istore_n (lv' := [(3, .int 0), (0, .ref (aR 0)), (1, .int p1), (2, .int p2)]) hx hb dX7_askedBy_1 rfl hl (by decide) rfl (fun ls hl => ?_)
  refine lv_iconst (v := 0) hx hb dX7_askedBy_2 (by decide) ?_
  refine lv_istore (lv' := [(4, .int 0), (3, .int 0), (0, .ref (aR 0)), (1, .int p1), (2, .int p2)]) hx hb dX7_askedBy_3 hl (by decide) rfl (fun ls hl => ?_)
  obtain ⟨n_12, h⟩ := h
  refine w_X7_askedBy_5 C0 _ _ _ _ h _ _ _ hw (lv_sub hl [2, 3, 4, 1, 0] rfl) ?_
  · intro x3_13 x4_14 v_15 H locs ls h hw hl
    refine lv_iload_n hx hb dX7_askedBy_62 rfl (lv_at hl 3 rfl) ?_
    exact x_ret C0 v_15 hw h dX7_askedBy_63

abbrev rmX7_dealerOf : Room := { frames := 4, cells := 0, slots := 0, locals := 96 }
set_option maxRecDepth 100000 in
set_option maxHeartbeats 4000000 in
theorem c_X7_dealerOf (l : Launch) (E : EE) (aR : Nat → Nat) {v : V}  {p1 : Int32} {p2 : Int32} {post : Int32 → V → Prop} (h : s_X7_dealerOf v p1 p2 post) : KI l E yX7_dealerOf wsX7_dealerOf rmX7_dealerOf [.ref (aR 0), .int p1, .int p2] (cR E aR v) post (fun u => cR E aR u) := by
  unfold s_X7_dealerOf at h
  refine KI.go (cc := cX7_dealerOf) (ret := (some .int)) (maxL := 3) (own := RX7) (by decide) rfl (Nat.le_of_ble_eq_true rfl) rfl (fun p e s m below meth c A ls C0 hw hl => ?_)
  have hx := C0.1
  have hb := C0.2.1
  have hiX7 : ∀ w ∈ wsX70, w ∈ wsX7_dealerOf := fun w h => List.mem_cons_of_mem _ (List.mem_append_right _ h)
  replace hl : lv_has ls 3 [(0, .ref (aR 0)), (1, .int p1), (2, .int p2)] := hl
  refine lv_aload_n hx hb dX7_dealerOf_0 rfl (lv_at hl 0 rfl) ?_
  refine lv_iload_n hx hb dX7_dealerOf_1 rfl (lv_at hl 1 rfl) ?_
  refine x_cV (As := [.int p1]) (rest := []) (F := []) C0 hw (p_nil _) hl.1 0 7 rfl rfl (c_X7_isDealer l E aR h) 1 gX7_dealerOf_X7_isDealer rfl ⟨rfl, rfl⟩ (by decide +kernel) ⟨Nat.le_of_ble_eq_true rfl, Nat.le_of_ble_eq_true rfl⟩ rfl rfl (Nat.le_of_ble_eq_true rfl) dX7_dealerOf_2 ⟨Nat.zero_le _, Nat.zero_le _⟩ (fun r_1 v_2 H locs h (hw : mw E A s.heap H locs (cR E aR v_2)) => ?_)
  refine lv_if_eq (tgt := 17) hx hb dX7_dealerOf_5 (by decide) (fun c_27 => ?_) (fun c_27 => ?_)
  · replace h := h.1 c_27
    refine x_ldc (v := (-10000001)) C0 1 rfl dX7_dealerOf_17 ?_
    exact x_ret C0 v_2 hw h dX7_dealerOf_19
  · replace h := h.2 c_27
    refine lv_iload_n hx hb dX7_dealerOf_8 rfl (lv_at hl 2 rfl) ?_
    refine lv_iconst (v := 0) hx hb dX7_dealerOf_9 (by decide) ?_
    refine lv_iconst (v := 5) hx hb dX7_dealerOf_10 (by decide) ?_
    refine x_cS (As := [.int p2, .int 0, .int 5]) (rest := []) (F := (cR E aR v_2)) C0 hw (p_non _) hl.1 (c_X7_in l E  h) 3 gX7_dealerOf_X7_in rfl ⟨rfl, rfl⟩ (by decide +kernel) ⟨Nat.le_of_ble_eq_true rfl, Nat.le_of_ble_eq_true rfl⟩ rfl rfl (Nat.le_of_ble_eq_true rfl) dX7_dealerOf_11 ⟨Nat.zero_le _, Nat.zero_le _⟩ (fun r_3 _u H locs h (hw : mw E A s.heap H locs (cR E aR v_2)) => ?_)
    refine lv_if_ne (tgt := 20) hx hb dX7_dealerOf_14 (by decide) (fun c_25 => ?_) (fun c_25 => ?_)
    · replace h := h.1 c_25
      refine lv_iload_n hx hb dX7_dealerOf_20 rfl (lv_at hl 2 rfl) ?_
      by_cases c_4 : p2 = 0
      · replace h := h.1 c_4
        refine x_tabIn (tgt := 52) C0 0 c_4 dX7_dealerOf_21 (by decide) (by decide) rfl (by decide) ?_
        refine x_ldc (v := 100000000) C0 2 rfl dX7_dealerOf_52 ?_
        refine lv_aload_n hx hb dX7_dealerOf_54 rfl (lv_at hl 0 rfl) ?_
        refine x_get C0 hw 7 hiX7 rfl 0 rfl 0 (by decide) 3 rfl rfl dX7_dealerOf_55 ?_
        refine lv_bipush (v := 8) hx hb dX7_dealerOf_58 (by decide) ?_
        refine lv_iload_n hx hb dX7_dealerOf_60 rfl (lv_at hl 1 rfl) ?_
        refine lv_iadd hx hb dX7_dealerOf_61 ?_
        obtain ⟨hin, h⟩ := h
        refine x_ald C0 hw 1 rfl hin dX7_dealerOf_62 ?_
        refine lv_iadd hx hb dX7_dealerOf_63 ?_
        exact x_ret C0 v_2 hw h dX7_dealerOf_64
      replace h := h.2
      by_cases c_10 : p2 = 1
      · replace h := h.1 c_10
        refine x_tabIn (tgt := 65) C0 1 c_10 dX7_dealerOf_21 (by decide) (by decide) rfl (by decide) ?_
        refine lv_aload_n hx hb dX7_dealerOf_65 rfl (lv_at hl 0 rfl) ?_
        refine lv_iload_n hx hb dX7_dealerOf_66 rfl (lv_at hl 1 rfl) ?_
        refine lv_iload_n hx hb dX7_dealerOf_67 rfl (lv_at hl 2 rfl) ?_
        refine lv_iconst (v := 1) hx hb dX7_dealerOf_68 (by decide) ?_
        refine lv_icmp_ne (tgt := 76) hx hb dX7_dealerOf_69 (by decide) (fun c_9 => ?_) (fun c_9 => ?_)
        · replace h := h.1 c_9
          refine lv_iconst (v := 4) hx hb dX7_dealerOf_76 (by decide) ?_
          refine x_cV (As := [.int p1, .int 4]) (rest := []) (F := []) C0 hw (p_nil _) hl.1 0 7 rfl rfl (c_X7_setOf l E aR h) 2 gX7_dealerOf_X7_setOf rfl ⟨rfl, rfl⟩ (by decide +kernel) ⟨Nat.le_of_ble_eq_true rfl, Nat.le_of_ble_eq_true rfl⟩ rfl rfl (Nat.le_of_ble_eq_true rfl) dX7_dealerOf_77 ⟨Nat.zero_le _, Nat.zero_le _⟩ (fun r_5 v_6 H locs h (hw : mw E A s.heap H locs (cR E aR v_6)) => ?_)
          exact x_ret C0 v_6 hw h dX7_dealerOf_80
        · replace h := h.2 c_9
          refine lv_iconst (v := 3) hx hb dX7_dealerOf_72 (by decide) ?_
          refine lv_goto (tgt := 77) hx hb dX7_dealerOf_73 (by decide) ?_
          refine x_cV (As := [.int p1, .int 3]) (rest := []) (F := []) C0 hw (p_nil _) hl.1 0 7 rfl rfl (c_X7_setOf l E aR h) 2 gX7_dealerOf_X7_setOf rfl ⟨rfl, rfl⟩ (by decide +kernel) ⟨Nat.le_of_ble_eq_true rfl, Nat.le_of_ble_eq_true rfl⟩ rfl rfl (Nat.le_of_ble_eq_true rfl) dX7_dealerOf_77 ⟨Nat.zero_le _, Nat.zero_le _⟩ (fun r_7 v_8 H locs h (hw : mw E A s.heap H locs (cR E aR v_8)) => ?_)
          exact x_ret C0 v_8 hw h dX7_dealerOf_80
      replace h := h.2
      by_cases c_16 : p2 = 2
      · replace h := h.1 c_16
        refine x_tabIn (tgt := 65) C0 2 c_16 dX7_dealerOf_21 (by decide) (by decide) rfl (by decide) ?_
        refine lv_aload_n hx hb dX7_dealerOf_65 rfl (lv_at hl 0 rfl) ?_
        refine lv_iload_n hx hb dX7_dealerOf_66 rfl (lv_at hl 1 rfl) ?_
        refine lv_iload_n hx hb dX7_dealerOf_67 rfl (lv_at hl 2 rfl) ?_
        refine lv_iconst (v := 1) hx hb dX7_dealerOf_68 (by decide) ?_
        refine lv_icmp_ne (tgt := 76) hx hb dX7_dealerOf_69 (by decide) (fun c_15 => ?_) (fun c_15 => ?_)
        · replace h := h.1 c_15
          refine lv_iconst (v := 4) hx hb dX7_dealerOf_76 (by decide) ?_
          refine x_cV (As := [.int p1, .int 4]) (rest := []) (F := []) C0 hw (p_nil _) hl.1 0 7 rfl rfl (c_X7_setOf l E aR h) 2 gX7_dealerOf_X7_setOf rfl ⟨rfl, rfl⟩ (by decide +kernel) ⟨Nat.le_of_ble_eq_true rfl, Nat.le_of_ble_eq_true rfl⟩ rfl rfl (Nat.le_of_ble_eq_true rfl) dX7_dealerOf_77 ⟨Nat.zero_le _, Nat.zero_le _⟩ (fun r_11 v_12 H locs h (hw : mw E A s.heap H locs (cR E aR v_12)) => ?_)
          exact x_ret C0 v_12 hw h dX7_dealerOf_80
        · replace h := h.2 c_15
          refine lv_iconst (v := 3) hx hb dX7_dealerOf_72 (by decide) ?_
          refine lv_goto (tgt := 77) hx hb dX7_dealerOf_73 (by decide) ?_
          refine x_cV (As := [.int p1, .int 3]) (rest := []) (F := []) C0 hw (p_nil _) hl.1 0 7 rfl rfl (c_X7_setOf l E aR h) 2 gX7_dealerOf_X7_setOf rfl ⟨rfl, rfl⟩ (by decide +kernel) ⟨Nat.le_of_ble_eq_true rfl, Nat.le_of_ble_eq_true rfl⟩ rfl rfl (Nat.le_of_ble_eq_true rfl) dX7_dealerOf_77 ⟨Nat.zero_le _, Nat.zero_le _⟩ (fun r_13 v_14 H locs h (hw : mw E A s.heap H locs (cR E aR v_14)) => ?_)
          exact x_ret C0 v_14 hw h dX7_dealerOf_80
      replace h := h.2
      by_cases c_19 : p2 = 3
      · replace h := h.1 c_19
        refine x_tabIn (tgt := 81) C0 3 c_19 dX7_dealerOf_21 (by decide) (by decide) rfl (by decide) ?_
        refine lv_aload_n hx hb dX7_dealerOf_81 rfl (lv_at hl 0 rfl) ?_
        refine lv_iload_n hx hb dX7_dealerOf_82 rfl (lv_at hl 1 rfl) ?_
        refine x_cV (As := [.int p1]) (rest := []) (F := []) C0 hw (p_nil _) hl.1 0 7 rfl rfl (c_X7_worth l E aR h) 1 gX7_dealerOf_X7_worth rfl ⟨rfl, rfl⟩ (by decide +kernel) ⟨Nat.le_of_ble_eq_true rfl, Nat.le_of_ble_eq_true rfl⟩ rfl rfl (Nat.le_of_ble_eq_true rfl) dX7_dealerOf_83 ⟨Nat.zero_le _, Nat.zero_le _⟩ (fun r_17 v_18 H locs h (hw : mw E A s.heap H locs (cR E aR v_18)) => ?_)
        exact x_ret C0 v_18 hw h dX7_dealerOf_86
      replace h := h.2
      have cD : p2.toInt < 0 ∨ 3 < p2.toInt := by
        have := ne_toInt (z := 0) (by decide) c_4
        have := ne_toInt (z := 1) (by decide) c_10
        have := ne_toInt (z := 2) (by decide) c_16
        have := ne_toInt (z := 3) (by decide) c_19
        omega
      replace h := h cD
      refine lv_tableOut (tgt := 87) hx hb dX7_dealerOf_21 cD (by decide) ?_
      refine lv_aload_n hx hb dX7_dealerOf_87 rfl (lv_at hl 0 rfl) ?_
      refine lv_iload_n hx hb dX7_dealerOf_88 rfl (lv_at hl 1 rfl) ?_
      refine lv_iload_n hx hb dX7_dealerOf_89 rfl (lv_at hl 2 rfl) ?_
      refine lv_iconst (v := 4) hx hb dX7_dealerOf_90 (by decide) ?_
      refine lv_icmp_ne (tgt := 98) hx hb dX7_dealerOf_91 (by decide) (fun c_24 => ?_) (fun c_24 => ?_)
      · replace h := h.1 c_24
        refine lv_iconst (v := 0) hx hb dX7_dealerOf_98 (by decide) ?_
        refine x_cV (As := [.int p1, .int 0]) (rest := []) (F := []) C0 hw (p_nil _) hl.1 0 7 rfl rfl (c_X7_askedBy l E aR h) 2 gX7_dealerOf_X7_askedBy rfl ⟨rfl, rfl⟩ (by decide +kernel) ⟨Nat.le_of_ble_eq_true rfl, Nat.le_of_ble_eq_true rfl⟩ rfl rfl (Nat.le_of_ble_eq_true rfl) dX7_dealerOf_99 ⟨Nat.zero_le _, Nat.zero_le _⟩ (fun r_20 v_21 H locs h (hw : mw E A s.heap H locs (cR E aR v_21)) => ?_)
        exact x_ret C0 v_21 hw h dX7_dealerOf_102
      · replace h := h.2 c_24
        refine lv_iconst (v := 1) hx hb dX7_dealerOf_94 (by decide) ?_
        refine lv_goto (tgt := 99) hx hb dX7_dealerOf_95 (by decide) ?_
        refine x_cV (As := [.int p1, .int 1]) (rest := []) (F := []) C0 hw (p_nil _) hl.1 0 7 rfl rfl (c_X7_askedBy l E aR h) 2 gX7_dealerOf_X7_askedBy rfl ⟨rfl, rfl⟩ (by decide +kernel) ⟨Nat.le_of_ble_eq_true rfl, Nat.le_of_ble_eq_true rfl⟩ rfl rfl (Nat.le_of_ble_eq_true rfl) dX7_dealerOf_99 ⟨Nat.zero_le _, Nat.zero_le _⟩ (fun r_22 v_23 H locs h (hw : mw E A s.heap H locs (cR E aR v_23)) => ?_)
        exact x_ret C0 v_23 hw h dX7_dealerOf_102
    · replace h := h.2 c_25
      refine x_ldc (v := (-10000001)) C0 1 rfl dX7_dealerOf_17 ?_
      exact x_ret C0 v_2 hw h dX7_dealerOf_19

abbrev rmX7_memoOf : Room := { frames := 2, cells := 0, slots := 0, locals := 45 }
set_option maxRecDepth 100000 in
set_option maxHeartbeats 4000000 in
theorem c_X7_memoOf (l : Launch) (E : EE) (aR : Nat → Nat) {v : V}  {p1 : Int32} {p2 : Int32} {post : Int32 → V → Prop} (h : s_X7_memoOf v p1 p2 post) : KI l E yX7_memoOf wsX7_memoOf rmX7_memoOf [.ref (aR 0), .int p1, .int p2] (cR E aR v) post (fun u => cR E aR u) := by
  unfold s_X7_memoOf at h
  refine KI.go (cc := cX7_memoOf) (ret := (some .int)) (maxL := 4) (own := RX7) (by decide) rfl (Nat.le_of_ble_eq_true rfl) rfl (fun p e s m below meth c A ls C0 hw hl => ?_)
  have hx := C0.1
  have hb := C0.2.1
  have hiX7 : ∀ w ∈ wsX70, w ∈ wsX7_memoOf := fun w h => List.mem_cons_of_mem _ (List.mem_append_right _ h)
  replace hl : lv_has ls 4 [(0, .ref (aR 0)), (1, .int p1), (2, .int p2)] := hl
  refine lv_iload_n hx hb dX7_memoOf_0 rfl (lv_at hl 1 rfl) ?_
  refine lv_iconst (v := 0) hx hb dX7_memoOf_1 (by decide) ?_
  refine lv_aload_n hx hb dX7_memoOf_2 rfl (lv_at hl 0 rfl) ?_
  refine x_get C0 hw 7 hiX7 rfl 0 rfl 0 (by decide) 1 rfl rfl dX7_memoOf_3 ?_
  refine lv_iconst (v := 2) hx hb dX7_memoOf_6 (by decide) ?_
  refine x_ald C0 hw 1 rfl (vp_in_nI (n := 2) (by decide) (by decide)) dX7_memoOf_7 ?_
  refine lv_iconst (v := 1) hx hb dX7_memoOf_8 (by decide) ?_
  refine lv_isub hx hb dX7_memoOf_9 ?_
  refine x_cS (As := [.int p1, .int 0, .int ((v 1 (tn 2)) - 1)]) (rest := []) (F := (cR E aR v)) C0 hw (p_non _) hl.1 (c_X7_in l E  h) 3 gX7_memoOf_X7_in rfl ⟨rfl, rfl⟩ (by decide +kernel) ⟨Nat.le_of_ble_eq_true rfl, Nat.le_of_ble_eq_true rfl⟩ rfl rfl (Nat.le_of_ble_eq_true rfl) dX7_memoOf_10 ⟨Nat.zero_le _, Nat.zero_le _⟩ (fun r_1 _u H locs h (hw : mw E A s.heap H locs (cR E aR v)) => ?_)
  refine lv_if_eq (tgt := 26) hx hb dX7_memoOf_13 (by decide) (fun c_24 => ?_) (fun c_24 => ?_)
  · replace h := h.1 c_24
    refine x_ldc (v := (-10000001)) C0 2 rfl dX7_memoOf_26 ?_
    exact x_ret C0 v hw h dX7_memoOf_28
  · replace h := h.2 c_24
    refine lv_iload_n hx hb dX7_memoOf_16 rfl (lv_at hl 2 rfl) ?_
    refine lv_iconst (v := 0) hx hb dX7_memoOf_17 (by decide) ?_
    refine lv_bipush (v := 7) hx hb dX7_memoOf_18 (by decide) ?_
    refine x_cS (As := [.int p2, .int 0, .int 7]) (rest := []) (F := (cR E aR v)) C0 hw (p_non _) hl.1 (c_X7_in l E  h) 3 gX7_memoOf_X7_in rfl ⟨rfl, rfl⟩ (by decide +kernel) ⟨Nat.le_of_ble_eq_true rfl, Nat.le_of_ble_eq_true rfl⟩ rfl rfl (Nat.le_of_ble_eq_true rfl) dX7_memoOf_20 ⟨Nat.zero_le _, Nat.zero_le _⟩ (fun r_2 _u H locs h (hw : mw E A s.heap H locs (cR E aR v)) => ?_)
    refine lv_if_ne (tgt := 29) hx hb dX7_memoOf_23 (by decide) (fun c_22 => ?_) (fun c_22 => ?_)
    · replace h := h.1 c_22
      refine lv_aload_n hx hb dX7_memoOf_29 rfl (lv_at hl 0 rfl) ?_
      refine lv_iload_n hx hb dX7_memoOf_30 rfl (lv_at hl 1 rfl) ?_
      refine lv_iconst (v := 2) hx hb dX7_memoOf_31 (by decide) ?_
      refine x_cV (As := [.int p1, .int 2]) (rest := []) (F := []) C0 hw (p_nil _) hl.1 0 7 rfl rfl (c_X7_ofMemo l E aR h) 2 gX7_memoOf_X7_ofMemo rfl ⟨rfl, rfl⟩ (by decide +kernel) ⟨Nat.le_of_ble_eq_true rfl, Nat.le_of_ble_eq_true rfl⟩ rfl rfl (Nat.le_of_ble_eq_true rfl) dX7_memoOf_32 ⟨Nat.zero_le _, Nat.zero_le _⟩ (fun r_3 v_4 H locs h (hw : mw E A s.heap H locs (cR E aR v_4)) => ?_)
      refine lv_aload_n hx hb dX7_memoOf_35 rfl (lv_at hl 0 rfl) ?_
      refine x_get C0 hw 7 hiX7 rfl 0 rfl 0 (by decide) 1 rfl rfl dX7_memoOf_36 ?_
      refine lv_iconst (v := 3) hx hb dX7_memoOf_39 (by decide) ?_
      refine x_ald C0 hw 1 rfl (vp_in_nI (n := 3) (by decide) (by decide)) dX7_memoOf_40 ?_
      refine lv_isub hx hb dX7_memoOf_41 ?_
      refine lv_istore_n (lv' := [(3, .int (r_3 - (v_4 1 (tn 3)))), (0, .ref (aR 0)), (1, .int p1), (2, .int p2)]) hx hb dX7_memoOf_42 rfl hl (by decide) rfl (fun ls hl => ?_)
      refine lv_iload_n hx hb dX7_memoOf_43 rfl (lv_at hl 3 rfl) ?_
      by_cases c_7 : p2 = 3
      · replace h := h.1 c_7
        refine x_tabIn (tgt := 80) C0 3 c_7 dX7_memoOf_44 (by decide) (by decide) rfl (by decide) ?_
        refine lv_aload_n hx hb dX7_memoOf_80 rfl (lv_at hl 1 rfl) ?_
        refine lv_iload_n hx hb dX7_memoOf_81 rfl (lv_at hl 2 rfl) ?_
        refine x_cV (As := [.int p1]) (rest := []) (F := []) C0 hw (p_nil _) hl.1 0 7 rfl rfl (c_X7_outBy l E aR h) 1 gX7_memoOf_X7_outBy rfl ⟨rfl, rfl⟩ (by decide +kernel) ⟨Nat.le_of_ble_eq_true rfl, Nat.le_of_ble_eq_true rfl⟩ rfl rfl (Nat.le_of_ble_eq_true rfl) dX7_memoOf_82 ⟨Nat.zero_le _, Nat.zero_le _⟩ (fun r_5 v_6 H locs h (hw : mw E A s.heap H locs (cR E aR v_6)) => ?_)
        exact x_ret C0 v_6 hw h dX7_memoOf_85
      replace h := h.2
      by_cases c_10 : p2 = 4
      · replace h := h.1 c_10
        refine x_tabIn (tgt := 86) C0 4 c_10 dX7_memoOf_44 (by decide) (by decide) rfl (by decide) ?_
        refine lv_aload_n hx hb dX7_memoOf_86 rfl (lv_at hl 1 rfl) ?_
        refine lv_iload_n hx hb dX7_memoOf_87 rfl (lv_at hl 2 rfl) ?_
        refine lv_iload_n hx hb dX7_memoOf_88 rfl (lv_at hl 3 rfl) ?_
        refine lv_iconst (v := 1) hx hb dX7_memoOf_89 (by decide) ?_
        refine lv_isub hx hb dX7_memoOf_90 ?_
        refine x_cV (As := [.int p1, .int (p2 - 1)]) (rest := []) (F := []) C0 hw (p_nil _) hl.1 0 7 rfl rfl (c_X7_ofMemo l E aR h) 2 gX7_memoOf_X7_ofMemo rfl ⟨rfl, rfl⟩ (by decide +kernel) ⟨Nat.le_of_ble_eq_true rfl, Nat.le_of_ble_eq_true rfl⟩ rfl rfl (Nat.le_of_ble_eq_true rfl) dX7_memoOf_91 ⟨Nat.zero_le _, Nat.zero_le _⟩ (fun r_8 v_9 H locs h (hw : mw E A s.heap H locs (cR E aR v_9)) => ?_)
        exact x_ret C0 v_9 hw h dX7_memoOf_94
      replace h := h.2
      by_cases c_13 : p2 = 5
      · replace h := h.1 c_13
        refine x_tabIn (tgt := 86) C0 5 c_13 dX7_memoOf_44 (by decide) (by decide) rfl (by decide) ?_
        refine lv_aload_n hx hb dX7_memoOf_86 rfl (lv_at hl 1 rfl) ?_
        refine lv_iload_n hx hb dX7_memoOf_87 rfl (lv_at hl 2 rfl) ?_
        refine lv_iload_n hx hb dX7_memoOf_88 rfl (lv_at hl 3 rfl) ?_
        refine lv_iconst (v := 1) hx hb dX7_memoOf_89 (by decide) ?_
        refine lv_isub hx hb dX7_memoOf_90 ?_
        refine x_cV (As := [.int p1, .int (p2 - 1)]) (rest := []) (F := []) C0 hw (p_nil _) hl.1 0 7 rfl rfl (c_X7_ofMemo l E aR h) 2 gX7_memoOf_X7_ofMemo rfl ⟨rfl, rfl⟩ (by decide +kernel) ⟨Nat.le_of_ble_eq_true rfl, Nat.le_of_ble_eq_true rfl⟩ rfl rfl (Nat.le_of_ble_eq_true rfl) dX7_memoOf_91 ⟨Nat.zero_le _, Nat.zero_le _⟩ (fun r_11 v_12 H locs h (hw : mw E A s.heap H locs (cR E aR v_12)) => ?_)
        exact x_ret C0 v_12 hw h dX7_memoOf_94
      replace h := h.2
      by_cases c_17 : p2 = 6
      · replace h := h.1 c_17
        refine x_tabIn (tgt := 95) C0 6 c_17 dX7_memoOf_44 (by decide) (by decide) rfl (by decide) ?_
        refine lv_aload_n hx hb dX7_memoOf_95 rfl (lv_at hl 1 rfl) ?_
        refine lv_iload_n hx hb dX7_memoOf_96 rfl (lv_at hl 2 rfl) ?_
        refine x_cV (As := [.int p1]) (rest := []) (F := []) C0 hw (p_nil _) hl.1 0 7 rfl rfl (c_X7_outBy l E aR h) 1 gX7_memoOf_X7_outBy rfl ⟨rfl, rfl⟩ (by decide +kernel) ⟨Nat.le_of_ble_eq_true rfl, Nat.le_of_ble_eq_true rfl⟩ rfl rfl (Nat.le_of_ble_eq_true rfl) dX7_memoOf_97 ⟨Nat.zero_le _, Nat.zero_le _⟩ (fun r_14 v_15 H locs h (hw : mw E A s.heap H locs (cR E aR v_15)) => ?_)
        refine lv_if_ne (tgt := 107) hx hb dX7_memoOf_100 (by decide) (fun c_16 => ?_) (fun c_16 => ?_)
        · replace h := h.1 c_16
          refine lv_iconst (v := 1) hx hb dX7_memoOf_107 (by decide) ?_
          exact x_ret C0 v_15 hw h dX7_memoOf_108
        · replace h := h.2 c_16
          refine lv_iconst (v := 0) hx hb dX7_memoOf_103 (by decide) ?_
          refine lv_goto (tgt := 108) hx hb dX7_memoOf_104 (by decide) ?_
          exact x_ret C0 v_15 hw h dX7_memoOf_108
      replace h := h.2
      by_cases c_19 : p2 = 7
      · replace h := h.1 c_19
        refine x_tabIn (tgt := 109) C0 7 c_19 dX7_memoOf_44 (by decide) (by decide) rfl (by decide) ?_
        refine lv_iload_n hx hb dX7_memoOf_109 rfl (lv_at hl 0 rfl) ?_
        refine lv_if_ge (tgt := 117) hx hb dX7_memoOf_110 (by decide) (fun c_18 => ?_) (fun c_18 => ?_)
        · replace h := h.1 c_18
          refine lv_iload_n hx hb dX7_memoOf_117 rfl (lv_at hl 0 rfl) ?_
          exact x_ret C0 v_4 hw h dX7_memoOf_118
        · replace h := h.2 c_18
          refine lv_iconst (v := 0) hx hb dX7_memoOf_113 (by decide) ?_
          refine lv_goto (tgt := 118) hx hb dX7_memoOf_114 (by decide) ?_
          exact x_ret C0 v_4 hw h dX7_memoOf_118
      replace h := h.2
      have cD : p2.toInt < 3 ∨ 7 < p2.toInt := by
        have := ne_toInt (z := 3) (by decide) c_7
        have := ne_toInt (z := 4) (by decide) c_10
        have := ne_toInt (z := 5) (by decide) c_13
        have := ne_toInt (z := 6) (by decide) c_17
        have := ne_toInt (z := 7) (by decide) c_19
        omega
      replace h := h cD
      refine lv_tableOut (tgt := 119) hx hb dX7_memoOf_44 cD (by decide) ?_
      refine lv_aload_n hx hb dX7_memoOf_119 rfl (lv_at hl 1 rfl) ?_
      refine lv_iload_n hx hb dX7_memoOf_120 rfl (lv_at hl 2 rfl) ?_
      refine lv_iload_n hx hb dX7_memoOf_121 rfl (lv_at hl 3 rfl) ?_
      refine x_cV (As := [.int p1, .int p2]) (rest := []) (F := []) C0 hw (p_nil _) hl.1 0 7 rfl rfl (c_X7_ofMemo l E aR h) 2 gX7_memoOf_X7_ofMemo rfl ⟨rfl, rfl⟩ (by decide +kernel) ⟨Nat.le_of_ble_eq_true rfl, Nat.le_of_ble_eq_true rfl⟩ rfl rfl (Nat.le_of_ble_eq_true rfl) dX7_memoOf_122 ⟨Nat.zero_le _, Nat.zero_le _⟩ (fun r_20 v_21 H locs h (hw : mw E A s.heap H locs (cR E aR v_21)) => ?_)
      exact x_ret C0 v_21 hw h dX7_memoOf_125
    · replace h := h.2 c_22
      refine x_ldc (v := (-10000001)) C0 2 rfl dX7_memoOf_26 ?_
      exact x_ret C0 v hw h dX7_memoOf_28

abbrev rmX7_rateOf : Room := { frames := 2, cells := 0, slots := 0, locals := 50 }
set_option maxRecDepth 100000 in
set_option maxHeartbeats 4000000 in
theorem c_X7_rateOf (l : Launch) (E : EE) (aR : Nat → Nat) {v : V}  {p1 : Int32} {p2 : Int32} {p3 : Int32} {p4 : Int32} {post : Int32 → V → Prop} (h : s_X7_rateOf v p1 p2 p3 p4 post) : KI l E yX7_rateOf wsX7_rateOf rmX7_rateOf [.ref (aR 0), .int p1, .int p2, .int p3, .int p4] (cR E aR v) post (fun u => cR E aR u) := by
  unfold s_X7_rateOf at h
  refine KI.go (cc := cX7_rateOf) (ret := (some .int)) (maxL := 6) (own := RX7) (by decide) rfl (Nat.le_of_ble_eq_true rfl) rfl (fun p e s m below meth c A ls C0 hw hl => ?_)
  have hx := C0.1
  have hb := C0.2.1
  have hiX7 : ∀ w ∈ wsX70, w ∈ wsX7_rateOf := fun w h => List.mem_cons_of_mem _ (List.mem_append_right _ h)
  replace hl : lv_has ls 6 [(0, .ref (aR 0)), (1, .int p1), (2, .int p2), (3, .int p3), (4, .int p4)] := hl
  refine lv_iload_n hx hb dX7_rateOf_0 rfl (lv_at hl 1 rfl) ?_
  refine lv_iconst (v := 0) hx hb dX7_rateOf_1 (by decide) ?_
  refine lv_iconst (v := 4) hx hb dX7_rateOf_2 (by decide) ?_
  refine x_cS (As := [.int p1, .int 0, .int 4]) (rest := []) (F := (cR E aR v)) C0 hw (p_non _) hl.1 (c_X7_in l E  h) 3 gX7_rateOf_X7_in rfl ⟨rfl, rfl⟩ (by decide +kernel) ⟨Nat.le_of_ble_eq_true rfl, Nat.le_of_ble_eq_true rfl⟩ rfl rfl (Nat.le_of_ble_eq_true rfl) dX7_rateOf_3 ⟨Nat.zero_le _, Nat.zero_le _⟩ (fun r_1 _u H locs h (hw : mw E A s.heap H locs (cR E aR v)) => ?_)
  refine lv_if_eq (tgt := 27) hx hb dX7_rateOf_6 (by decide) (fun c_15 => ?_) (fun c_15 => ?_)
  · replace h := h.1 c_15
    refine x_ldc (v := (-10000001)) C0 1 rfl dX7_rateOf_27 ?_
    exact x_ret C0 v hw h dX7_rateOf_29
  · replace h := h.2 c_15
    refine lv_iload_n hx hb dX7_rateOf_9 rfl (lv_at hl 2 rfl) ?_
    refine lv_iload_n hx hb dX7_rateOf_10 rfl (lv_at hl 3 rfl) ?_
    refine x_cS (As := [.int p2, .int p3]) (rest := []) (F := (cR E aR v)) C0 hw (p_non _) hl.1 (c_X7_isGrade l E  h) 2 gX7_rateOf_X7_isGrade rfl ⟨rfl, rfl⟩ (by decide +kernel) ⟨Nat.le_of_ble_eq_true rfl, Nat.le_of_ble_eq_true rfl⟩ rfl rfl (Nat.le_of_ble_eq_true rfl) dX7_rateOf_11 ⟨Nat.zero_le _, Nat.zero_le _⟩ (fun r_2 _u H locs h (hw : mw E A s.heap H locs (cR E aR v)) => ?_)
    refine lv_if_eq (tgt := 27) hx hb dX7_rateOf_14 (by decide) (fun c_13 => ?_) (fun c_13 => ?_)
    · replace h := h.1 c_13
      refine x_ldc (v := (-10000001)) C0 1 rfl dX7_rateOf_27 ?_
      exact x_ret C0 v hw h dX7_rateOf_29
    · replace h := h.2 c_13
      refine lv_iload hx hb dX7_rateOf_17 (lv_at hl 4 rfl) ?_
      refine lv_iconst (v := 0) hx hb dX7_rateOf_19 (by decide) ?_
      refine lv_iconst (v := 1) hx hb dX7_rateOf_20 (by decide) ?_
      refine x_cS (As := [.int p4, .int 0, .int 1]) (rest := []) (F := (cR E aR v)) C0 hw (p_non _) hl.1 (c_X7_in l E  h) 3 gX7_rateOf_X7_in rfl ⟨rfl, rfl⟩ (by decide +kernel) ⟨Nat.le_of_ble_eq_true rfl, Nat.le_of_ble_eq_true rfl⟩ rfl rfl (Nat.le_of_ble_eq_true rfl) dX7_rateOf_21 ⟨Nat.zero_le _, Nat.zero_le _⟩ (fun r_3 _u H locs h (hw : mw E A s.heap H locs (cR E aR v)) => ?_)
      refine lv_if_ne (tgt := 30) hx hb dX7_rateOf_24 (by decide) (fun c_11 => ?_) (fun c_11 => ?_)
      · replace h := h.1 c_11
        refine lv_iload hx hb dX7_rateOf_30 (lv_at hl 4 rfl) ?_
        refine lv_iconst (v := 1) hx hb dX7_rateOf_32 (by decide) ?_
        refine lv_icmp_ne (tgt := 50) hx hb dX7_rateOf_33 (by decide) (fun c_10 => ?_) (fun c_10 => ?_)
        · replace h := h.1 c_10
          refine lv_aload_n hx hb dX7_rateOf_50 rfl (lv_at hl 0 rfl) ?_
          refine lv_iload_n hx hb dX7_rateOf_51 rfl (lv_at hl 1 rfl) ?_
          refine lv_iload_n hx hb dX7_rateOf_52 rfl (lv_at hl 2 rfl) ?_
          refine lv_iload_n hx hb dX7_rateOf_53 rfl (lv_at hl 3 rfl) ?_
          refine x_cV (As := [.int p1, .int p2, .int p3]) (rest := []) (F := []) C0 hw (p_nil _) hl.1 0 7 rfl rfl (c_X7_rateFor l E aR h) 3 gX7_rateOf_X7_rateFor rfl ⟨rfl, rfl⟩ (by decide +kernel) ⟨Nat.le_of_ble_eq_true rfl, Nat.le_of_ble_eq_true rfl⟩ rfl rfl (Nat.le_of_ble_eq_true rfl) dX7_rateOf_54 ⟨Nat.zero_le _, Nat.zero_le _⟩ (fun r_4 v_5 H locs h (hw : mw E A s.heap H locs (cR E aR v_5)) => ?_)
          refine lv_istore (lv' := [(5, .int r_4), (0, .ref (aR 0)), (1, .int p1), (2, .int p2), (3, .int p3), (4, .int p4)]) hx hb dX7_rateOf_57 hl (by decide) rfl (fun ls hl => ?_)
          refine lv_iload hx hb dX7_rateOf_59 (lv_at hl 0 rfl) ?_
          refine lv_if_ne (tgt := 69) hx hb dX7_rateOf_61 (by decide) (fun c_6 => ?_) (fun c_6 => ?_)
          · replace h := h.1 c_6
            refine lv_iload hx hb dX7_rateOf_69 (lv_at hl 0 rfl) ?_
            exact x_ret C0 v_5 hw h dX7_rateOf_71
          · replace h := h.2 c_6
            refine x_ldc (v := (-10000004)) C0 3 rfl dX7_rateOf_64 ?_
            refine lv_goto (tgt := 71) hx hb dX7_rateOf_66 (by decide) ?_
            exact x_ret C0 v_5 hw h dX7_rateOf_71
        · replace h := h.2 c_10
          refine lv_aload_n hx hb dX7_rateOf_36 rfl (lv_at hl 0 rfl) ?_
          refine x_get C0 hw 7 hiX7 rfl 0 rfl 0 (by decide) 2 rfl rfl dX7_rateOf_37 ?_
          refine lv_iload_n hx hb dX7_rateOf_40 rfl (lv_at hl 1 rfl) ?_
          refine lv_iload_n hx hb dX7_rateOf_41 rfl (lv_at hl 2 rfl) ?_
          refine lv_iload_n hx hb dX7_rateOf_42 rfl (lv_at hl 3 rfl) ?_
          refine x_cS (As := [.int p1, .int p2, .int p3]) (rest := [.ref (aR 1)]) (F := (cR E aR v)) C0 hw (p_non _) hl.1 (c_X7_rateAt l E  h) 3 gX7_rateOf_X7_rateAt rfl ⟨rfl, rfl⟩ (by decide +kernel) ⟨Nat.le_of_ble_eq_true rfl, Nat.le_of_ble_eq_true rfl⟩ rfl rfl (Nat.le_of_ble_eq_true rfl) dX7_rateOf_43 ⟨Nat.zero_le _, Nat.zero_le _⟩ (fun r_7 _u H locs h (hw : mw E A s.heap H locs (cR E aR v)) => ?_)
          obtain ⟨hin, h⟩ := h
          refine x_ald C0 hw 1 rfl hin dX7_rateOf_46 ?_
          refine lv_goto (tgt := 57) hx hb dX7_rateOf_47 (by decide) ?_
          refine lv_istore (lv' := [(5, .int (v 1 (tn r_7))), (0, .ref (aR 0)), (1, .int p1), (2, .int p2), (3, .int p3), (4, .int p4)]) hx hb dX7_rateOf_57 hl (by decide) rfl (fun ls hl => ?_)
          refine lv_iload hx hb dX7_rateOf_59 (lv_at hl 0 rfl) ?_
          refine lv_if_ne (tgt := 69) hx hb dX7_rateOf_61 (by decide) (fun c_8 => ?_) (fun c_8 => ?_)
          · replace h := h.1 c_8
            refine lv_iload hx hb dX7_rateOf_69 (lv_at hl 0 rfl) ?_
            exact x_ret C0 v hw h dX7_rateOf_71
          · replace h := h.2 c_8
            refine x_ldc (v := (-10000004)) C0 3 rfl dX7_rateOf_64 ?_
            refine lv_goto (tgt := 71) hx hb dX7_rateOf_66 (by decide) ?_
            exact x_ret C0 v hw h dX7_rateOf_71
      · replace h := h.2 c_11
        refine x_ldc (v := (-10000001)) C0 1 rfl dX7_rateOf_27 ?_
        exact x_ret C0 v hw h dX7_rateOf_29

abbrev rmX7_stonesOf : Room := { frames := 2, cells := 0, slots := 0, locals := 43 }
set_option maxRecDepth 100000 in
set_option maxHeartbeats 4000000 in
theorem w_X7_stonesOf_4 {p : Program} {l : Launch} {e : Env} {s : State} {m : MethodId} {below : List Frame} {meth : Method} {c : Code} {E : EE} {A : Nat → Prop} {aR : Nat → Nat} {args : Array Value} (C0 : Cx E p s m args meth c A cX7_stonesOf 4 RX7 wsX7_stonesOf (some .int)) {post : Int32 → V → Prop}  {f1 : Int32} {k0 : Int32 → Int32 → V → Prop} : ∀ (n : Nat) (x2 : Int32) (x3 : Int32) (v : V), sl_X7_stonesOf_4 post f1 k0 n x2 x3 v → ∀ (H : Heap) (locs : List Loc) (ls : Array Slot), mw E A s.heap H locs (cR E aR v) → lv_has ls 4 [(0, .ref (aR 0)), (1, .int f1), (2, .int x2), (3, .int x3)] → (∀ (x2 : Int32) (x3 : Int32) (v : V) (H : Heap) (locs : List Loc) (ls : Array Slot), k0 x2 x3 v → mw E A s.heap H locs (cR E aR v) → lv_has ls 4 [(0, .ref (aR 0)), (1, .int f1), (2, .int x2), (3, .int x3)] → W p l e rmX7_stonesOf s m args below meth c H locs 0 0 (qI E A post (fun u => cR E aR u) below args s) (F0 m 68 ls [])) → W p l e rmX7_stonesOf s m args below meth c H locs 0 0 (qI E A post (fun u => cR E aR u) below args s) (F0 m 4 ls []) := by
  have hx := C0.1
  have hb := C0.2.1
  have hiX7 : ∀ w ∈ wsX70, w ∈ wsX7_stonesOf := fun w h => List.mem_cons_of_mem _ (List.mem_append_right _ h)
  intro n
  induction n with
  | zero => intro x2 x3 v h; exact False.elim h
  | succ n ih =>
    intro x2 x3 v h H locs ls hw hl hk0
    replace h : sb_X7_stonesOf_4 post f1 k0 (sl_X7_stonesOf_4 post f1 k0 n) x2 x3 v := h
    unfold sb_X7_stonesOf_4 at h
    refine lv_iload_n hx hb dX7_stonesOf_4 rfl (lv_at hl 3 rfl) ?_
    refine lv_aload_n hx hb dX7_stonesOf_5 rfl (lv_at hl 0 rfl) ?_
    refine x_get C0 hw 7 hiX7 rfl 0 rfl 0 (by decide) 1 rfl rfl dX7_stonesOf_6 ?_
    refine lv_iconst (v := 1) hx hb dX7_stonesOf_9 (by decide) ?_
    refine x_ald C0 hw 1 rfl (vp_in_nI (n := 1) (by decide) (by decide)) dX7_stonesOf_10 ?_
    refine lv_icmp_ge (tgt := 68) hx hb dX7_stonesOf_11 (by decide) (fun c_11 => ?_) (fun c_11 => ?_)
    · replace h := h.1 c_11
      exact hk0 _ _ _ _ _ _ h hw (lv_sub hl [0, 1, 2, 3] rfl)
    · replace h := h.2 c_11
      refine lv_iload_n hx hb dX7_stonesOf_14 rfl (lv_at hl 2 rfl) ?_
      refine lv_iload_n hx hb dX7_stonesOf_15 rfl (lv_at hl 1 rfl) ?_
      refine lv_bipush (v := 9) hx hb dX7_stonesOf_16 (by decide) ?_
      refine lv_icmp_ne (tgt := 31) hx hb dX7_stonesOf_18 (by decide) (fun c_10 => ?_) (fun c_10 => ?_)
      · replace h := h.1 c_10
        refine lv_iload_n hx hb dX7_stonesOf_31 rfl (lv_at hl 1 rfl) ?_
        refine lv_iconst (v := 2) hx hb dX7_stonesOf_32 (by decide) ?_
        refine lv_icmp_ne (tgt := 47) hx hb dX7_stonesOf_33 (by decide) (fun c_7 => ?_) (fun c_7 => ?_)
        · replace h := h.1 c_7
          refine lv_aload_n hx hb dX7_stonesOf_47 rfl (lv_at hl 0 rfl) ?_
          refine lv_iload_n hx hb dX7_stonesOf_48 rfl (lv_at hl 3 rfl) ?_
          refine x_cV (As := [.int x3]) (rest := [.int x2]) (F := []) C0 hw (p_nil _) hl.1 0 7 rfl rfl (c_X7_isOut l E aR h) 1 gX7_stonesOf_X7_isOut rfl ⟨rfl, rfl⟩ (by decide +kernel) ⟨Nat.le_of_ble_eq_true rfl, Nat.le_of_ble_eq_true rfl⟩ rfl rfl (Nat.le_of_ble_eq_true rfl) dX7_stonesOf_49 ⟨Nat.zero_le _, Nat.zero_le _⟩ (fun r_1 v_2 H locs h (hw : mw E A s.heap H locs (cR E aR v_2)) => ?_)
          refine lv_if_eq (tgt := 59) hx hb dX7_stonesOf_52 (by decide) (fun c_3 => ?_) (fun c_3 => ?_)
          · replace h := h.1 c_3
            refine lv_iconst (v := 0) hx hb dX7_stonesOf_59 (by decide) ?_
            refine lv_iadd hx hb dX7_stonesOf_60 ?_
            refine lv_istore_n (lv' := [(2, .int (x2 + 0)), (0, .ref (aR 0)), (1, .int f1), (3, .int x3)]) hx hb dX7_stonesOf_61 rfl hl (by decide) rfl (fun ls hl => ?_)
            refine lv_iinc (v := (x3 + 1)) (lv' := [(3, .int (x3 + 1)), (2, .int (x2 + 0)), (0, .ref (aR 0)), (1, .int f1)]) hx hb dX7_stonesOf_62 hl (k := 3) rfl rfl (by decide) rfl (fun ls hl => ?_)
            refine lv_goto (tgt := 4) hx hb dX7_stonesOf_65 (by decide) ?_
            exact ih _ _ _ h _ _ _ hw (lv_sub hl [2, 3, 1, 0] rfl) hk0
          · replace h := h.2 c_3
            refine lv_iconst (v := 1) hx hb dX7_stonesOf_55 (by decide) ?_
            refine lv_goto (tgt := 60) hx hb dX7_stonesOf_56 (by decide) ?_
            refine lv_iadd hx hb dX7_stonesOf_60 ?_
            refine lv_istore_n (lv' := [(2, .int (x2 + 1)), (0, .ref (aR 0)), (1, .int f1), (3, .int x3)]) hx hb dX7_stonesOf_61 rfl hl (by decide) rfl (fun ls hl => ?_)
            refine lv_iinc (v := (x3 + 1)) (lv' := [(3, .int (x3 + 1)), (2, .int (x2 + 1)), (0, .ref (aR 0)), (1, .int f1)]) hx hb dX7_stonesOf_62 hl (k := 3) rfl rfl (by decide) rfl (fun ls hl => ?_)
            refine lv_goto (tgt := 4) hx hb dX7_stonesOf_65 (by decide) ?_
            exact ih _ _ _ h _ _ _ hw (lv_sub hl [2, 3, 1, 0] rfl) hk0
        · replace h := h.2 c_7
          refine lv_aload_n hx hb dX7_stonesOf_36 rfl (lv_at hl 0 rfl) ?_
          refine lv_iload_n hx hb dX7_stonesOf_37 rfl (lv_at hl 3 rfl) ?_
          refine x_cV (As := [.int x3]) (rest := [.int x2]) (F := []) C0 hw (p_nil _) hl.1 0 7 rfl rfl (c_X7_isSold l E aR h) 1 gX7_stonesOf_X7_isSold rfl ⟨rfl, rfl⟩ (by decide +kernel) ⟨Nat.le_of_ble_eq_true rfl, Nat.le_of_ble_eq_true rfl⟩ rfl rfl (Nat.le_of_ble_eq_true rfl) dX7_stonesOf_38 ⟨Nat.zero_le _, Nat.zero_le _⟩ (fun r_4 v_5 H locs h (hw : mw E A s.heap H locs (cR E aR v_5)) => ?_)
          refine lv_if_eq (tgt := 59) hx hb dX7_stonesOf_41 (by decide) (fun c_6 => ?_) (fun c_6 => ?_)
          · replace h := h.1 c_6
            refine lv_iconst (v := 0) hx hb dX7_stonesOf_59 (by decide) ?_
            refine lv_iadd hx hb dX7_stonesOf_60 ?_
            refine lv_istore_n (lv' := [(2, .int (x2 + 0)), (0, .ref (aR 0)), (1, .int f1), (3, .int x3)]) hx hb dX7_stonesOf_61 rfl hl (by decide) rfl (fun ls hl => ?_)
            refine lv_iinc (v := (x3 + 1)) (lv' := [(3, .int (x3 + 1)), (2, .int (x2 + 0)), (0, .ref (aR 0)), (1, .int f1)]) hx hb dX7_stonesOf_62 hl (k := 3) rfl rfl (by decide) rfl (fun ls hl => ?_)
            refine lv_goto (tgt := 4) hx hb dX7_stonesOf_65 (by decide) ?_
            exact ih _ _ _ h _ _ _ hw (lv_sub hl [2, 3, 1, 0] rfl) hk0
          · replace h := h.2 c_6
            refine lv_goto (tgt := 55) hx hb dX7_stonesOf_44 (by decide) ?_
            refine lv_iconst (v := 1) hx hb dX7_stonesOf_55 (by decide) ?_
            refine lv_goto (tgt := 60) hx hb dX7_stonesOf_56 (by decide) ?_
            refine lv_iadd hx hb dX7_stonesOf_60 ?_
            refine lv_istore_n (lv' := [(2, .int (x2 + 1)), (0, .ref (aR 0)), (1, .int f1), (3, .int x3)]) hx hb dX7_stonesOf_61 rfl hl (by decide) rfl (fun ls hl => ?_)
            refine lv_iinc (v := (x3 + 1)) (lv' := [(3, .int (x3 + 1)), (2, .int (x2 + 1)), (0, .ref (aR 0)), (1, .int f1)]) hx hb dX7_stonesOf_62 hl (k := 3) rfl rfl (by decide) rfl (fun ls hl => ?_)
            refine lv_goto (tgt := 4) hx hb dX7_stonesOf_65 (by decide) ?_
            exact ih _ _ _ h _ _ _ hw (lv_sub hl [2, 3, 1, 0] rfl) hk0
      · replace h := h.2 c_10
        refine lv_aload_n hx hb dX7_stonesOf_21 rfl (lv_at hl 0 rfl) ?_
        refine lv_iload_n hx hb dX7_stonesOf_22 rfl (lv_at hl 3 rfl) ?_
        refine lv_bipush (v := 7) hx hb dX7_stonesOf_23 (by decide) ?_
        refine x_cV (As := [.int x3, .int 7]) (rest := [.int x2]) (F := []) C0 hw (p_nil _) hl.1 0 7 rfl rfl (c_X7_ofStone l E aR h) 2 gX7_stonesOf_X7_ofStone rfl ⟨rfl, rfl⟩ (by decide +kernel) ⟨Nat.le_of_ble_eq_true rfl, Nat.le_of_ble_eq_true rfl⟩ rfl rfl (Nat.le_of_ble_eq_true rfl) dX7_stonesOf_25 ⟨Nat.zero_le _, Nat.zero_le _⟩ (fun r_8 v_9 H locs h (hw : mw E A s.heap H locs (cR E aR v_9)) => ?_)
        refine lv_goto (tgt := 60) hx hb dX7_stonesOf_28 (by decide) ?_
        refine lv_iadd hx hb dX7_stonesOf_60 ?_
        refine lv_istore_n (lv' := [(2, .int (x2 + r_8)), (0, .ref (aR 0)), (1, .int f1), (3, .int x3)]) hx hb dX7_stonesOf_61 rfl hl (by decide) rfl (fun ls hl => ?_)
        refine lv_iinc (v := (x3 + 1)) (lv' := [(3, .int (x3 + 1)), (2, .int (x2 + r_8)), (0, .ref (aR 0)), (1, .int f1)]) hx hb dX7_stonesOf_62 hl (k := 3) rfl rfl (by decide) rfl (fun ls hl => ?_)
        refine lv_goto (tgt := 4) hx hb dX7_stonesOf_65 (by decide) ?_
        exact ih _ _ _ h _ _ _ hw (lv_sub hl [2, 3, 1, 0] rfl) hk0
set_option maxRecDepth 100000 in
set_option maxHeartbeats 4000000 in
theorem c_X7_stonesOf (l : Launch) (E : EE) (aR : Nat → Nat) {v : V}  {p1 : Int32} {post : Int32 → V → Prop} (h : s_X7_stonesOf v p1 post) : KI l E yX7_stonesOf wsX7_stonesOf rmX7_stonesOf [.ref (aR 0), .int p1] (cR E aR v) post (fun u => cR E aR u) := by
  unfold s_X7_stonesOf at h
  refine KI.go (cc := cX7_stonesOf) (ret := (some .int)) (maxL := 4) (own := RX7) (by decide) rfl (Nat.le_of_ble_eq_true rfl) rfl (fun p e s m below meth c A ls C0 hw hl => ?_)
  have hx := C0.1
  have hb := C0.2.1
  have hiX7 : ∀ w ∈ wsX70, w ∈ wsX7_stonesOf := fun w h => List.mem_cons_of_mem _ (List.mem_append_right _ h)
  replace hl : lv_has ls 4 [(0, .ref (aR 0)), (1, .int p1)] := hl
  refine lv_iconst (v := 0) hx hb dX7_stonesOf_0 (by decide) ?_
  refine lv_istore_n (lv' := [(2, .int 0), (0, .ref (aR 0)), (1, .int p1)]) hx hb dX7_stonesOf_1 rfl hl (by decide) rfl (fun ls hl => ?_)
  refine lv_iconst (v := 0) hx hb dX7_stonesOf_2 (by decide) ?_
  refine lv_istore_n (lv' := [(3, .int 0), (2, .int 0), (0, .ref (aR 0)), (1, .int p1)]) hx hb dX7_stonesOf_3 rfl hl (by decide) rfl (fun ls hl => ?_)
  obtain ⟨n_12, h⟩ := h
  refine w_X7_stonesOf_4 C0 _ _ _ _ h _ _ _ hw (lv_sub hl [2, 3, 1, 0] rfl) ?_
  · intro x2_13 x3_14 v_15 H locs ls h hw hl
    refine lv_iload_n hx hb dX7_stonesOf_68 rfl (lv_at hl 2 rfl) ?_
    exact x_ret C0 v_15 hw h dX7_stonesOf_69

abbrev rmX7_openMemos : Room := { frames := 2, cells := 0, slots := 0, locals := 45 }
set_option maxRecDepth 100000 in
set_option maxHeartbeats 4000000 in
theorem w_X7_openMemos_4 {p : Program} {l : Launch} {e : Env} {s : State} {m : MethodId} {below : List Frame} {meth : Method} {c : Code} {E : EE} {A : Nat → Prop} {aR : Nat → Nat} {args : Array Value} (C0 : Cx E p s m args meth c A cX7_openMemos 3 RX7 wsX7_openMemos (some .int)) {post : Int32 → V → Prop}   {k0 : Int32 → Int32 → V → Prop} : ∀ (n : Nat) (x1 : Int32) (x2 : Int32) (v : V), sl_X7_openMemos_4 post k0 n x1 x2 v → ∀ (H : Heap) (locs : List Loc) (ls : Array Slot), mw E A s.heap H locs (cR E aR v) → lv_has ls 3 [(0, .ref (aR 0)), (1, .int x1), (2, .int x2)] → (∀ (x1 : Int32) (x2 : Int32) (v : V) (H : Heap) (locs : List Loc) (ls : Array Slot), k0 x1 x2 v → mw E A s.heap H locs (cR E aR v) → lv_has ls 3 [(0, .ref (aR 0)), (1, .int x1), (2, .int x2)] → W p l e rmX7_openMemos s m args below meth c H locs 0 0 (qI E A post (fun u => cR E aR u) below args s) (F0 m 36 ls [])) → W p l e rmX7_openMemos s m args below meth c H locs 0 0 (qI E A post (fun u => cR E aR u) below args s) (F0 m 4 ls []) := by
  have hx := C0.1
  have hb := C0.2.1
  have hiX7 : ∀ w ∈ wsX70, w ∈ wsX7_openMemos := fun w h => List.mem_cons_of_mem _ (List.mem_append_right _ h)
  intro n
  induction n with
  | zero => intro x1 x2 v h; exact False.elim h
  | succ n ih =>
    intro x1 x2 v h H locs ls hw hl hk0
    replace h : sb_X7_openMemos_4 post k0 (sl_X7_openMemos_4 post k0 n) x1 x2 v := h
    unfold sb_X7_openMemos_4 at h
    refine lv_iload_n hx hb dX7_openMemos_4 rfl (lv_at hl 2 rfl) ?_
    refine lv_aload_n hx hb dX7_openMemos_5 rfl (lv_at hl 0 rfl) ?_
    refine x_get C0 hw 7 hiX7 rfl 0 rfl 0 (by decide) 1 rfl rfl dX7_openMemos_6 ?_
    refine lv_iconst (v := 2) hx hb dX7_openMemos_9 (by decide) ?_
    refine x_ald C0 hw 1 rfl (vp_in_nI (n := 2) (by decide) (by decide)) dX7_openMemos_10 ?_
    refine lv_icmp_ge (tgt := 36) hx hb dX7_openMemos_11 (by decide) (fun c_4 => ?_) (fun c_4 => ?_)
    · replace h := h.1 c_4
      exact hk0 _ _ _ _ _ _ h hw (lv_sub hl [0, 1, 2] rfl)
    · replace h := h.2 c_4
      refine lv_iload_n hx hb dX7_openMemos_14 rfl (lv_at hl 1 rfl) ?_
      refine lv_aload_n hx hb dX7_openMemos_15 rfl (lv_at hl 0 rfl) ?_
      refine lv_iload_n hx hb dX7_openMemos_16 rfl (lv_at hl 2 rfl) ?_
      refine x_cV (As := [.int x2]) (rest := [.int x1]) (F := []) C0 hw (p_nil _) hl.1 0 7 rfl rfl (c_X7_outBy l E aR h) 1 gX7_openMemos_X7_outBy rfl ⟨rfl, rfl⟩ (by decide +kernel) ⟨Nat.le_of_ble_eq_true rfl, Nat.le_of_ble_eq_true rfl⟩ rfl rfl (Nat.le_of_ble_eq_true rfl) dX7_openMemos_17 ⟨Nat.zero_le _, Nat.zero_le _⟩ (fun r_1 v_2 H locs h (hw : mw E A s.heap H locs (cR E aR v_2)) => ?_)
      refine lv_if_ne (tgt := 27) hx hb dX7_openMemos_20 (by decide) (fun c_3 => ?_) (fun c_3 => ?_)
      · replace h := h.1 c_3
        refine lv_iconst (v := 1) hx hb dX7_openMemos_27 (by decide) ?_
        refine lv_iadd hx hb dX7_openMemos_28 ?_
        refine lv_istore_n (lv' := [(1, .int (x1 + 1)), (0, .ref (aR 0)), (2, .int x2)]) hx hb dX7_openMemos_29 rfl hl (by decide) rfl (fun ls hl => ?_)
        refine lv_iinc (v := (x2 + 1)) (lv' := [(2, .int (x2 + 1)), (1, .int (x1 + 1)), (0, .ref (aR 0))]) hx hb dX7_openMemos_30 hl (k := 2) rfl rfl (by decide) rfl (fun ls hl => ?_)
        refine lv_goto (tgt := 4) hx hb dX7_openMemos_33 (by decide) ?_
        exact ih _ _ _ h _ _ _ hw (lv_sub hl [2, 1, 0] rfl) hk0
      · replace h := h.2 c_3
        refine lv_iconst (v := 0) hx hb dX7_openMemos_23 (by decide) ?_
        refine lv_goto (tgt := 28) hx hb dX7_openMemos_24 (by decide) ?_
        refine lv_iadd hx hb dX7_openMemos_28 ?_
        refine lv_istore_n (lv' := [(1, .int (x1 + 0)), (0, .ref (aR 0)), (2, .int x2)]) hx hb dX7_openMemos_29 rfl hl (by decide) rfl (fun ls hl => ?_)
        refine lv_iinc (v := (x2 + 1)) (lv' := [(2, .int (x2 + 1)), (1, .int (x1 + 0)), (0, .ref (aR 0))]) hx hb dX7_openMemos_30 hl (k := 2) rfl rfl (by decide) rfl (fun ls hl => ?_)
        refine lv_goto (tgt := 4) hx hb dX7_openMemos_33 (by decide) ?_
        exact ih _ _ _ h _ _ _ hw (lv_sub hl [2, 1, 0] rfl) hk0
set_option maxRecDepth 100000 in
set_option maxHeartbeats 4000000 in
theorem c_X7_openMemos (l : Launch) (E : EE) (aR : Nat → Nat) {v : V}   {post : Int32 → V → Prop} (h : s_X7_openMemos v post) : KI l E yX7_openMemos wsX7_openMemos rmX7_openMemos [.ref (aR 0)] (cR E aR v) post (fun u => cR E aR u) := by
  unfold s_X7_openMemos at h
  refine KI.go (cc := cX7_openMemos) (ret := (some .int)) (maxL := 3) (own := RX7) (by decide) rfl (Nat.le_of_ble_eq_true rfl) rfl (fun p e s m below meth c A ls C0 hw hl => ?_)
  have hx := C0.1
  have hb := C0.2.1
  have hiX7 : ∀ w ∈ wsX70, w ∈ wsX7_openMemos := fun w h => List.mem_cons_of_mem _ (List.mem_append_right _ h)
  replace hl : lv_has ls 3 [(0, .ref (aR 0))] := hl
  refine lv_iconst (v := 0) hx hb dX7_openMemos_0 (by decide) ?_
  refine lv_istore_n (lv' := [(1, .int 0), (0, .ref (aR 0))]) hx hb dX7_openMemos_1 rfl hl (by decide) rfl (fun ls hl => ?_)
  refine lv_iconst (v := 0) hx hb dX7_openMemos_2 (by decide) ?_
  refine lv_istore_n (lv' := [(2, .int 0), (1, .int 0), (0, .ref (aR 0))]) hx hb dX7_openMemos_3 rfl hl (by decide) rfl (fun ls hl => ?_)
  obtain ⟨n_5, h⟩ := h
  refine w_X7_openMemos_4 C0 _ _ _ _ h _ _ _ hw (lv_sub hl [2, 1, 0] rfl) ?_
  · intro x1_6 x2_7 v_8 H locs ls h hw hl
    refine lv_iload_n hx hb dX7_openMemos_36 rfl (lv_at hl 1 rfl) ?_
    exact x_ret C0 v_8 hw h dX7_openMemos_37

abbrev rmX7_balances : Room := { frames := 0, cells := 0, slots := 0, locals := 0 }
set_option maxRecDepth 100000 in
set_option maxHeartbeats 4000000 in
theorem w_X7_balances_4 {p : Program} {l : Launch} {e : Env} {s : State} {m : MethodId} {below : List Frame} {meth : Method} {c : Code} {E : EE} {A : Nat → Prop} {aR : Nat → Nat} {args : Array Value} (C0 : Cx E p s m args meth c A cX7_balances 3 RX7 wsX7_balances (some .int)) {post : Int32 → V → Prop}   {k0 : Int32 → Int32 → V → Prop} : ∀ (n : Nat) (x1 : Int32) (x2 : Int32) (v : V), sl_X7_balances_4 post k0 n x1 x2 v → ∀ (H : Heap) (locs : List Loc) (ls : Array Slot), mw E A s.heap H locs (cR E aR v) → lv_has ls 3 [(0, .ref (aR 0)), (1, .int x1), (2, .int x2)] → (∀ (x1 : Int32) (x2 : Int32) (v : V) (H : Heap) (locs : List Loc) (ls : Array Slot), k0 x1 x2 v → mw E A s.heap H locs (cR E aR v) → lv_has ls 3 [(0, .ref (aR 0)), (1, .int x1), (2, .int x2)] → W p l e rmX7_balances s m args below meth c H locs 0 0 (qI E A post (fun u => cR E aR u) below args s) (F0 m 28 ls [])) → W p l e rmX7_balances s m args below meth c H locs 0 0 (qI E A post (fun u => cR E aR u) below args s) (F0 m 4 ls []) := by
  have hx := C0.1
  have hb := C0.2.1
  have hiX7 : ∀ w ∈ wsX70, w ∈ wsX7_balances := fun w h => List.mem_cons_of_mem _ (List.mem_append_right _ h)
  intro n
  induction n with
  | zero => intro x1 x2 v h; exact False.elim h
  | succ n ih =>
    intro x1 x2 v h H locs ls hw hl hk0
    replace h : sb_X7_balances_4 post k0 (sl_X7_balances_4 post k0 n) x1 x2 v := h
    unfold sb_X7_balances_4 at h
    refine lv_iload_n hx hb dX7_balances_4 rfl (lv_at hl 2 rfl) ?_
    refine lv_bipush (v := 6) hx hb dX7_balances_5 (by decide) ?_
    refine lv_icmp_ge (tgt := 28) hx hb dX7_balances_7 (by decide) (fun c_1 => ?_) (fun c_1 => ?_)
    · replace h := h.1 c_1
      exact hk0 _ _ _ _ _ _ h hw (lv_sub hl [0, 1, 2] rfl)
    · replace h := h.2 c_1
      refine lv_iload_n hx hb dX7_balances_10 rfl (lv_at hl 1 rfl) ?_
      refine lv_aload_n hx hb dX7_balances_11 rfl (lv_at hl 0 rfl) ?_
      refine x_get C0 hw 7 hiX7 rfl 0 rfl 0 (by decide) 1 rfl rfl dX7_balances_12 ?_
      refine lv_bipush (v := 8) hx hb dX7_balances_15 (by decide) ?_
      refine lv_iload_n hx hb dX7_balances_17 rfl (lv_at hl 2 rfl) ?_
      refine lv_iadd hx hb dX7_balances_18 ?_
      obtain ⟨hin, h⟩ := h
      refine x_ald C0 hw 1 rfl hin dX7_balances_19 ?_
      refine lv_iadd hx hb dX7_balances_20 ?_
      refine lv_istore_n (lv' := [(1, .int (x1 + (v 1 (tn (8 + x2))))), (0, .ref (aR 0)), (2, .int x2)]) hx hb dX7_balances_21 rfl hl (by decide) rfl (fun ls hl => ?_)
      refine lv_iinc (v := (x2 + 1)) (lv' := [(2, .int (x2 + 1)), (1, .int (x1 + (v 1 (tn (8 + x2))))), (0, .ref (aR 0))]) hx hb dX7_balances_22 hl (k := 2) rfl rfl (by decide) rfl (fun ls hl => ?_)
      refine lv_goto (tgt := 4) hx hb dX7_balances_25 (by decide) ?_
      exact ih _ _ _ h _ _ _ hw (lv_sub hl [2, 1, 0] rfl) hk0
set_option maxRecDepth 100000 in
set_option maxHeartbeats 4000000 in
theorem c_X7_balances (l : Launch) (E : EE) (aR : Nat → Nat) {v : V}   {post : Int32 → V → Prop} (h : s_X7_balances v post) : KI l E yX7_balances wsX7_balances rmX7_balances [.ref (aR 0)] (cR E aR v) post (fun u => cR E aR u) := by
  unfold s_X7_balances at h
  refine KI.go (cc := cX7_balances) (ret := (some .int)) (maxL := 3) (own := RX7) (by decide) rfl (Nat.le_of_ble_eq_true rfl) rfl (fun p e s m below meth c A ls C0 hw hl => ?_)
  have hx := C0.1
  have hb := C0.2.1
  have hiX7 : ∀ w ∈ wsX70, w ∈ wsX7_balances := fun w h => List.mem_cons_of_mem _ (List.mem_append_right _ h)
  replace hl : lv_has ls 3 [(0, .ref (aR 0))] := hl
  refine lv_iconst (v := 0) hx hb dX7_balances_0 (by decide) ?_
  refine lv_istore_n (lv' := [(1, .int 0), (0, .ref (aR 0))]) hx hb dX7_balances_1 rfl hl (by decide) rfl (fun ls hl => ?_)
  refine lv_iconst (v := 0) hx hb dX7_balances_2 (by decide) ?_
  refine lv_istore_n (lv' := [(2, .int 0), (1, .int 0), (0, .ref (aR 0))]) hx hb dX7_balances_3 rfl hl (by decide) rfl (fun ls hl => ?_)
  obtain ⟨n_2, h⟩ := h
  refine w_X7_balances_4 C0 _ _ _ _ h _ _ _ hw (lv_sub hl [2, 1, 0] rfl) ?_
  · intro x1_3 x2_4 v_5 H locs ls h hw hl
    refine lv_iload_n hx hb dX7_balances_28 rfl (lv_at hl 1 rfl) ?_
    exact x_ret C0 v_5 hw h dX7_balances_29

abbrev rmX7_count : Room := { frames := 3, cells := 0, slots := 0, locals := 67 }
set_option maxRecDepth 100000 in
set_option maxHeartbeats 4000000 in
theorem c_X7_count (l : Launch) (E : EE) (aR : Nat → Nat) {v : V}  {p1 : Int32} {post : Int32 → V → Prop} (h : s_X7_count v p1 post) : KI l E yX7_count wsX7_count rmX7_count [.ref (aR 0), .int p1] (cR E aR v) post (fun u => cR E aR u) := by
  unfold s_X7_count at h
  refine KI.go (cc := cX7_count) (ret := (some .int)) (maxL := 2) (own := RX7) (by decide) rfl (Nat.le_of_ble_eq_true rfl) rfl (fun p e s m below meth c A ls C0 hw hl => ?_)
  have hx := C0.1
  have hb := C0.2.1
  have hiX7 : ∀ w ∈ wsX70, w ∈ wsX7_count := fun w h => List.mem_cons_of_mem _ (List.mem_append_right _ h)
  replace hl : lv_has ls 2 [(0, .ref (aR 0)), (1, .int p1)] := hl
  refine lv_iload_n hx hb dX7_count_0 rfl (lv_at hl 1 rfl) ?_
  by_cases c_1 : p1 = 0
  · replace h := h.1 c_1
    refine x_tabIn (tgt := 72) C0 0 c_1 dX7_count_1 (by decide) (by decide) rfl (by decide) ?_
    refine lv_aload_n hx hb dX7_count_72 rfl (lv_at hl 0 rfl) ?_
    refine x_get C0 hw 7 hiX7 rfl 0 rfl 0 (by decide) 1 rfl rfl dX7_count_73 ?_
    refine lv_iload_n hx hb dX7_count_76 rfl (lv_at hl 1 rfl) ?_
    obtain ⟨hin, h⟩ := h
    refine x_ald C0 hw 1 rfl hin dX7_count_77 ?_
    exact x_ret C0 v hw h dX7_count_78
  replace h := h.2
  by_cases c_2 : p1 = 1
  · replace h := h.1 c_2
    refine x_tabIn (tgt := 72) C0 1 c_2 dX7_count_1 (by decide) (by decide) rfl (by decide) ?_
    refine lv_aload_n hx hb dX7_count_72 rfl (lv_at hl 0 rfl) ?_
    refine x_get C0 hw 7 hiX7 rfl 0 rfl 0 (by decide) 1 rfl rfl dX7_count_73 ?_
    refine lv_iload_n hx hb dX7_count_76 rfl (lv_at hl 1 rfl) ?_
    obtain ⟨hin, h⟩ := h
    refine x_ald C0 hw 1 rfl hin dX7_count_77 ?_
    exact x_ret C0 v hw h dX7_count_78
  replace h := h.2
  by_cases c_5 : p1 = 2
  · replace h := h.1 c_5
    refine x_tabIn (tgt := 79) C0 2 c_5 dX7_count_1 (by decide) (by decide) rfl (by decide) ?_
    refine lv_aload_n hx hb dX7_count_79 rfl (lv_at hl 0 rfl) ?_
    refine lv_iload_n hx hb dX7_count_80 rfl (lv_at hl 1 rfl) ?_
    refine x_cV (As := [.int p1]) (rest := []) (F := []) C0 hw (p_nil _) hl.1 0 7 rfl rfl (c_X7_stonesOf l E aR h) 1 gX7_count_X7_stonesOf rfl ⟨rfl, rfl⟩ (by decide +kernel) ⟨Nat.le_of_ble_eq_true rfl, Nat.le_of_ble_eq_true rfl⟩ rfl rfl (Nat.le_of_ble_eq_true rfl) dX7_count_81 ⟨Nat.zero_le _, Nat.zero_le _⟩ (fun r_3 v_4 H locs h (hw : mw E A s.heap H locs (cR E aR v_4)) => ?_)
    exact x_ret C0 v_4 hw h dX7_count_84
  replace h := h.2
  by_cases c_8 : p1 = 3
  · replace h := h.1 c_8
    refine x_tabIn (tgt := 79) C0 3 c_8 dX7_count_1 (by decide) (by decide) rfl (by decide) ?_
    refine lv_aload_n hx hb dX7_count_79 rfl (lv_at hl 0 rfl) ?_
    refine lv_iload_n hx hb dX7_count_80 rfl (lv_at hl 1 rfl) ?_
    refine x_cV (As := [.int p1]) (rest := []) (F := []) C0 hw (p_nil _) hl.1 0 7 rfl rfl (c_X7_stonesOf l E aR h) 1 gX7_count_X7_stonesOf rfl ⟨rfl, rfl⟩ (by decide +kernel) ⟨Nat.le_of_ble_eq_true rfl, Nat.le_of_ble_eq_true rfl⟩ rfl rfl (Nat.le_of_ble_eq_true rfl) dX7_count_81 ⟨Nat.zero_le _, Nat.zero_le _⟩ (fun r_6 v_7 H locs h (hw : mw E A s.heap H locs (cR E aR v_7)) => ?_)
    exact x_ret C0 v_7 hw h dX7_count_84
  replace h := h.2
  by_cases c_9 : p1 = 4
  · replace h := h.1 c_9
    refine x_tabIn (tgt := 85) C0 4 c_9 dX7_count_1 (by decide) (by decide) rfl (by decide) ?_
    refine lv_aload_n hx hb dX7_count_85 rfl (lv_at hl 0 rfl) ?_
    refine x_get C0 hw 7 hiX7 rfl 0 rfl 0 (by decide) 1 rfl rfl dX7_count_86 ?_
    refine lv_iconst (v := 2) hx hb dX7_count_89 (by decide) ?_
    refine x_ald C0 hw 1 rfl (vp_in_nI (n := 2) (by decide) (by decide)) dX7_count_90 ?_
    exact x_ret C0 v hw h dX7_count_91
  replace h := h.2
  by_cases c_12 : p1 = 5
  · replace h := h.1 c_12
    refine x_tabIn (tgt := 92) C0 5 c_12 dX7_count_1 (by decide) (by decide) rfl (by decide) ?_
    refine lv_aload_n hx hb dX7_count_92 rfl (lv_at hl 0 rfl) ?_
    refine x_cV (As := []) (rest := []) (F := []) C0 hw (p_nil _) hl.1 0 7 rfl rfl (c_X7_openMemos l E aR h) 0 gX7_count_X7_openMemos rfl ⟨rfl, rfl⟩ (by decide +kernel) ⟨Nat.le_of_ble_eq_true rfl, Nat.le_of_ble_eq_true rfl⟩ rfl rfl (Nat.le_of_ble_eq_true rfl) dX7_count_93 ⟨Nat.zero_le _, Nat.zero_le _⟩ (fun r_10 v_11 H locs h (hw : mw E A s.heap H locs (cR E aR v_11)) => ?_)
    exact x_ret C0 v_11 hw h dX7_count_96
  replace h := h.2
  by_cases c_13 : p1 = 6
  · replace h := h.1 c_13
    refine x_tabIn (tgt := 97) C0 6 c_13 dX7_count_1 (by decide) (by decide) rfl (by decide) ?_
    refine lv_aload_n hx hb dX7_count_97 rfl (lv_at hl 0 rfl) ?_
    refine x_get C0 hw 7 hiX7 rfl 0 rfl 0 (by decide) 1 rfl rfl dX7_count_98 ?_
    refine lv_iconst (v := 5) hx hb dX7_count_101 (by decide) ?_
    refine x_ald C0 hw 1 rfl (vp_in_nI (n := 5) (by decide) (by decide)) dX7_count_102 ?_
    exact x_ret C0 v hw h dX7_count_103
  replace h := h.2
  by_cases c_14 : p1 = 7
  · replace h := h.1 c_14
    refine x_tabIn (tgt := 104) C0 7 c_14 dX7_count_1 (by decide) (by decide) rfl (by decide) ?_
    refine lv_aload_n hx hb dX7_count_104 rfl (lv_at hl 0 rfl) ?_
    refine x_get C0 hw 7 hiX7 rfl 0 rfl 0 (by decide) 1 rfl rfl dX7_count_105 ?_
    refine lv_iconst (v := 3) hx hb dX7_count_108 (by decide) ?_
    refine x_ald C0 hw 1 rfl (vp_in_nI (n := 3) (by decide) (by decide)) dX7_count_109 ?_
    exact x_ret C0 v hw h dX7_count_110
  replace h := h.2
  by_cases c_17 : p1 = 8
  · replace h := h.1 c_17
    refine x_tabIn (tgt := 111) C0 8 c_17 dX7_count_1 (by decide) (by decide) rfl (by decide) ?_
    refine x_ldc (v := 100000000) C0 2 rfl dX7_count_111 ?_
    refine lv_aload_n hx hb dX7_count_113 rfl (lv_at hl 0 rfl) ?_
    refine x_cV (As := []) (rest := [.int 100000000]) (F := []) C0 hw (p_nil _) hl.1 0 7 rfl rfl (c_X7_balances l E aR h) 0 gX7_count_X7_balances rfl ⟨rfl, rfl⟩ (by decide +kernel) ⟨Nat.le_of_ble_eq_true rfl, Nat.le_of_ble_eq_true rfl⟩ rfl rfl (Nat.le_of_ble_eq_true rfl) dX7_count_114 ⟨Nat.zero_le _, Nat.zero_le _⟩ (fun r_15 v_16 H locs h (hw : mw E A s.heap H locs (cR E aR v_16)) => ?_)
    refine lv_iadd hx hb dX7_count_117 ?_
    exact x_ret C0 v_16 hw h dX7_count_118
  replace h := h.2
  by_cases c_20 : p1 = 9
  · replace h := h.1 c_20
    refine x_tabIn (tgt := 79) C0 9 c_20 dX7_count_1 (by decide) (by decide) rfl (by decide) ?_
    refine lv_aload_n hx hb dX7_count_79 rfl (lv_at hl 0 rfl) ?_
    refine lv_iload_n hx hb dX7_count_80 rfl (lv_at hl 1 rfl) ?_
    refine x_cV (As := [.int p1]) (rest := []) (F := []) C0 hw (p_nil _) hl.1 0 7 rfl rfl (c_X7_stonesOf l E aR h) 1 gX7_count_X7_stonesOf rfl ⟨rfl, rfl⟩ (by decide +kernel) ⟨Nat.le_of_ble_eq_true rfl, Nat.le_of_ble_eq_true rfl⟩ rfl rfl (Nat.le_of_ble_eq_true rfl) dX7_count_81 ⟨Nat.zero_le _, Nat.zero_le _⟩ (fun r_18 v_19 H locs h (hw : mw E A s.heap H locs (cR E aR v_19)) => ?_)
    exact x_ret C0 v_19 hw h dX7_count_84
  replace h := h.2
  by_cases c_21 : p1 = 10
  · replace h := h.1 c_21
    refine x_tabIn (tgt := 119) C0 10 c_21 dX7_count_1 (by decide) (by decide) rfl (by decide) ?_
    refine lv_aload_n hx hb dX7_count_119 rfl (lv_at hl 0 rfl) ?_
    refine x_get C0 hw 7 hiX7 rfl 0 rfl 0 (by decide) 1 rfl rfl dX7_count_120 ?_
    refine lv_iconst (v := 4) hx hb dX7_count_123 (by decide) ?_
    refine x_ald C0 hw 1 rfl (vp_in_nI (n := 4) (by decide) (by decide)) dX7_count_124 ?_
    exact x_ret C0 v hw h dX7_count_125
  replace h := h.2
  by_cases c_22 : p1 = 11
  · replace h := h.1 c_22
    refine x_tabIn (tgt := 126) C0 11 c_22 dX7_count_1 (by decide) (by decide) rfl (by decide) ?_
    refine lv_aload_n hx hb dX7_count_126 rfl (lv_at hl 0 rfl) ?_
    refine x_get C0 hw 7 hiX7 rfl 0 rfl 5 (by decide) 3 rfl rfl dX7_count_127 ?_
    exact x_ret C0 v hw h dX7_count_130
  replace h := h.2
  by_cases c_23 : p1 = 12
  · replace h := h.1 c_23
    refine x_tabIn (tgt := 131) C0 12 c_23 dX7_count_1 (by decide) (by decide) rfl (by decide) ?_
    refine lv_aload_n hx hb dX7_count_131 rfl (lv_at hl 0 rfl) ?_
    refine x_get C0 hw 7 hiX7 rfl 0 rfl 7 (by decide) 4 rfl rfl dX7_count_132 ?_
    exact x_ret C0 v hw h dX7_count_135
  replace h := h.2
  by_cases c_25 : p1 = 13
  · replace h := h.1 c_25
    refine x_tabIn (tgt := 136) C0 13 c_25 dX7_count_1 (by decide) (by decide) rfl (by decide) ?_
    refine lv_aload_n hx hb dX7_count_136 rfl (lv_at hl 0 rfl) ?_
    refine x_get C0 hw 7 hiX7 rfl 0 rfl 3 (by decide) 5 rfl rfl dX7_count_137 ?_
    refine lv_if_eq (tgt := 147) hx hb dX7_count_140 (by decide) (fun c_24 => ?_) (fun c_24 => ?_)
    · replace h := h.1 c_24
      refine lv_iconst (v := 0) hx hb dX7_count_147 (by decide) ?_
      exact x_ret C0 v hw h dX7_count_148
    · replace h := h.2 c_24
      refine lv_iconst (v := 1) hx hb dX7_count_143 (by decide) ?_
      refine lv_goto (tgt := 148) hx hb dX7_count_144 (by decide) ?_
      exact x_ret C0 v hw h dX7_count_148
  replace h := h.2
  have cD : p1.toInt < 0 ∨ 13 < p1.toInt := by
    have := ne_toInt (z := 0) (by decide) c_1
    have := ne_toInt (z := 1) (by decide) c_2
    have := ne_toInt (z := 2) (by decide) c_5
    have := ne_toInt (z := 3) (by decide) c_8
    have := ne_toInt (z := 4) (by decide) c_9
    have := ne_toInt (z := 5) (by decide) c_12
    have := ne_toInt (z := 6) (by decide) c_13
    have := ne_toInt (z := 7) (by decide) c_14
    have := ne_toInt (z := 8) (by decide) c_17
    have := ne_toInt (z := 9) (by decide) c_20
    have := ne_toInt (z := 10) (by decide) c_21
    have := ne_toInt (z := 11) (by decide) c_22
    have := ne_toInt (z := 12) (by decide) c_23
    have := ne_toInt (z := 13) (by decide) c_25
    omega
  replace h := h cD
  refine lv_tableOut (tgt := 149) hx hb dX7_count_1 cD (by decide) ?_
  refine lv_iload_n hx hb dX7_count_149 rfl (lv_at hl 1 rfl) ?_
  refine lv_bipush (v := 14) hx hb dX7_count_150 (by decide) ?_
  refine lv_bipush (v := 15) hx hb dX7_count_152 (by decide) ?_
  refine x_cS (As := [.int p1, .int 14, .int 15]) (rest := []) (F := (cR E aR v)) C0 hw (p_non _) hl.1 (c_X7_in l E  h) 3 gX7_count_X7_in rfl ⟨rfl, rfl⟩ (by decide +kernel) ⟨Nat.le_of_ble_eq_true rfl, Nat.le_of_ble_eq_true rfl⟩ rfl rfl (Nat.le_of_ble_eq_true rfl) dX7_count_154 ⟨Nat.zero_le _, Nat.zero_le _⟩ (fun r_26 _u H locs h (hw : mw E A s.heap H locs (cR E aR v)) => ?_)
  refine lv_if_eq (tgt := 175) hx hb dX7_count_157 (by decide) (fun c_27 => ?_) (fun c_27 => ?_)
  · replace h := h.1 c_27
    refine x_ldc (v := (-10000001)) C0 6 rfl dX7_count_175 ?_
    exact x_ret C0 v hw h dX7_count_177
  · replace h := h.2 c_27
    refine lv_aload_n hx hb dX7_count_160 rfl (lv_at hl 0 rfl) ?_
    refine x_get C0 hw 7 hiX7 rfl 0 rfl 0 (by decide) 1 rfl rfl dX7_count_161 ?_
    refine lv_bipush (v := 6) hx hb dX7_count_164 (by decide) ?_
    refine lv_iload_n hx hb dX7_count_166 rfl (lv_at hl 1 rfl) ?_
    refine lv_iadd hx hb dX7_count_167 ?_
    refine lv_bipush (v := 14) hx hb dX7_count_168 (by decide) ?_
    refine lv_isub hx hb dX7_count_170 ?_
    obtain ⟨hin, h⟩ := h
    refine x_ald C0 hw 1 rfl hin dX7_count_171 ?_
    refine lv_goto (tgt := 177) hx hb dX7_count_172 (by decide) ?_
    exact x_ret C0 v hw h dX7_count_177
