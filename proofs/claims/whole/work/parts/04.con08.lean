abbrev rmX7_called : Room := { frames := 5, cells := 0, slots := 0, locals := 125 }
set_option maxRecDepth 100000 in
set_option maxHeartbeats 4000000 in
theorem c_X7_called (l : Launch) (E : EE) (aR : Nat → Nat) {v : V}  {p1 : Int32} {post : Int32 → V → Prop} (h : s_X7_called v p1 post) : KI l E yX7_called wsX7_called rmX7_called [.ref (aR 0), .int p1] (cR E aR v) post (fun u => cR E aR u) := by
  unfold s_X7_called at h
  refine KI.go (cc := cX7_called) (ret := (some .int)) (maxL := 2) (own := RX7) (by decide) rfl (Nat.le_of_ble_eq_true rfl) rfl (fun p e s m below meth c A ls C0 hw hl => ?_)
  have hx := C0.1
  have hb := C0.2.1
  have hiX7 : ∀ w ∈ wsX70, w ∈ wsX7_called := fun w h => List.mem_cons_of_mem _ (List.mem_append_right _ h)
  replace hl : lv_has ls 2 [(0, .ref (aR 0)), (1, .int p1)] := hl
  refine lv_iload_n hx hb dX7_called_0 rfl (lv_at hl 1 rfl) ?_
  by_cases c_6 : p1 = 1
  · replace h := h.1 c_6
    refine x_tabIn (tgt := 40) C0 1 c_6 dX7_called_1 (by decide) (by decide) rfl (by decide) ?_
    refine lv_aload_n hx hb dX7_called_40 rfl (lv_at hl 0 rfl) ?_
    refine lv_aload_n hx hb dX7_called_41 rfl (lv_at hl 0 rfl) ?_
    refine x_get C0 hw 7 hiX7 rfl 0 rfl 12 (by decide) 1 rfl rfl dX7_called_42 ?_
    refine lv_iconst (v := 0) hx hb dX7_called_45 (by decide) ?_
    refine x_ald C0 hw 6 rfl (vp_in_nI (n := 0) (by decide) (by decide)) dX7_called_46 ?_
    refine lv_aload_n hx hb dX7_called_47 rfl (lv_at hl 0 rfl) ?_
    refine x_get C0 hw 7 hiX7 rfl 0 rfl 12 (by decide) 1 rfl rfl dX7_called_48 ?_
    refine lv_iconst (v := 1) hx hb dX7_called_51 (by decide) ?_
    refine x_ald C0 hw 6 rfl (vp_in_nI (n := 1) (by decide) (by decide)) dX7_called_52 ?_
    refine lv_aload_n hx hb dX7_called_53 rfl (lv_at hl 0 rfl) ?_
    refine x_get C0 hw 7 hiX7 rfl 0 rfl 12 (by decide) 1 rfl rfl dX7_called_54 ?_
    refine lv_iconst (v := 2) hx hb dX7_called_57 (by decide) ?_
    refine x_ald C0 hw 6 rfl (vp_in_nI (n := 2) (by decide) (by decide)) dX7_called_58 ?_
    refine lv_aload_n hx hb dX7_called_59 rfl (lv_at hl 0 rfl) ?_
    refine x_get C0 hw 7 hiX7 rfl 0 rfl 12 (by decide) 1 rfl rfl dX7_called_60 ?_
    refine lv_iconst (v := 3) hx hb dX7_called_63 (by decide) ?_
    refine x_ald C0 hw 6 rfl (vp_in_nI (n := 3) (by decide) (by decide)) dX7_called_64 ?_
    refine lv_bipush (v := 20) hx hb dX7_called_65 (by decide) ?_
    refine lv_icmp_ge (tgt := 81) hx hb dX7_called_67 (by decide) (fun c_5 => ?_) (fun c_5 => ?_)
    · replace h := h.1 c_5
      refine lv_iconst (v := 0) hx hb dX7_called_81 (by decide) ?_
      refine x_cV (As := [.int (v 6 (tn 0)), .int (v 6 (tn 1)), .int (v 6 (tn 2)), .int 0]) (rest := []) (F := []) C0 hw (p_nil _) hl.1 0 7 rfl rfl (c_X7_lends l E aR h) 4 gX7_called_X7_lends rfl ⟨rfl, rfl⟩ (by decide +kernel) ⟨Nat.le_of_ble_eq_true rfl, Nat.le_of_ble_eq_true rfl⟩ rfl rfl (Nat.le_of_ble_eq_true rfl) dX7_called_82 ⟨Nat.zero_le _, Nat.zero_le _⟩ (fun r_1 v_2 H locs h (hw : mw E A s.heap H locs (cR E aR v_2)) => ?_)
      exact x_ret C0 v_2 hw h dX7_called_85
    · replace h := h.2 c_5
      refine lv_iconst (v := 1) hx hb dX7_called_70 (by decide) ?_
      refine lv_aload_n hx hb dX7_called_71 rfl (lv_at hl 0 rfl) ?_
      refine x_get C0 hw 7 hiX7 rfl 0 rfl 12 (by decide) 1 rfl rfl dX7_called_72 ?_
      refine lv_iconst (v := 3) hx hb dX7_called_75 (by decide) ?_
      refine x_ald C0 hw 6 rfl (vp_in_nI (n := 3) (by decide) (by decide)) dX7_called_76 ?_
      refine lv_ishl hx hb dX7_called_77 ?_
      refine lv_goto (tgt := 82) hx hb dX7_called_78 (by decide) ?_
      refine x_cV (As := [.int (v 6 (tn 0)), .int (v 6 (tn 1)), .int (v 6 (tn 2)), .int (1 <<< ((v 6 (tn 3)) &&& 31))]) (rest := []) (F := []) C0 hw (p_nil _) hl.1 0 7 rfl rfl (c_X7_lends l E aR h) 4 gX7_called_X7_lends rfl ⟨rfl, rfl⟩ (by decide +kernel) ⟨Nat.le_of_ble_eq_true rfl, Nat.le_of_ble_eq_true rfl⟩ rfl rfl (Nat.le_of_ble_eq_true rfl) dX7_called_82 ⟨Nat.zero_le _, Nat.zero_le _⟩ (fun r_3 v_4 H locs h (hw : mw E A s.heap H locs (cR E aR v_4)) => ?_)
      exact x_ret C0 v_4 hw h dX7_called_85
  replace h := h.2
  by_cases c_9 : p1 = 2
  · replace h := h.1 c_9
    refine x_tabIn (tgt := 86) C0 2 c_9 dX7_called_1 (by decide) (by decide) rfl (by decide) ?_
    refine lv_aload_n hx hb dX7_called_86 rfl (lv_at hl 0 rfl) ?_
    refine lv_aload_n hx hb dX7_called_87 rfl (lv_at hl 0 rfl) ?_
    refine x_get C0 hw 7 hiX7 rfl 0 rfl 12 (by decide) 1 rfl rfl dX7_called_88 ?_
    refine lv_iconst (v := 0) hx hb dX7_called_91 (by decide) ?_
    refine x_ald C0 hw 6 rfl (vp_in_nI (n := 0) (by decide) (by decide)) dX7_called_92 ?_
    refine x_cV (As := [.int (v 6 (tn 0))]) (rest := []) (F := []) C0 hw (p_nil _) hl.1 0 7 rfl rfl (c_X7_gives l E aR h) 1 gX7_called_X7_gives rfl ⟨rfl, rfl⟩ (by decide +kernel) ⟨Nat.le_of_ble_eq_true rfl, Nat.le_of_ble_eq_true rfl⟩ rfl rfl (Nat.le_of_ble_eq_true rfl) dX7_called_93 ⟨Nat.zero_le _, Nat.zero_le _⟩ (fun r_7 v_8 H locs h (hw : mw E A s.heap H locs (cR E aR v_8)) => ?_)
    exact x_ret C0 v_8 hw h dX7_called_96
  replace h := h.2
  by_cases c_12 : p1 = 3
  · replace h := h.1 c_12
    refine x_tabIn (tgt := 97) C0 3 c_12 dX7_called_1 (by decide) (by decide) rfl (by decide) ?_
    refine lv_aload_n hx hb dX7_called_97 rfl (lv_at hl 0 rfl) ?_
    refine lv_aload_n hx hb dX7_called_98 rfl (lv_at hl 0 rfl) ?_
    refine x_get C0 hw 7 hiX7 rfl 0 rfl 12 (by decide) 1 rfl rfl dX7_called_99 ?_
    refine lv_iconst (v := 0) hx hb dX7_called_102 (by decide) ?_
    refine x_ald C0 hw 6 rfl (vp_in_nI (n := 0) (by decide) (by decide)) dX7_called_103 ?_
    refine x_cV (As := [.int (v 6 (tn 0))]) (rest := []) (F := []) C0 hw (p_nil _) hl.1 0 7 rfl rfl (c_X7_keeps l E aR h) 1 gX7_called_X7_keeps rfl ⟨rfl, rfl⟩ (by decide +kernel) ⟨Nat.le_of_ble_eq_true rfl, Nat.le_of_ble_eq_true rfl⟩ rfl rfl (Nat.le_of_ble_eq_true rfl) dX7_called_104 ⟨Nat.zero_le _, Nat.zero_le _⟩ (fun r_10 v_11 H locs h (hw : mw E A s.heap H locs (cR E aR v_11)) => ?_)
    exact x_ret C0 v_11 hw h dX7_called_107
  replace h := h.2
  by_cases c_15 : p1 = 4
  · replace h := h.1 c_15
    refine x_tabIn (tgt := 108) C0 4 c_15 dX7_called_1 (by decide) (by decide) rfl (by decide) ?_
    refine lv_aload_n hx hb dX7_called_108 rfl (lv_at hl 0 rfl) ?_
    refine lv_aload_n hx hb dX7_called_109 rfl (lv_at hl 0 rfl) ?_
    refine x_get C0 hw 7 hiX7 rfl 0 rfl 12 (by decide) 1 rfl rfl dX7_called_110 ?_
    refine lv_iconst (v := 0) hx hb dX7_called_113 (by decide) ?_
    refine x_ald C0 hw 6 rfl (vp_in_nI (n := 0) (by decide) (by decide)) dX7_called_114 ?_
    refine lv_aload_n hx hb dX7_called_115 rfl (lv_at hl 0 rfl) ?_
    refine x_get C0 hw 7 hiX7 rfl 0 rfl 12 (by decide) 1 rfl rfl dX7_called_116 ?_
    refine lv_iconst (v := 1) hx hb dX7_called_119 (by decide) ?_
    refine x_ald C0 hw 6 rfl (vp_in_nI (n := 1) (by decide) (by decide)) dX7_called_120 ?_
    refine x_cV (As := [.int (v 6 (tn 0)), .int (v 6 (tn 1))]) (rest := []) (F := []) C0 hw (p_nil _) hl.1 0 7 rfl rfl (c_X7_sells l E aR h) 2 gX7_called_X7_sells rfl ⟨rfl, rfl⟩ (by decide +kernel) ⟨Nat.le_of_ble_eq_true rfl, Nat.le_of_ble_eq_true rfl⟩ rfl rfl (Nat.le_of_ble_eq_true rfl) dX7_called_121 ⟨Nat.zero_le _, Nat.zero_le _⟩ (fun r_13 v_14 H locs h (hw : mw E A s.heap H locs (cR E aR v_14)) => ?_)
    exact x_ret C0 v_14 hw h dX7_called_124
  replace h := h.2
  by_cases c_18 : p1 = 5
  · replace h := h.1 c_18
    refine x_tabIn (tgt := 125) C0 5 c_18 dX7_called_1 (by decide) (by decide) rfl (by decide) ?_
    refine lv_aload_n hx hb dX7_called_125 rfl (lv_at hl 0 rfl) ?_
    refine lv_aload_n hx hb dX7_called_126 rfl (lv_at hl 0 rfl) ?_
    refine x_get C0 hw 7 hiX7 rfl 0 rfl 12 (by decide) 1 rfl rfl dX7_called_127 ?_
    refine lv_iconst (v := 0) hx hb dX7_called_130 (by decide) ?_
    refine x_ald C0 hw 6 rfl (vp_in_nI (n := 0) (by decide) (by decide)) dX7_called_131 ?_
    refine lv_aload_n hx hb dX7_called_132 rfl (lv_at hl 0 rfl) ?_
    refine x_get C0 hw 7 hiX7 rfl 0 rfl 12 (by decide) 1 rfl rfl dX7_called_133 ?_
    refine lv_iconst (v := 1) hx hb dX7_called_136 (by decide) ?_
    refine x_ald C0 hw 6 rfl (vp_in_nI (n := 1) (by decide) (by decide)) dX7_called_137 ?_
    refine lv_aload_n hx hb dX7_called_138 rfl (lv_at hl 0 rfl) ?_
    refine x_get C0 hw 7 hiX7 rfl 0 rfl 12 (by decide) 1 rfl rfl dX7_called_139 ?_
    refine lv_iconst (v := 2) hx hb dX7_called_142 (by decide) ?_
    refine x_ald C0 hw 6 rfl (vp_in_nI (n := 2) (by decide) (by decide)) dX7_called_143 ?_
    refine x_cV (As := [.int (v 6 (tn 0)), .int (v 6 (tn 1)), .int (v 6 (tn 2))]) (rest := []) (F := []) C0 hw (p_nil _) hl.1 0 7 rfl rfl (c_X7_grades1 l E aR h) 3 gX7_called_X7_grades1 rfl ⟨rfl, rfl⟩ (by decide +kernel) ⟨Nat.le_of_ble_eq_true rfl, Nat.le_of_ble_eq_true rfl⟩ rfl rfl (Nat.le_of_ble_eq_true rfl) dX7_called_144 ⟨Nat.zero_le _, Nat.zero_le _⟩ (fun r_16 v_17 H locs h (hw : mw E A s.heap H locs (cR E aR v_17)) => ?_)
    exact x_ret C0 v_17 hw h dX7_called_147
  replace h := h.2
  by_cases c_21 : p1 = 6
  · replace h := h.1 c_21
    refine x_tabIn (tgt := 148) C0 6 c_21 dX7_called_1 (by decide) (by decide) rfl (by decide) ?_
    refine lv_aload_n hx hb dX7_called_148 rfl (lv_at hl 0 rfl) ?_
    refine lv_aload_n hx hb dX7_called_149 rfl (lv_at hl 0 rfl) ?_
    refine x_get C0 hw 7 hiX7 rfl 0 rfl 12 (by decide) 1 rfl rfl dX7_called_150 ?_
    refine lv_iconst (v := 0) hx hb dX7_called_153 (by decide) ?_
    refine x_ald C0 hw 6 rfl (vp_in_nI (n := 0) (by decide) (by decide)) dX7_called_154 ?_
    refine lv_aload_n hx hb dX7_called_155 rfl (lv_at hl 0 rfl) ?_
    refine x_get C0 hw 7 hiX7 rfl 0 rfl 12 (by decide) 1 rfl rfl dX7_called_156 ?_
    refine lv_iconst (v := 1) hx hb dX7_called_159 (by decide) ?_
    refine x_ald C0 hw 6 rfl (vp_in_nI (n := 1) (by decide) (by decide)) dX7_called_160 ?_
    refine lv_aload_n hx hb dX7_called_161 rfl (lv_at hl 0 rfl) ?_
    refine x_get C0 hw 7 hiX7 rfl 0 rfl 12 (by decide) 1 rfl rfl dX7_called_162 ?_
    refine lv_iconst (v := 2) hx hb dX7_called_165 (by decide) ?_
    refine x_ald C0 hw 6 rfl (vp_in_nI (n := 2) (by decide) (by decide)) dX7_called_166 ?_
    refine lv_aload_n hx hb dX7_called_167 rfl (lv_at hl 0 rfl) ?_
    refine x_get C0 hw 7 hiX7 rfl 0 rfl 12 (by decide) 1 rfl rfl dX7_called_168 ?_
    refine lv_iconst (v := 3) hx hb dX7_called_171 (by decide) ?_
    refine x_ald C0 hw 6 rfl (vp_in_nI (n := 3) (by decide) (by decide)) dX7_called_172 ?_
    refine x_cV (As := [.int (v 6 (tn 0)), .int (v 6 (tn 1)), .int (v 6 (tn 2)), .int (v 6 (tn 3))]) (rest := []) (F := []) C0 hw (p_nil _) hl.1 0 7 rfl rfl (c_X7_rates l E aR h) 4 gX7_called_X7_rates rfl ⟨rfl, rfl⟩ (by decide +kernel) ⟨Nat.le_of_ble_eq_true rfl, Nat.le_of_ble_eq_true rfl⟩ rfl rfl (Nat.le_of_ble_eq_true rfl) dX7_called_173 ⟨Nat.zero_le _, Nat.zero_le _⟩ (fun r_19 v_20 H locs h (hw : mw E A s.heap H locs (cR E aR v_20)) => ?_)
    exact x_ret C0 v_20 hw h dX7_called_176
  replace h := h.2
  have cD : p1.toInt < 1 ∨ 6 < p1.toInt := by
    have := ne_toInt (z := 1) (by decide) c_6
    have := ne_toInt (z := 2) (by decide) c_9
    have := ne_toInt (z := 3) (by decide) c_12
    have := ne_toInt (z := 4) (by decide) c_15
    have := ne_toInt (z := 5) (by decide) c_18
    have := ne_toInt (z := 6) (by decide) c_21
    omega
  replace h := h cD
  refine lv_tableOut (tgt := 177) hx hb dX7_called_1 cD (by decide) ?_
  refine lv_aload_n hx hb dX7_called_177 rfl (lv_at hl 0 rfl) ?_
  refine lv_aload_n hx hb dX7_called_178 rfl (lv_at hl 0 rfl) ?_
  refine x_get C0 hw 7 hiX7 rfl 0 rfl 12 (by decide) 1 rfl rfl dX7_called_179 ?_
  refine lv_iconst (v := 0) hx hb dX7_called_182 (by decide) ?_
  refine x_ald C0 hw 6 rfl (vp_in_nI (n := 0) (by decide) (by decide)) dX7_called_183 ?_
  refine x_cV (As := [.int (v 6 (tn 0))]) (rest := []) (F := []) C0 hw (p_nil _) hl.1 0 7 rfl rfl (c_X7_goes l E aR h) 1 gX7_called_X7_goes rfl ⟨rfl, rfl⟩ (by decide +kernel) ⟨Nat.le_of_ble_eq_true rfl, Nat.le_of_ble_eq_true rfl⟩ rfl rfl (Nat.le_of_ble_eq_true rfl) dX7_called_184 ⟨Nat.zero_le _, Nat.zero_le _⟩ (fun r_22 v_23 H locs h (hw : mw E A s.heap H locs (cR E aR v_23)) => ?_)
  exact x_ret C0 v_23 hw h dX7_called_187

abbrev rmX7_does : Room := { frames := 6, cells := 0, slots := 0, locals := 146 }
set_option maxRecDepth 100000 in
set_option maxHeartbeats 4000000 in
theorem w_X7_does_49 {p : Program} {l : Launch} {e : Env} {s : State} {m : MethodId} {below : List Frame} {meth : Method} {c : Code} {E : EE} {A : Nat → Prop} {aR : Nat → Nat} {args : Array Value} (C0 : Cx E p s m args meth c A cX7_does 4 RX7 wsX7_does (some .int)) {post : Int32 → V → Prop}  {f1 : Int32} {f2 : Int32} {k0 : Int32 → V → Prop} : ∀ (n : Nat) (x3 : Int32) (v : V), sl_X7_does_49 post f1 f2 k0 n x3 v → ∀ (H : Heap) (locs : List Loc) (ls : Array Slot), mw E A s.heap H locs (cR E aR v) → lv_has ls 4 [(0, .ref (aR 0)), (1, .int f1), (2, .int f2), (3, .int x3)] → (∀ (x3 : Int32) (v : V) (H : Heap) (locs : List Loc) (ls : Array Slot), k0 x3 v → mw E A s.heap H locs (cR E aR v) → lv_has ls 4 [(0, .ref (aR 0)), (1, .int f1), (2, .int f2), (3, .int x3)] → W p l e rmX7_does s m args below meth c H locs 0 0 (qI E A post (fun u => cR E aR u) below args s) (F0 m 79 ls [])) → W p l e rmX7_does s m args below meth c H locs 0 0 (qI E A post (fun u => cR E aR u) below args s) (F0 m 49 ls []) := by
  have hx := C0.1
  have hb := C0.2.1
  have hiX7 : ∀ w ∈ wsX70, w ∈ wsX7_does := fun w h => List.mem_cons_of_mem _ (List.mem_append_right _ h)
  intro n
  induction n with
  | zero => intro x3 v h; exact False.elim h
  | succ n ih =>
    intro x3 v h H locs ls hw hl hk0
    replace h : sb_X7_does_49 post f1 f2 k0 (sl_X7_does_49 post f1 f2 k0 n) x3 v := h
    unfold sb_X7_does_49 at h
    refine lv_iload_n hx hb dX7_does_49 rfl (lv_at hl 3 rfl) ?_
    refine lv_iload_n hx hb dX7_does_50 rfl (lv_at hl 2 rfl) ?_
    refine x_cS (As := [.int f2]) (rest := [.int x3]) (F := (cR E aR v)) C0 hw (p_non _) hl.1 (c_X7_wants l E  h) 1 gX7_does_X7_wants rfl ⟨rfl, rfl⟩ (by decide +kernel) ⟨Nat.le_of_ble_eq_true rfl, Nat.le_of_ble_eq_true rfl⟩ rfl rfl (Nat.le_of_ble_eq_true rfl) dX7_does_51 ⟨Nat.zero_le _, Nat.zero_le _⟩ (fun r_7 _u H locs h (hw : mw E A s.heap H locs (cR E aR v)) => ?_)
    refine lv_icmp_ge (tgt := 79) hx hb dX7_does_54 (by decide) (fun c_12 => ?_) (fun c_12 => ?_)
    · replace h := h.1 c_12
      exact hk0 _ _ _ _ _ h hw (lv_sub hl [0, 1, 2, 3] rfl)
    · replace h := h.2 c_12
      refine lv_aload_n hx hb dX7_does_57 rfl (lv_at hl 0 rfl) ?_
      refine lv_bipush (v := 32) hx hb dX7_does_58 (by decide) ?_
      refine x_cVv (As := [.int 32]) (rest := []) (F := []) C0 hw (p_nil _) hl.1 0 7 rfl rfl (c_X7_takesSign l E aR h) 1 gX7_does_X7_takesSign rfl ⟨rfl, rfl⟩ (by decide +kernel) ⟨Nat.le_of_ble_eq_true rfl, Nat.le_of_ble_eq_true rfl⟩ rfl rfl (Nat.le_of_ble_eq_true rfl) dX7_does_60 ⟨Nat.zero_le _, Nat.zero_le _⟩ (fun v_8 H locs h (hw : mw E A s.heap H locs (cR E aR v_8)) => ?_)
      refine lv_aload_n hx hb dX7_does_63 rfl (lv_at hl 0 rfl) ?_
      refine x_get C0 hw 7 hiX7 rfl 0 rfl 12 (by decide) 5 rfl rfl dX7_does_64 ?_
      refine lv_iload_n hx hb dX7_does_67 rfl (lv_at hl 3 rfl) ?_
      refine lv_aload_n hx hb dX7_does_68 rfl (lv_at hl 0 rfl) ?_
      refine x_cV (As := []) (rest := [.int x3, .ref (aR 6)]) (F := []) C0 hw (p_nil _) hl.1 0 7 rfl rfl (c_X7_number l E aR h) 0 gX7_does_X7_number rfl ⟨rfl, rfl⟩ (by decide +kernel) ⟨Nat.le_of_ble_eq_true rfl, Nat.le_of_ble_eq_true rfl⟩ rfl rfl (Nat.le_of_ble_eq_true rfl) dX7_does_69 ⟨Nat.zero_le _, Nat.zero_le _⟩ (fun r_9 v_10 H locs h (hw : mw E A s.heap H locs (cR E aR v_10)) => ?_)
      obtain ⟨hin, h⟩ := h
      refine x_ast (ws' := (cR E aR ((st v_10 6 (tn x3) r_9)))) C0 hw 6 rfl hin rfl dX7_does_72 (fun H locs hw => ?_)
      obtain ⟨v_11, e_v_11⟩ : ∃ z, z = st v_10 6 (tn x3) r_9 := ⟨_, rfl⟩
      rw [← e_v_11] at hw
      replace h := h v_11 e_v_11
      refine lv_iinc (v := (x3 + 1)) (lv' := [(3, .int (x3 + 1)), (0, .ref (aR 0)), (1, .int f1), (2, .int f2)]) hx hb dX7_does_73 hl (k := 3) rfl rfl (by decide) rfl (fun ls hl => ?_)
      refine lv_goto (tgt := 49) hx hb dX7_does_76 (by decide) ?_
      exact ih _ _ h _ _ _ hw (lv_sub hl [1, 2, 3, 0] rfl) hk0
set_option maxRecDepth 100000 in
set_option maxHeartbeats 4000000 in
theorem w_X7_does_10 {p : Program} {l : Launch} {e : Env} {s : State} {m : MethodId} {below : List Frame} {meth : Method} {c : Code} {E : EE} {A : Nat → Prop} {aR : Nat → Nat} {args : Array Value} (C0 : Cx E p s m args meth c A cX7_does 4 RX7 wsX7_does (some .int)) {post : Int32 → V → Prop}   {k0 : V → Prop} : ∀ (n : Nat)  (v : V), sl_X7_does_10 post k0 n v → ∀ (H : Heap) (locs : List Loc) (ls : Array Slot), mw E A s.heap H locs (cR E aR v) → lv_has ls 4 [(0, .ref (aR 0))] → (∀  (v : V) (H : Heap) (locs : List Loc) (ls : Array Slot), k0 v → mw E A s.heap H locs (cR E aR v) → lv_has ls 4 [(0, .ref (aR 0))] → W p l e rmX7_does s m args below meth c H locs 0 0 (qI E A post (fun u => cR E aR u) below args s) (F0 m 136 ls [])) → W p l e rmX7_does s m args below meth c H locs 0 0 (qI E A post (fun u => cR E aR u) below args s) (F0 m 10 ls []) := by
  have hx := C0.1
  have hb := C0.2.1
  have hiX7 : ∀ w ∈ wsX70, w ∈ wsX7_does := fun w h => List.mem_cons_of_mem _ (List.mem_append_right _ h)
  intro n
  induction n with
  | zero => intro v h; exact False.elim h
  | succ n ih =>
    intro v h H locs ls hw hl hk0
    replace h : sb_X7_does_10 post k0 (sl_X7_does_10 post k0 n) v := h
    unfold sb_X7_does_10 at h
    refine lv_aload_n hx hb dX7_does_10 rfl (lv_at hl 0 rfl) ?_
    refine x_get C0 hw 7 hiX7 rfl 0 rfl 8 (by decide) 1 rfl rfl dX7_does_11 ?_
    refine lv_aload_n hx hb dX7_does_14 rfl (lv_at hl 0 rfl) ?_
    refine x_get C0 hw 7 hiX7 rfl 0 rfl 7 (by decide) 3 rfl rfl dX7_does_15 ?_
    refine lv_icmp_ge (tgt := 136) hx hb dX7_does_18 (by decide) (fun c_47 => ?_) (fun c_47 => ?_)
    · replace h := h.1 c_47
      exact hk0 _ _ _ _ h hw (lv_sub hl [0] rfl)
    · replace h := h.2 c_47
      refine lv_aload_n hx hb dX7_does_21 rfl (lv_at hl 0 rfl) ?_
      refine x_get C0 hw 7 hiX7 rfl 0 rfl 8 (by decide) 1 rfl rfl dX7_does_22 ?_
      refine lv_istore_n (lv' := [(1, .int (v 0 8)), (0, .ref (aR 0))]) hx hb dX7_does_25 rfl hl (by decide) rfl (fun ls hl => ?_)
      refine lv_aload_n hx hb dX7_does_26 rfl (lv_at hl 1 rfl) ?_
      refine x_cV (As := []) (rest := []) (F := []) C0 hw (p_nil _) hl.1 0 7 rfl rfl (c_X7_word l E aR h) 0 gX7_does_X7_word rfl ⟨rfl, rfl⟩ (by decide +kernel) ⟨Nat.le_of_ble_eq_true rfl, Nat.le_of_ble_eq_true rfl⟩ rfl rfl (Nat.le_of_ble_eq_true rfl) dX7_does_27 ⟨Nat.zero_le _, Nat.zero_le _⟩ (fun r_3 v_4 H locs h (hw : mw E A s.heap H locs (cR E aR v_4)) => ?_)
      refine x_cS (As := [.int r_3]) (rest := []) (F := (cR E aR v_4)) C0 hw (p_non _) hl.1 (c_X7_sort l E  h) 1 gX7_does_X7_sort rfl ⟨rfl, rfl⟩ (by decide +kernel) ⟨Nat.le_of_ble_eq_true rfl, Nat.le_of_ble_eq_true rfl⟩ rfl rfl (Nat.le_of_ble_eq_true rfl) dX7_does_30 ⟨Nat.zero_le _, Nat.zero_le _⟩ (fun r_5 _u H locs h (hw : mw E A s.heap H locs (cR E aR v_4)) => ?_)
      refine lv_istore_n (lv' := [(2, .int r_5), (1, .int (v 0 8)), (0, .ref (aR 0))]) hx hb dX7_does_33 rfl hl (by decide) rfl (fun ls hl => ?_)
      refine lv_aload_n hx hb dX7_does_34 rfl (lv_at hl 2 rfl) ?_
      refine lv_iload_n hx hb dX7_does_35 rfl (lv_at hl 0 rfl) ?_
      refine lv_if_le (tgt := 43) hx hb dX7_does_36 (by decide) (fun c_45 => ?_) (fun c_45 => ?_)
      · replace h := h.1 c_45
        refine lv_iconst (v := 0) hx hb dX7_does_43 (by decide) ?_
        refine x_put (ws' := (cR E aR ((sc v_4 0 11 0)))) C0 hw 7 hiX7 rfl tyX7 tyX7_ok nmX7 0 rfl 11 (by decide) 4 rfl rfl rfl rfl (Nat.le_of_ble_eq_true rfl) rfl dX7_does_44 (fun H locs hw => ?_)
        obtain ⟨v_6, e_v_6⟩ : ∃ z, z = sc v_4 0 11 0 := ⟨_, rfl⟩
        rw [← e_v_6] at hw
        replace h := h v_6 e_v_6
        refine lv_iconst (v := 0) hx hb dX7_does_47 (by decide) ?_
        refine lv_istore_n (lv' := [(3, .int 0), (2, .int r_5), (1, .int (v 0 8)), (0, .ref (aR 0))]) hx hb dX7_does_48 rfl hl (by decide) rfl (fun ls hl => ?_)
        obtain ⟨n_14, h⟩ := h
        refine w_X7_does_49 C0 _ _ _ h _ _ _ hw (lv_sub hl [3, 2, 1, 0] rfl) ?_
        · intro x3_15 v_16 H locs ls h hw hl
          refine lv_aload_n hx hb dX7_does_79 rfl (lv_at hl 0 rfl) ?_
          refine lv_bipush (v := 59) hx hb dX7_does_80 (by decide) ?_
          refine x_cVv (As := [.int 59]) (rest := []) (F := []) C0 hw (p_nil _) hl.1 0 7 rfl rfl (c_X7_takesSign l E aR h) 1 gX7_does_X7_takesSign rfl ⟨rfl, rfl⟩ (by decide +kernel) ⟨Nat.le_of_ble_eq_true rfl, Nat.le_of_ble_eq_true rfl⟩ rfl rfl (Nat.le_of_ble_eq_true rfl) dX7_does_82 ⟨Nat.zero_le _, Nat.zero_le _⟩ (fun v_17 H locs h (hw : mw E A s.heap H locs (cR E aR v_17)) => ?_)
          refine lv_aload_n hx hb dX7_does_85 rfl (lv_at hl 0 rfl) ?_
          refine lv_aload_n hx hb dX7_does_86 rfl (lv_at hl 0 rfl) ?_
          refine x_get C0 hw 7 hiX7 rfl 0 rfl 11 (by decide) 4 rfl rfl dX7_does_87 ?_
          refine lv_if_eq (tgt := 101) hx hb dX7_does_90 (by decide) (fun c_28 => ?_) (fun c_28 => ?_)
          · replace h := h.1 c_28
            refine lv_iconst (v := 0) hx hb dX7_does_101 (by decide) ?_
            refine x_put (ws' := (cR E aR ((sc v_17 0 10 0)))) C0 hw 7 hiX7 rfl tyX7 tyX7_ok nmX7 0 rfl 10 (by decide) 6 rfl rfl rfl rfl (Nat.le_of_ble_eq_true rfl) rfl dX7_does_102 (fun H locs hw => ?_)
            obtain ⟨v_18, e_v_18⟩ : ∃ z, z = sc v_17 0 10 0 := ⟨_, rfl⟩
            rw [← e_v_18] at hw
            replace h := h v_18 e_v_18
            refine lv_aload_n hx hb dX7_does_105 rfl (lv_at hl 0 rfl) ?_
            refine x_get C0 hw 7 hiX7 rfl 0 rfl 11 (by decide) 4 rfl rfl dX7_does_106 ?_
            refine lv_if_eq (tgt := 121) hx hb dX7_does_109 (by decide) (fun c_21 => ?_) (fun c_21 => ?_)
            · replace h := h.1 c_21
              refine lv_iload_n hx hb dX7_does_121 rfl (lv_at hl 1 rfl) ?_
              exact x_ret C0 v_18 hw h dX7_does_122
            · replace h := h.2 c_21
              refine lv_aload_n hx hb dX7_does_112 rfl (lv_at hl 0 rfl) ?_
              refine x_get C0 hw 7 hiX7 rfl 0 rfl 10 (by decide) 6 rfl rfl dX7_does_113 ?_
              refine x_ldc (v := (-10000001)) C0 7 rfl dX7_does_116 ?_
              refine lv_icmp_gt (tgt := 123) hx hb dX7_does_118 (by decide) (fun c_20 => ?_) (fun c_20 => ?_)
              · replace h := h.1 c_20
                refine lv_aload_n hx hb dX7_does_123 rfl (lv_at hl 0 rfl) ?_
                refine lv_dup hx hb dX7_does_124 rfl ?_
                refine x_get C0 hw 7 hiX7 rfl 0 rfl 9 (by decide) 2 rfl rfl dX7_does_125 ?_
                refine lv_iconst (v := 1) hx hb dX7_does_128 (by decide) ?_
                refine lv_iadd hx hb dX7_does_129 ?_
                refine x_put (ws' := (cR E aR ((sc v_18 0 9 ((v_18 0 9) + 1))))) C0 hw 7 hiX7 rfl tyX7 tyX7_ok nmX7 0 rfl 9 (by decide) 2 rfl rfl rfl rfl (Nat.le_of_ble_eq_true rfl) rfl dX7_does_130 (fun H locs hw => ?_)
                obtain ⟨v_19, e_v_19⟩ : ∃ z, z = sc v_18 0 9 ((v_18 0 9) + 1) := ⟨_, rfl⟩
                rw [← e_v_19] at hw
                replace h := h v_19 e_v_19
                refine lv_goto (tgt := 10) hx hb dX7_does_133 (by decide) ?_
                exact ih _ h _ _ _ hw (lv_sub hl [0] rfl) hk0
              · replace h := h.2 c_20
                refine lv_iload_n hx hb dX7_does_121 rfl (lv_at hl 1 rfl) ?_
                exact x_ret C0 v_18 hw h dX7_does_122
          · replace h := h.2 c_28
            refine lv_aload_n hx hb dX7_does_93 rfl (lv_at hl 0 rfl) ?_
            refine lv_iload_n hx hb dX7_does_94 rfl (lv_at hl 2 rfl) ?_
            refine x_cV (As := [.int r_5]) (rest := [.ref (aR 0)]) (F := []) C0 hw (p_nil _) hl.1 0 7 rfl rfl (c_X7_called l E aR h) 1 gX7_does_X7_called rfl ⟨rfl, rfl⟩ (by decide +kernel) ⟨Nat.le_of_ble_eq_true rfl, Nat.le_of_ble_eq_true rfl⟩ rfl rfl (Nat.le_of_ble_eq_true rfl) dX7_does_95 ⟨Nat.zero_le _, Nat.zero_le _⟩ (fun r_22 v_23 H locs h (hw : mw E A s.heap H locs (cR E aR v_23)) => ?_)
            refine lv_goto (tgt := 102) hx hb dX7_does_98 (by decide) ?_
            refine x_put (ws' := (cR E aR ((sc v_23 0 10 r_22)))) C0 hw 7 hiX7 rfl tyX7 tyX7_ok nmX7 0 rfl 10 (by decide) 6 rfl rfl rfl rfl (Nat.le_of_ble_eq_true rfl) rfl dX7_does_102 (fun H locs hw => ?_)
            obtain ⟨v_24, e_v_24⟩ : ∃ z, z = sc v_23 0 10 r_22 := ⟨_, rfl⟩
            rw [← e_v_24] at hw
            replace h := h v_24 e_v_24
            refine lv_aload_n hx hb dX7_does_105 rfl (lv_at hl 0 rfl) ?_
            refine x_get C0 hw 7 hiX7 rfl 0 rfl 11 (by decide) 4 rfl rfl dX7_does_106 ?_
            refine lv_if_eq (tgt := 121) hx hb dX7_does_109 (by decide) (fun c_27 => ?_) (fun c_27 => ?_)
            · replace h := h.1 c_27
              refine lv_iload_n hx hb dX7_does_121 rfl (lv_at hl 1 rfl) ?_
              exact x_ret C0 v_24 hw h dX7_does_122
            · replace h := h.2 c_27
              refine lv_aload_n hx hb dX7_does_112 rfl (lv_at hl 0 rfl) ?_
              refine x_get C0 hw 7 hiX7 rfl 0 rfl 10 (by decide) 6 rfl rfl dX7_does_113 ?_
              refine x_ldc (v := (-10000001)) C0 7 rfl dX7_does_116 ?_
              refine lv_icmp_gt (tgt := 123) hx hb dX7_does_118 (by decide) (fun c_26 => ?_) (fun c_26 => ?_)
              · replace h := h.1 c_26
                refine lv_aload_n hx hb dX7_does_123 rfl (lv_at hl 0 rfl) ?_
                refine lv_dup hx hb dX7_does_124 rfl ?_
                refine x_get C0 hw 7 hiX7 rfl 0 rfl 9 (by decide) 2 rfl rfl dX7_does_125 ?_
                refine lv_iconst (v := 1) hx hb dX7_does_128 (by decide) ?_
                refine lv_iadd hx hb dX7_does_129 ?_
                refine x_put (ws' := (cR E aR ((sc v_24 0 9 ((v_24 0 9) + 1))))) C0 hw 7 hiX7 rfl tyX7 tyX7_ok nmX7 0 rfl 9 (by decide) 2 rfl rfl rfl rfl (Nat.le_of_ble_eq_true rfl) rfl dX7_does_130 (fun H locs hw => ?_)
                obtain ⟨v_25, e_v_25⟩ : ∃ z, z = sc v_24 0 9 ((v_24 0 9) + 1) := ⟨_, rfl⟩
                rw [← e_v_25] at hw
                replace h := h v_25 e_v_25
                refine lv_goto (tgt := 10) hx hb dX7_does_133 (by decide) ?_
                exact ih _ h _ _ _ hw (lv_sub hl [0] rfl) hk0
              · replace h := h.2 c_26
                refine lv_iload_n hx hb dX7_does_121 rfl (lv_at hl 1 rfl) ?_
                exact x_ret C0 v_24 hw h dX7_does_122
      · replace h := h.2 c_45
        refine lv_iconst (v := 1) hx hb dX7_does_39 (by decide) ?_
        refine lv_goto (tgt := 44) hx hb dX7_does_40 (by decide) ?_
        refine x_put (ws' := (cR E aR ((sc v_4 0 11 1)))) C0 hw 7 hiX7 rfl tyX7 tyX7_ok nmX7 0 rfl 11 (by decide) 4 rfl rfl rfl rfl (Nat.le_of_ble_eq_true rfl) rfl dX7_does_44 (fun H locs hw => ?_)
        obtain ⟨v_29, e_v_29⟩ : ∃ z, z = sc v_4 0 11 1 := ⟨_, rfl⟩
        rw [← e_v_29] at hw
        replace h := h v_29 e_v_29
        refine lv_iconst (v := 0) hx hb dX7_does_47 (by decide) ?_
        refine lv_istore_n (lv' := [(3, .int 0), (2, .int r_5), (1, .int (v 0 8)), (0, .ref (aR 0))]) hx hb dX7_does_48 rfl hl (by decide) rfl (fun ls hl => ?_)
        obtain ⟨n_30, h⟩ := h
        refine w_X7_does_49 C0 _ _ _ h _ _ _ hw (lv_sub hl [3, 2, 1, 0] rfl) ?_
        · intro x3_31 v_32 H locs ls h hw hl
          refine lv_aload_n hx hb dX7_does_79 rfl (lv_at hl 0 rfl) ?_
          refine lv_bipush (v := 59) hx hb dX7_does_80 (by decide) ?_
          refine x_cVv (As := [.int 59]) (rest := []) (F := []) C0 hw (p_nil _) hl.1 0 7 rfl rfl (c_X7_takesSign l E aR h) 1 gX7_does_X7_takesSign rfl ⟨rfl, rfl⟩ (by decide +kernel) ⟨Nat.le_of_ble_eq_true rfl, Nat.le_of_ble_eq_true rfl⟩ rfl rfl (Nat.le_of_ble_eq_true rfl) dX7_does_82 ⟨Nat.zero_le _, Nat.zero_le _⟩ (fun v_33 H locs h (hw : mw E A s.heap H locs (cR E aR v_33)) => ?_)
          refine lv_aload_n hx hb dX7_does_85 rfl (lv_at hl 0 rfl) ?_
          refine lv_aload_n hx hb dX7_does_86 rfl (lv_at hl 0 rfl) ?_
          refine x_get C0 hw 7 hiX7 rfl 0 rfl 11 (by decide) 4 rfl rfl dX7_does_87 ?_
          refine lv_if_eq (tgt := 101) hx hb dX7_does_90 (by decide) (fun c_44 => ?_) (fun c_44 => ?_)
          · replace h := h.1 c_44
            refine lv_iconst (v := 0) hx hb dX7_does_101 (by decide) ?_
            refine x_put (ws' := (cR E aR ((sc v_33 0 10 0)))) C0 hw 7 hiX7 rfl tyX7 tyX7_ok nmX7 0 rfl 10 (by decide) 6 rfl rfl rfl rfl (Nat.le_of_ble_eq_true rfl) rfl dX7_does_102 (fun H locs hw => ?_)
            obtain ⟨v_34, e_v_34⟩ : ∃ z, z = sc v_33 0 10 0 := ⟨_, rfl⟩
            rw [← e_v_34] at hw
            replace h := h v_34 e_v_34
            refine lv_aload_n hx hb dX7_does_105 rfl (lv_at hl 0 rfl) ?_
            refine x_get C0 hw 7 hiX7 rfl 0 rfl 11 (by decide) 4 rfl rfl dX7_does_106 ?_
            refine lv_if_eq (tgt := 121) hx hb dX7_does_109 (by decide) (fun c_37 => ?_) (fun c_37 => ?_)
            · replace h := h.1 c_37
              refine lv_iload_n hx hb dX7_does_121 rfl (lv_at hl 1 rfl) ?_
              exact x_ret C0 v_34 hw h dX7_does_122
            · replace h := h.2 c_37
              refine lv_aload_n hx hb dX7_does_112 rfl (lv_at hl 0 rfl) ?_
              refine x_get C0 hw 7 hiX7 rfl 0 rfl 10 (by decide) 6 rfl rfl dX7_does_113 ?_
              refine x_ldc (v := (-10000001)) C0 7 rfl dX7_does_116 ?_
              refine lv_icmp_gt (tgt := 123) hx hb dX7_does_118 (by decide) (fun c_36 => ?_) (fun c_36 => ?_)
              · replace h := h.1 c_36
                refine lv_aload_n hx hb dX7_does_123 rfl (lv_at hl 0 rfl) ?_
                refine lv_dup hx hb dX7_does_124 rfl ?_
                refine x_get C0 hw 7 hiX7 rfl 0 rfl 9 (by decide) 2 rfl rfl dX7_does_125 ?_
                refine lv_iconst (v := 1) hx hb dX7_does_128 (by decide) ?_
                refine lv_iadd hx hb dX7_does_129 ?_
                refine x_put (ws' := (cR E aR ((sc v_34 0 9 ((v_34 0 9) + 1))))) C0 hw 7 hiX7 rfl tyX7 tyX7_ok nmX7 0 rfl 9 (by decide) 2 rfl rfl rfl rfl (Nat.le_of_ble_eq_true rfl) rfl dX7_does_130 (fun H locs hw => ?_)
                obtain ⟨v_35, e_v_35⟩ : ∃ z, z = sc v_34 0 9 ((v_34 0 9) + 1) := ⟨_, rfl⟩
                rw [← e_v_35] at hw
                replace h := h v_35 e_v_35
                refine lv_goto (tgt := 10) hx hb dX7_does_133 (by decide) ?_
                exact ih _ h _ _ _ hw (lv_sub hl [0] rfl) hk0
              · replace h := h.2 c_36
                refine lv_iload_n hx hb dX7_does_121 rfl (lv_at hl 1 rfl) ?_
                exact x_ret C0 v_34 hw h dX7_does_122
          · replace h := h.2 c_44
            refine lv_aload_n hx hb dX7_does_93 rfl (lv_at hl 0 rfl) ?_
            refine lv_iload_n hx hb dX7_does_94 rfl (lv_at hl 2 rfl) ?_
            refine x_cV (As := [.int r_5]) (rest := [.ref (aR 0)]) (F := []) C0 hw (p_nil _) hl.1 0 7 rfl rfl (c_X7_called l E aR h) 1 gX7_does_X7_called rfl ⟨rfl, rfl⟩ (by decide +kernel) ⟨Nat.le_of_ble_eq_true rfl, Nat.le_of_ble_eq_true rfl⟩ rfl rfl (Nat.le_of_ble_eq_true rfl) dX7_does_95 ⟨Nat.zero_le _, Nat.zero_le _⟩ (fun r_38 v_39 H locs h (hw : mw E A s.heap H locs (cR E aR v_39)) => ?_)
            refine lv_goto (tgt := 102) hx hb dX7_does_98 (by decide) ?_
            refine x_put (ws' := (cR E aR ((sc v_39 0 10 r_38)))) C0 hw 7 hiX7 rfl tyX7 tyX7_ok nmX7 0 rfl 10 (by decide) 6 rfl rfl rfl rfl (Nat.le_of_ble_eq_true rfl) rfl dX7_does_102 (fun H locs hw => ?_)
            obtain ⟨v_40, e_v_40⟩ : ∃ z, z = sc v_39 0 10 r_38 := ⟨_, rfl⟩
            rw [← e_v_40] at hw
            replace h := h v_40 e_v_40
            refine lv_aload_n hx hb dX7_does_105 rfl (lv_at hl 0 rfl) ?_
            refine x_get C0 hw 7 hiX7 rfl 0 rfl 11 (by decide) 4 rfl rfl dX7_does_106 ?_
            refine lv_if_eq (tgt := 121) hx hb dX7_does_109 (by decide) (fun c_43 => ?_) (fun c_43 => ?_)
            · replace h := h.1 c_43
              refine lv_iload_n hx hb dX7_does_121 rfl (lv_at hl 1 rfl) ?_
              exact x_ret C0 v_40 hw h dX7_does_122
            · replace h := h.2 c_43
              refine lv_aload_n hx hb dX7_does_112 rfl (lv_at hl 0 rfl) ?_
              refine x_get C0 hw 7 hiX7 rfl 0 rfl 10 (by decide) 6 rfl rfl dX7_does_113 ?_
              refine x_ldc (v := (-10000001)) C0 7 rfl dX7_does_116 ?_
              refine lv_icmp_gt (tgt := 123) hx hb dX7_does_118 (by decide) (fun c_42 => ?_) (fun c_42 => ?_)
              · replace h := h.1 c_42
                refine lv_aload_n hx hb dX7_does_123 rfl (lv_at hl 0 rfl) ?_
                refine lv_dup hx hb dX7_does_124 rfl ?_
                refine x_get C0 hw 7 hiX7 rfl 0 rfl 9 (by decide) 2 rfl rfl dX7_does_125 ?_
                refine lv_iconst (v := 1) hx hb dX7_does_128 (by decide) ?_
                refine lv_iadd hx hb dX7_does_129 ?_
                refine x_put (ws' := (cR E aR ((sc v_40 0 9 ((v_40 0 9) + 1))))) C0 hw 7 hiX7 rfl tyX7 tyX7_ok nmX7 0 rfl 9 (by decide) 2 rfl rfl rfl rfl (Nat.le_of_ble_eq_true rfl) rfl dX7_does_130 (fun H locs hw => ?_)
                obtain ⟨v_41, e_v_41⟩ : ∃ z, z = sc v_40 0 9 ((v_40 0 9) + 1) := ⟨_, rfl⟩
                rw [← e_v_41] at hw
                replace h := h v_41 e_v_41
                refine lv_goto (tgt := 10) hx hb dX7_does_133 (by decide) ?_
                exact ih _ h _ _ _ hw (lv_sub hl [0] rfl) hk0
              · replace h := h.2 c_42
                refine lv_iload_n hx hb dX7_does_121 rfl (lv_at hl 1 rfl) ?_
                exact x_ret C0 v_40 hw h dX7_does_122
set_option maxRecDepth 100000 in
set_option maxHeartbeats 4000000 in
theorem c_X7_does (l : Launch) (E : EE) (aR : Nat → Nat) {v : V}   {post : Int32 → V → Prop} (h : s_X7_does v post) : KI l E yX7_does wsX7_does rmX7_does [.ref (aR 0)] (cR E aR v) post (fun u => cR E aR u) := by
  unfold s_X7_does at h
  refine KI.go (cc := cX7_does) (ret := (some .int)) (maxL := 4) (own := RX7) (by decide) rfl (Nat.le_of_ble_eq_true rfl) rfl (fun p e s m below meth c A ls C0 hw hl => ?_)
  have hx := C0.1
  have hb := C0.2.1
  have hiX7 : ∀ w ∈ wsX70, w ∈ wsX7_does := fun w h => List.mem_cons_of_mem _ (List.mem_append_right _ h)
  replace hl : lv_has ls 4 [(0, .ref (aR 0))] := hl
  refine lv_aload_n hx hb dX7_does_0 rfl (lv_at hl 0 rfl) ?_
  refine lv_iconst (v := 0) hx hb dX7_does_1 (by decide) ?_
  refine x_put (ws' := (cR E aR ((sc v 0 8 0)))) C0 hw 7 hiX7 rfl tyX7 tyX7_ok nmX7 0 rfl 8 (by decide) 1 rfl rfl rfl rfl (Nat.le_of_ble_eq_true rfl) rfl dX7_does_2 (fun H locs hw => ?_)
  obtain ⟨v_1, e_v_1⟩ : ∃ z, z = sc v 0 8 0 := ⟨_, rfl⟩
  rw [← e_v_1] at hw
  replace h := h v_1 e_v_1
  refine lv_aload_n hx hb dX7_does_5 rfl (lv_at hl 0 rfl) ?_
  refine lv_iconst (v := 0) hx hb dX7_does_6 (by decide) ?_
  refine x_put (ws' := (cR E aR ((sc v_1 0 9 0)))) C0 hw 7 hiX7 rfl tyX7 tyX7_ok nmX7 0 rfl 9 (by decide) 2 rfl rfl rfl rfl (Nat.le_of_ble_eq_true rfl) rfl dX7_does_7 (fun H locs hw => ?_)
  obtain ⟨v_2, e_v_2⟩ : ∃ z, z = sc v_1 0 9 0 := ⟨_, rfl⟩
  rw [← e_v_2] at hw
  replace h := h v_2 e_v_2
  obtain ⟨n_48, h⟩ := h
  refine w_X7_does_10 C0 _ _ h _ _ _ hw (lv_sub hl [0] rfl) ?_
  · intro v_49 H locs ls h hw hl
    refine lv_iconst (v := (-1)) hx hb dX7_does_136 (by decide) ?_
    exact x_ret C0 v_49 hw h dX7_does_137

abbrev rmX7_fault : Room := { frames := 7, cells := 0, slots := 0, locals := 169 }
set_option maxRecDepth 100000 in
set_option maxHeartbeats 4000000 in
theorem c_X7_fault (l : Launch) (E : EE) (aR : Nat → Nat) {v : V}  {p1 : Int32} {post : Int32 → V → Prop} (h : s_X7_fault v p1 post) : KI l E yX7_fault wsX7_fault rmX7_fault [.ref (aR 0), .int p1] (cR E aR v) post (fun u => cR E aR u) := by
  unfold s_X7_fault at h
  refine KI.go (cc := cX7_fault) (ret := (some .int)) (maxL := 4) (own := RX7) (by decide) rfl (Nat.le_of_ble_eq_true rfl) rfl (fun p e s m below meth c A ls C0 hw hl => ?_)
  have hx := C0.1
  have hb := C0.2.1
  have hiX7 : ∀ w ∈ wsX70, w ∈ wsX7_fault := fun w h => List.mem_cons_of_mem _ (List.mem_append_right _ h)
  replace hl : lv_has ls 4 [(0, .ref (aR 0)), (1, .int p1)] := hl
  refine lv_iload_n hx hb dX7_fault_0 rfl (lv_at hl 1 rfl) ?_
  refine lv_iconst (v := 0) hx hb dX7_fault_1 (by decide) ?_
  refine lv_iconst (v := 2) hx hb dX7_fault_2 (by decide) ?_
  refine x_cS (As := [.int p1, .int 0, .int 2]) (rest := []) (F := (cR E aR v)) C0 hw (p_non _) hl.1 (c_X7_in l E  h) 3 gX7_fault_X7_in rfl ⟨rfl, rfl⟩ (by decide +kernel) ⟨Nat.le_of_ble_eq_true rfl, Nat.le_of_ble_eq_true rfl⟩ rfl rfl (Nat.le_of_ble_eq_true rfl) dX7_fault_3 ⟨Nat.zero_le _, Nat.zero_le _⟩ (fun r_1 _u H locs h (hw : mw E A s.heap H locs (cR E aR v)) => ?_)
  refine lv_if_ne (tgt := 12) hx hb dX7_fault_6 (by decide) (fun c_15 => ?_) (fun c_15 => ?_)
  · replace h := h.1 c_15
    refine lv_aload_n hx hb dX7_fault_12 rfl (lv_at hl 0 rfl) ?_
    refine x_cVv (As := []) (rest := []) (F := []) C0 hw (p_nil _) hl.1 0 7 rfl rfl (c_X7_begins l E aR h) 0 gX7_fault_X7_begins rfl ⟨rfl, rfl⟩ (by decide +kernel) ⟨Nat.le_of_ble_eq_true rfl, Nat.le_of_ble_eq_true rfl⟩ rfl rfl (Nat.le_of_ble_eq_true rfl) dX7_fault_13 ⟨Nat.zero_le _, Nat.zero_le _⟩ (fun v_2 H locs h (hw : mw E A s.heap H locs (cR E aR v_2)) => ?_)
    refine lv_aload_n hx hb dX7_fault_16 rfl (lv_at hl 0 rfl) ?_
    refine x_cV (As := []) (rest := []) (F := []) C0 hw (p_nil _) hl.1 0 7 rfl rfl (c_X7_does l E aR h) 0 gX7_fault_X7_does rfl ⟨rfl, rfl⟩ (by decide +kernel) ⟨Nat.le_of_ble_eq_true rfl, Nat.le_of_ble_eq_true rfl⟩ rfl rfl (Nat.le_of_ble_eq_true rfl) dX7_fault_17 ⟨Nat.zero_le _, Nat.zero_le _⟩ (fun r_3 v_4 H locs h (hw : mw E A s.heap H locs (cR E aR v_4)) => ?_)
    refine lv_istore_n (lv' := [(2, .int r_3), (0, .ref (aR 0)), (1, .int p1)]) hx hb dX7_fault_20 rfl hl (by decide) rfl (fun ls hl => ?_)
    refine lv_aload_n hx hb dX7_fault_21 rfl (lv_at hl 1 rfl) ?_
    refine x_cVv (As := []) (rest := []) (F := []) C0 hw (p_nil _) hl.1 0 7 rfl rfl (c_X7_returns l E aR h) 0 gX7_fault_X7_returns rfl ⟨rfl, rfl⟩ (by decide +kernel) ⟨Nat.le_of_ble_eq_true rfl, Nat.le_of_ble_eq_true rfl⟩ rfl rfl (Nat.le_of_ble_eq_true rfl) dX7_fault_22 ⟨Nat.zero_le _, Nat.zero_le _⟩ (fun v_5 H locs h (hw : mw E A s.heap H locs (cR E aR v_5)) => ?_)
    refine lv_iload_n hx hb dX7_fault_25 rfl (lv_at hl 0 rfl) ?_
    refine lv_if_lt (tgt := 45) hx hb dX7_fault_26 (by decide) (fun c_14 => ?_) (fun c_14 => ?_)
    · replace h := h.1 c_14
      refine lv_iconst (v := 0) hx hb dX7_fault_45 (by decide) ?_
      refine lv_istore_n (lv' := [(3, .int 0), (2, .int r_3), (0, .ref (aR 0)), (1, .int p1)]) hx hb dX7_fault_46 rfl hl (by decide) rfl (fun ls hl => ?_)
      refine lv_iload_n hx hb dX7_fault_47 rfl (lv_at hl 0 rfl) ?_
      refine lv_if_ne (tgt := 56) hx hb dX7_fault_48 (by decide) (fun c => absurd (by decide) c) (fun _ => ?_)
      refine x_ldc (v := (-10000004)) C0 3 rfl dX7_fault_51 ?_
      refine lv_goto (tgt := 88) hx hb dX7_fault_53 (by decide) ?_
      exact x_ret C0 v_5 hw h dX7_fault_88
    · replace h := h.2 c_14
      refine lv_iload_n hx hb dX7_fault_29 rfl (lv_at hl 2 rfl) ?_
      refine lv_iconst (v := 2) hx hb dX7_fault_30 (by decide) ?_
      refine lv_icmp_lt (tgt := 41) hx hb dX7_fault_31 (by decide) (fun c_13 => ?_) (fun c_13 => ?_)
      · replace h := h.1 c_13
        refine lv_iconst (v := 1) hx hb dX7_fault_41 (by decide) ?_
        refine lv_goto (tgt := 46) hx hb dX7_fault_42 (by decide) ?_
        refine lv_istore_n (lv' := [(3, .int 1), (2, .int r_3), (0, .ref (aR 0)), (1, .int p1)]) hx hb dX7_fault_46 rfl hl (by decide) rfl (fun ls hl => ?_)
        refine lv_iload_n hx hb dX7_fault_47 rfl (lv_at hl 0 rfl) ?_
        refine lv_if_ne (tgt := 56) hx hb dX7_fault_48 (by decide) (fun _ => ?_) (fun c => absurd c (by decide))
        refine lv_iload_n hx hb dX7_fault_56 rfl (lv_at hl 3 rfl) ?_
        refine lv_if_ne (tgt := 64) hx hb dX7_fault_57 (by decide) (fun c_8 => ?_) (fun c_8 => ?_)
        · replace h := h.1 c_8
          refine lv_iload_n hx hb dX7_fault_64 rfl (lv_at hl 3 rfl) ?_
          refine lv_iconst (v := 1) hx hb dX7_fault_65 (by decide) ?_
          refine lv_icmp_ne (tgt := 84) hx hb dX7_fault_66 (by decide) (fun c_7 => ?_) (fun c_7 => ?_)
          · replace h := h.1 c_7
            refine lv_aload_n hx hb dX7_fault_84 rfl (lv_at hl 2 rfl) ?_
            refine x_get C0 hw 7 hiX7 rfl 0 rfl 10 (by decide) 4 rfl rfl dX7_fault_85 ?_
            exact x_ret C0 v_5 hw h dX7_fault_88
          · replace h := h.2 c_7
            refine lv_aload_n hx hb dX7_fault_69 rfl (lv_at hl 2 rfl) ?_
            refine x_get C0 hw 7 hiX7 rfl 0 rfl 11 (by decide) 2 rfl rfl dX7_fault_70 ?_
            refine lv_if_eq (tgt := 80) hx hb dX7_fault_73 (by decide) (fun c_6 => ?_) (fun c_6 => ?_)
            · replace h := h.1 c_6
              refine lv_iconst (v := 1) hx hb dX7_fault_80 (by decide) ?_
              refine lv_goto (tgt := 88) hx hb dX7_fault_81 (by decide) ?_
              exact x_ret C0 v_5 hw h dX7_fault_88
            · replace h := h.2 c_6
              refine lv_iconst (v := 2) hx hb dX7_fault_76 (by decide) ?_
              refine lv_goto (tgt := 88) hx hb dX7_fault_77 (by decide) ?_
              exact x_ret C0 v_5 hw h dX7_fault_88
        · replace h := h.2 c_8
          refine lv_iload_n hx hb dX7_fault_60 rfl (lv_at hl 1 rfl) ?_
          refine lv_goto (tgt := 88) hx hb dX7_fault_61 (by decide) ?_
          exact x_ret C0 v_5 hw h dX7_fault_88
      · replace h := h.2 c_13
        refine lv_aload_n hx hb dX7_fault_34 rfl (lv_at hl 1 rfl) ?_
        refine x_get C0 hw 7 hiX7 rfl 0 rfl 11 (by decide) 2 rfl rfl dX7_fault_35 ?_
        refine lv_if_eq (tgt := 45) hx hb dX7_fault_38 (by decide) (fun c_12 => ?_) (fun c_12 => ?_)
        · replace h := h.1 c_12
          refine lv_iconst (v := 0) hx hb dX7_fault_45 (by decide) ?_
          refine lv_istore_n (lv' := [(3, .int 0), (2, .int r_3), (0, .ref (aR 0)), (1, .int p1)]) hx hb dX7_fault_46 rfl hl (by decide) rfl (fun ls hl => ?_)
          refine lv_iload_n hx hb dX7_fault_47 rfl (lv_at hl 0 rfl) ?_
          refine lv_if_ne (tgt := 56) hx hb dX7_fault_48 (by decide) (fun c => absurd (by decide) c) (fun _ => ?_)
          refine x_ldc (v := (-10000004)) C0 3 rfl dX7_fault_51 ?_
          refine lv_goto (tgt := 88) hx hb dX7_fault_53 (by decide) ?_
          exact x_ret C0 v_5 hw h dX7_fault_88
        · replace h := h.2 c_12
          refine lv_iconst (v := 1) hx hb dX7_fault_41 (by decide) ?_
          refine lv_goto (tgt := 46) hx hb dX7_fault_42 (by decide) ?_
          refine lv_istore_n (lv' := [(3, .int 1), (2, .int r_3), (0, .ref (aR 0)), (1, .int p1)]) hx hb dX7_fault_46 rfl hl (by decide) rfl (fun ls hl => ?_)
          refine lv_iload_n hx hb dX7_fault_47 rfl (lv_at hl 0 rfl) ?_
          refine lv_if_ne (tgt := 56) hx hb dX7_fault_48 (by decide) (fun _ => ?_) (fun c => absurd c (by decide))
          refine lv_iload_n hx hb dX7_fault_56 rfl (lv_at hl 3 rfl) ?_
          refine lv_if_ne (tgt := 64) hx hb dX7_fault_57 (by decide) (fun c_11 => ?_) (fun c_11 => ?_)
          · replace h := h.1 c_11
            refine lv_iload_n hx hb dX7_fault_64 rfl (lv_at hl 3 rfl) ?_
            refine lv_iconst (v := 1) hx hb dX7_fault_65 (by decide) ?_
            refine lv_icmp_ne (tgt := 84) hx hb dX7_fault_66 (by decide) (fun c_10 => ?_) (fun c_10 => ?_)
            · replace h := h.1 c_10
              refine lv_aload_n hx hb dX7_fault_84 rfl (lv_at hl 2 rfl) ?_
              refine x_get C0 hw 7 hiX7 rfl 0 rfl 10 (by decide) 4 rfl rfl dX7_fault_85 ?_
              exact x_ret C0 v_5 hw h dX7_fault_88
            · replace h := h.2 c_10
              refine lv_aload_n hx hb dX7_fault_69 rfl (lv_at hl 2 rfl) ?_
              refine x_get C0 hw 7 hiX7 rfl 0 rfl 11 (by decide) 2 rfl rfl dX7_fault_70 ?_
              refine lv_if_eq (tgt := 80) hx hb dX7_fault_73 (by decide) (fun c_9 => ?_) (fun c_9 => ?_)
              · replace h := h.1 c_9
                refine lv_iconst (v := 1) hx hb dX7_fault_80 (by decide) ?_
                refine lv_goto (tgt := 88) hx hb dX7_fault_81 (by decide) ?_
                exact x_ret C0 v_5 hw h dX7_fault_88
              · replace h := h.2 c_9
                refine lv_iconst (v := 2) hx hb dX7_fault_76 (by decide) ?_
                refine lv_goto (tgt := 88) hx hb dX7_fault_77 (by decide) ?_
                exact x_ret C0 v_5 hw h dX7_fault_88
          · replace h := h.2 c_11
            refine lv_iload_n hx hb dX7_fault_60 rfl (lv_at hl 1 rfl) ?_
            refine lv_goto (tgt := 88) hx hb dX7_fault_61 (by decide) ?_
            exact x_ret C0 v_5 hw h dX7_fault_88
  · replace h := h.2 c_15
    refine x_ldc (v := (-10000001)) C0 1 rfl dX7_fault_9 ?_
    exact x_ret C0 v hw h dX7_fault_11

abbrev rmX7_play : Room := { frames := 7, cells := 0, slots := 0, locals := 169 }
set_option maxRecDepth 100000 in
set_option maxHeartbeats 4000000 in
theorem c_X7_play (l : Launch) (E : EE) (aR : Nat → Nat) {v : V}   {post : Int32 → V → Prop} (h : s_X7_play v post) : KI l E yX7_play wsX7_play rmX7_play [.ref (aR 0)] (cR E aR v) post (fun u => cR E aR u) := by
  unfold s_X7_play at h
  refine KI.go (cc := cX7_play) (ret := (some .int)) (maxL := 1) (own := RX7) (by decide) rfl (Nat.le_of_ble_eq_true rfl) rfl (fun p e s m below meth c A ls C0 hw hl => ?_)
  have hx := C0.1
  have hb := C0.2.1
  have hiX7 : ∀ w ∈ wsX70, w ∈ wsX7_play := fun w h => List.mem_cons_of_mem _ (List.mem_append_right _ h)
  replace hl : lv_has ls 1 [(0, .ref (aR 0))] := hl
  refine lv_aload_n hx hb dX7_play_0 rfl (lv_at hl 0 rfl) ?_
  refine x_cVv (As := []) (rest := []) (F := []) C0 hw (p_nil _) hl.1 0 7 rfl rfl (c_X7_begins l E aR h) 0 gX7_play_X7_begins rfl ⟨rfl, rfl⟩ (by decide +kernel) ⟨Nat.le_of_ble_eq_true rfl, Nat.le_of_ble_eq_true rfl⟩ rfl rfl (Nat.le_of_ble_eq_true rfl) dX7_play_1 ⟨Nat.zero_le _, Nat.zero_le _⟩ (fun v_1 H locs h (hw : mw E A s.heap H locs (cR E aR v_1)) => ?_)
  refine lv_aload_n hx hb dX7_play_4 rfl (lv_at hl 0 rfl) ?_
  refine lv_aload_n hx hb dX7_play_5 rfl (lv_at hl 0 rfl) ?_
  refine x_cV (As := []) (rest := [.ref (aR 0)]) (F := []) C0 hw (p_nil _) hl.1 0 7 rfl rfl (c_X7_does l E aR h) 0 gX7_play_X7_does rfl ⟨rfl, rfl⟩ (by decide +kernel) ⟨Nat.le_of_ble_eq_true rfl, Nat.le_of_ble_eq_true rfl⟩ rfl rfl (Nat.le_of_ble_eq_true rfl) dX7_play_6 ⟨Nat.zero_le _, Nat.zero_le _⟩ (fun r_2 v_3 H locs h (hw : mw E A s.heap H locs (cR E aR v_3)) => ?_)
  refine lv_if_ge (tgt := 19) hx hb dX7_play_9 (by decide) (fun c_8 => ?_) (fun c_8 => ?_)
  · replace h := h.1 c_8
    refine x_ldc (v := (-10000002)) C0 2 rfl dX7_play_19 ?_
    refine x_cV (As := [.int (-10000002)]) (rest := []) (F := []) C0 hw (p_nil _) hl.1 0 7 rfl rfl (c_X7_acted l E aR h) 1 gX7_play_X7_acted rfl ⟨rfl, rfl⟩ (by decide +kernel) ⟨Nat.le_of_ble_eq_true rfl, Nat.le_of_ble_eq_true rfl⟩ rfl rfl (Nat.le_of_ble_eq_true rfl) dX7_play_21 ⟨Nat.zero_le _, Nat.zero_le _⟩ (fun r_4 v_5 H locs h (hw : mw E A s.heap H locs (cR E aR v_5)) => ?_)
    exact x_ret C0 v_5 hw h dX7_play_24
  · replace h := h.2 c_8
    refine lv_aload_n hx hb dX7_play_12 rfl (lv_at hl 0 rfl) ?_
    refine x_get C0 hw 7 hiX7 rfl 0 rfl 9 (by decide) 1 rfl rfl dX7_play_13 ?_
    refine lv_goto (tgt := 21) hx hb dX7_play_16 (by decide) ?_
    refine x_cV (As := [.int (v_3 0 9)]) (rest := []) (F := []) C0 hw (p_nil _) hl.1 0 7 rfl rfl (c_X7_acted l E aR h) 1 gX7_play_X7_acted rfl ⟨rfl, rfl⟩ (by decide +kernel) ⟨Nat.le_of_ble_eq_true rfl, Nat.le_of_ble_eq_true rfl⟩ rfl rfl (Nat.le_of_ble_eq_true rfl) dX7_play_21 ⟨Nat.zero_le _, Nat.zero_le _⟩ (fun r_6 v_7 H locs h (hw : mw E A s.heap H locs (cR E aR v_7)) => ?_)
    exact x_ret C0 v_7 hw h dX7_play_24
