abbrev rmX1_tellStone : Room := { frames := 2, cells := 0, slots := 0, locals := 47 }
set_option maxRecDepth 100000 in
set_option maxHeartbeats 4000000 in
theorem c_X1_tellStone (l : Launch) (E : EE) (a : Nat → Nat) {v : V}  {p1 : Int32} {p2 : Int32} {post : Int32 → V → Prop} (h : s_X1_tellStone v p1 p2 post) : KI l E yX1_tellStone wsX1_tellStone rmX1_tellStone [.ref (a 0), .int p1, .int p2] (cM E a v) post (fun u => cM E a u) := by
  unfold s_X1_tellStone at h
  refine KI.go (cc := cX1_tellStone) (ret := (some .int)) (maxL := 4) (own := RX1) (by decide) rfl (Nat.le_of_ble_eq_true rfl) rfl (fun p e s m below meth c A ls C0 hw hl => ?_)
  have hx := C0.1
  have hb := C0.2.1
  have hiX1 : ∀ w ∈ wsX10, w ∈ wsX1_tellStone := fun w h => List.mem_cons_of_mem _ (List.mem_append_left _ (List.mem_append_left _ (List.mem_append_right _ h)))
  have hiX5 : ∀ w ∈ wsX50, w ∈ wsX1_tellStone := fun w h => List.mem_cons_of_mem _ (List.mem_append_left _ (List.mem_append_right _ h))
  replace hl : lv_has ls 4 [(0, .ref (a 0)), (1, .int p1), (2, .int p2)] := hl
  refine lv_iload_n hx hb dX1_tellStone_0 rfl (lv_at hl 2 rfl) ?_
  by_cases c_1 : p2 = 0
  · replace h := h.1 c_1
    refine x_tabIn (tgt := 60) C0 0 c_1 dX1_tellStone_1 (by decide) (by decide) rfl (by decide) ?_
    refine lv_aload_n hx hb dX1_tellStone_60 rfl (lv_at hl 0 rfl) ?_
    refine x_get C0 hw 1 hiX1 rfl 0 rfl 1 (by decide) 1 rfl rfl dX1_tellStone_61 ?_
    refine x_getN C0 hw 5 hiX5 rfl 6 rfl 1 (by decide) 4 rfl rfl dX1_tellStone_64 ?_
    refine lv_iload_n hx hb dX1_tellStone_67 rfl (lv_at hl 1 rfl) ?_
    obtain ⟨hin, h⟩ := h
    refine x_ald C0 hw 7 rfl hin dX1_tellStone_68 ?_
    exact x_ret C0 v hw h dX1_tellStone_69
  replace h := h.2
  by_cases c_2 : p2 = 1
  · replace h := h.1 c_2
    refine x_tabIn (tgt := 70) C0 1 c_2 dX1_tellStone_1 (by decide) (by decide) rfl (by decide) ?_
    refine lv_aload_n hx hb dX1_tellStone_70 rfl (lv_at hl 0 rfl) ?_
    refine x_get C0 hw 1 hiX1 rfl 0 rfl 1 (by decide) 1 rfl rfl dX1_tellStone_71 ?_
    refine x_getN C0 hw 5 hiX5 rfl 6 rfl 2 (by decide) 5 rfl rfl dX1_tellStone_74 ?_
    refine lv_iload_n hx hb dX1_tellStone_77 rfl (lv_at hl 1 rfl) ?_
    obtain ⟨hin, h⟩ := h
    refine x_ald C0 hw 8 rfl hin dX1_tellStone_78 ?_
    exact x_ret C0 v hw h dX1_tellStone_79
  replace h := h.2
  by_cases c_3 : p2 = 2
  · replace h := h.1 c_3
    refine x_tabIn (tgt := 80) C0 2 c_3 dX1_tellStone_1 (by decide) (by decide) rfl (by decide) ?_
    refine lv_aload_n hx hb dX1_tellStone_80 rfl (lv_at hl 0 rfl) ?_
    refine x_get C0 hw 1 hiX1 rfl 0 rfl 1 (by decide) 1 rfl rfl dX1_tellStone_81 ?_
    refine x_getN C0 hw 5 hiX5 rfl 6 rfl 3 (by decide) 6 rfl rfl dX1_tellStone_84 ?_
    refine lv_iload_n hx hb dX1_tellStone_87 rfl (lv_at hl 1 rfl) ?_
    obtain ⟨hin, h⟩ := h
    refine x_ald C0 hw 9 rfl hin dX1_tellStone_88 ?_
    exact x_ret C0 v hw h dX1_tellStone_89
  replace h := h.2
  by_cases c_6 : p2 = 3
  · replace h := h.1 c_6
    refine x_tabIn (tgt := 90) C0 3 c_6 dX1_tellStone_1 (by decide) (by decide) rfl (by decide) ?_
    refine lv_aload_n hx hb dX1_tellStone_90 rfl (lv_at hl 0 rfl) ?_
    refine x_get C0 hw 1 hiX1 rfl 0 rfl 1 (by decide) 1 rfl rfl dX1_tellStone_91 ?_
    refine lv_iload_n hx hb dX1_tellStone_94 rfl (lv_at hl 1 rfl) ?_
    refine x_cV (As := [.int p1]) (rest := []) (F := []) C0 hw (p_nil _) hl.1 6 5 rfl rfl (c_X5_sieveOf l E a h) 1 gX1_tellStone_X5_sieveOf rfl ⟨rfl, rfl⟩ (by decide +kernel) ⟨Nat.le_of_ble_eq_true rfl, Nat.le_of_ble_eq_true rfl⟩ rfl rfl (Nat.le_of_ble_eq_true rfl) dX1_tellStone_95 ⟨Nat.zero_le _, Nat.zero_le _⟩ (fun r_4 v_5 H locs h (hw : mw E A s.heap H locs (cM E a v_5)) => ?_)
    exact x_ret C0 v_5 hw h dX1_tellStone_98
  replace h := h.2
  by_cases c_10 : p2 = 4
  · replace h := h.1 c_10
    refine x_tabIn (tgt := 99) C0 4 c_10 dX1_tellStone_1 (by decide) (by decide) rfl (by decide) ?_
    refine lv_aload_n hx hb dX1_tellStone_99 rfl (lv_at hl 0 rfl) ?_
    refine x_get C0 hw 1 hiX1 rfl 0 rfl 1 (by decide) 1 rfl rfl dX1_tellStone_100 ?_
    refine lv_iload_n hx hb dX1_tellStone_103 rfl (lv_at hl 1 rfl) ?_
    refine x_cV (As := [.int p1]) (rest := []) (F := []) C0 hw (p_nil _) hl.1 6 5 rfl rfl (c_X5_isSold l E a h) 1 gX1_tellStone_X5_isSold rfl ⟨rfl, rfl⟩ (by decide +kernel) ⟨Nat.le_of_ble_eq_true rfl, Nat.le_of_ble_eq_true rfl⟩ rfl rfl (Nat.le_of_ble_eq_true rfl) dX1_tellStone_104 ⟨Nat.zero_le _, Nat.zero_le _⟩ (fun r_7 v_8 H locs h (hw : mw E A s.heap H locs (cM E a v_8)) => ?_)
    refine lv_if_eq (tgt := 115) hx hb dX1_tellStone_107 (by decide) (fun c_9 => ?_) (fun c_9 => ?_)
    · replace h := h.1 c_9
      refine lv_aload_n hx hb dX1_tellStone_115 rfl (lv_at hl 0 rfl) ?_
      refine x_get C0 hw 1 hiX1 rfl 0 rfl 1 (by decide) 1 rfl rfl dX1_tellStone_116 ?_
      refine x_getN C0 hw 5 hiX5 rfl 6 rfl 4 (by decide) 7 rfl rfl dX1_tellStone_119 ?_
      refine lv_iload_n hx hb dX1_tellStone_122 rfl (lv_at hl 1 rfl) ?_
      obtain ⟨hin, h⟩ := h
      refine x_ald C0 hw 10 rfl hin dX1_tellStone_123 ?_
      exact x_ret C0 v_8 hw h dX1_tellStone_124
    · replace h := h.2 c_9
      refine x_ldc (v := (-10000004)) C0 2 rfl dX1_tellStone_110 ?_
      refine lv_goto (tgt := 124) hx hb dX1_tellStone_112 (by decide) ?_
      exact x_ret C0 v_8 hw h dX1_tellStone_124
  replace h := h.2
  by_cases c_14 : p2 = 5
  · replace h := h.1 c_14
    refine x_tabIn (tgt := 125) C0 5 c_14 dX1_tellStone_1 (by decide) (by decide) rfl (by decide) ?_
    refine lv_aload_n hx hb dX1_tellStone_125 rfl (lv_at hl 0 rfl) ?_
    refine x_get C0 hw 1 hiX1 rfl 0 rfl 1 (by decide) 1 rfl rfl dX1_tellStone_126 ?_
    refine lv_iload_n hx hb dX1_tellStone_129 rfl (lv_at hl 1 rfl) ?_
    refine x_cV (As := [.int p1]) (rest := []) (F := []) C0 hw (p_nil _) hl.1 6 5 rfl rfl (c_X5_isSold l E a h) 1 gX1_tellStone_X5_isSold rfl ⟨rfl, rfl⟩ (by decide +kernel) ⟨Nat.le_of_ble_eq_true rfl, Nat.le_of_ble_eq_true rfl⟩ rfl rfl (Nat.le_of_ble_eq_true rfl) dX1_tellStone_130 ⟨Nat.zero_le _, Nat.zero_le _⟩ (fun r_11 v_12 H locs h (hw : mw E A s.heap H locs (cM E a v_12)) => ?_)
    refine lv_if_eq (tgt := 141) hx hb dX1_tellStone_133 (by decide) (fun c_13 => ?_) (fun c_13 => ?_)
    · replace h := h.1 c_13
      refine lv_aload_n hx hb dX1_tellStone_141 rfl (lv_at hl 0 rfl) ?_
      refine x_get C0 hw 1 hiX1 rfl 0 rfl 1 (by decide) 1 rfl rfl dX1_tellStone_142 ?_
      refine x_getN C0 hw 5 hiX5 rfl 6 rfl 5 (by decide) 8 rfl rfl dX1_tellStone_145 ?_
      refine lv_iload_n hx hb dX1_tellStone_148 rfl (lv_at hl 1 rfl) ?_
      obtain ⟨hin, h⟩ := h
      refine x_ald C0 hw 11 rfl hin dX1_tellStone_149 ?_
      exact x_ret C0 v_12 hw h dX1_tellStone_150
    · replace h := h.2 c_13
      refine x_ldc (v := (-10000004)) C0 2 rfl dX1_tellStone_136 ?_
      refine lv_goto (tgt := 150) hx hb dX1_tellStone_138 (by decide) ?_
      exact x_ret C0 v_12 hw h dX1_tellStone_150
  replace h := h.2
  by_cases c_18 : p2 = 6
  · replace h := h.1 c_18
    refine x_tabIn (tgt := 151) C0 6 c_18 dX1_tellStone_1 (by decide) (by decide) rfl (by decide) ?_
    refine lv_aload_n hx hb dX1_tellStone_151 rfl (lv_at hl 0 rfl) ?_
    refine lv_iload_n hx hb dX1_tellStone_152 rfl (lv_at hl 1 rfl) ?_
    refine x_cV (As := [.int p1]) (rest := []) (F := []) C0 hw (p_nil _) hl.1 0 1 rfl rfl (c_X1_priceOf l E a h) 1 gX1_tellStone_X1_priceOf rfl ⟨rfl, rfl⟩ (by decide +kernel) ⟨Nat.le_of_ble_eq_true rfl, Nat.le_of_ble_eq_true rfl⟩ rfl rfl (Nat.le_of_ble_eq_true rfl) dX1_tellStone_153 ⟨Nat.zero_le _, Nat.zero_le _⟩ (fun r_15 v_16 H locs h (hw : mw E A s.heap H locs (cM E a v_16)) => ?_)
    refine lv_istore_n (lv' := [(3, .int r_15), (0, .ref (a 0)), (1, .int p1), (2, .int p2)]) hx hb dX1_tellStone_156 rfl hl (by decide) rfl (fun ls hl => ?_)
    refine lv_iload_n hx hb dX1_tellStone_157 rfl (lv_at hl 0 rfl) ?_
    refine lv_iconst (v := (-1)) hx hb dX1_tellStone_158 (by decide) ?_
    refine lv_icmp_ne (tgt := 167) hx hb dX1_tellStone_159 (by decide) (fun c_17 => ?_) (fun c_17 => ?_)
    · replace h := h.1 c_17
      refine lv_iload_n hx hb dX1_tellStone_167 rfl (lv_at hl 0 rfl) ?_
      exact x_ret C0 v_16 hw h dX1_tellStone_168
    · replace h := h.2 c_17
      refine x_ldc (v := (-10000004)) C0 2 rfl dX1_tellStone_162 ?_
      refine lv_goto (tgt := 168) hx hb dX1_tellStone_164 (by decide) ?_
      exact x_ret C0 v_16 hw h dX1_tellStone_168
  replace h := h.2
  by_cases c_22 : p2 = 7
  · replace h := h.1 c_22
    refine x_tabIn (tgt := 169) C0 7 c_22 dX1_tellStone_1 (by decide) (by decide) rfl (by decide) ?_
    refine lv_aload_n hx hb dX1_tellStone_169 rfl (lv_at hl 0 rfl) ?_
    refine x_get C0 hw 1 hiX1 rfl 0 rfl 1 (by decide) 1 rfl rfl dX1_tellStone_170 ?_
    refine lv_iload_n hx hb dX1_tellStone_173 rfl (lv_at hl 1 rfl) ?_
    refine x_cV (As := [.int p1]) (rest := []) (F := []) C0 hw (p_nil _) hl.1 6 5 rfl rfl (c_X5_isOut l E a h) 1 gX1_tellStone_X5_isOut rfl ⟨rfl, rfl⟩ (by decide +kernel) ⟨Nat.le_of_ble_eq_true rfl, Nat.le_of_ble_eq_true rfl⟩ rfl rfl (Nat.le_of_ble_eq_true rfl) dX1_tellStone_174 ⟨Nat.zero_le _, Nat.zero_le _⟩ (fun r_19 v_20 H locs h (hw : mw E A s.heap H locs (cM E a v_20)) => ?_)
    refine lv_if_eq (tgt := 192) hx hb dX1_tellStone_177 (by decide) (fun c_21 => ?_) (fun c_21 => ?_)
    · replace h := h.1 c_21
      refine x_ldc (v := (-10000004)) C0 2 rfl dX1_tellStone_192 ?_
      exact x_ret C0 v_20 hw h dX1_tellStone_194
    · replace h := h.2 c_21
      refine lv_aload_n hx hb dX1_tellStone_180 rfl (lv_at hl 0 rfl) ?_
      refine x_get C0 hw 1 hiX1 rfl 0 rfl 1 (by decide) 1 rfl rfl dX1_tellStone_181 ?_
      refine x_getN C0 hw 5 hiX5 rfl 6 rfl 6 (by decide) 9 rfl rfl dX1_tellStone_184 ?_
      refine lv_iload_n hx hb dX1_tellStone_187 rfl (lv_at hl 1 rfl) ?_
      obtain ⟨hin, h⟩ := h
      refine x_ald C0 hw 12 rfl hin dX1_tellStone_188 ?_
      refine lv_goto (tgt := 194) hx hb dX1_tellStone_189 (by decide) ?_
      exact x_ret C0 v_20 hw h dX1_tellStone_194
  replace h := h.2
  by_cases c_26 : p2 = 8
  · replace h := h.1 c_26
    refine x_tabIn (tgt := 195) C0 8 c_26 dX1_tellStone_1 (by decide) (by decide) rfl (by decide) ?_
    refine lv_aload_n hx hb dX1_tellStone_195 rfl (lv_at hl 0 rfl) ?_
    refine x_get C0 hw 1 hiX1 rfl 0 rfl 1 (by decide) 1 rfl rfl dX1_tellStone_196 ?_
    refine lv_iload_n hx hb dX1_tellStone_199 rfl (lv_at hl 1 rfl) ?_
    refine x_cV (As := [.int p1]) (rest := []) (F := []) C0 hw (p_nil _) hl.1 6 5 rfl rfl (c_X5_isOut l E a h) 1 gX1_tellStone_X5_isOut rfl ⟨rfl, rfl⟩ (by decide +kernel) ⟨Nat.le_of_ble_eq_true rfl, Nat.le_of_ble_eq_true rfl⟩ rfl rfl (Nat.le_of_ble_eq_true rfl) dX1_tellStone_200 ⟨Nat.zero_le _, Nat.zero_le _⟩ (fun r_23 v_24 H locs h (hw : mw E A s.heap H locs (cM E a v_24)) => ?_)
    refine lv_if_eq (tgt := 218) hx hb dX1_tellStone_203 (by decide) (fun c_25 => ?_) (fun c_25 => ?_)
    · replace h := h.1 c_25
      refine x_ldc (v := (-10000004)) C0 2 rfl dX1_tellStone_218 ?_
      exact x_ret C0 v_24 hw h dX1_tellStone_220
    · replace h := h.2 c_25
      refine lv_aload_n hx hb dX1_tellStone_206 rfl (lv_at hl 0 rfl) ?_
      refine x_get C0 hw 1 hiX1 rfl 0 rfl 1 (by decide) 1 rfl rfl dX1_tellStone_207 ?_
      refine x_getN C0 hw 5 hiX5 rfl 6 rfl 7 (by decide) 10 rfl rfl dX1_tellStone_210 ?_
      refine lv_iload_n hx hb dX1_tellStone_213 rfl (lv_at hl 1 rfl) ?_
      obtain ⟨hin, h⟩ := h
      refine x_ald C0 hw 13 rfl hin dX1_tellStone_214 ?_
      refine lv_goto (tgt := 220) hx hb dX1_tellStone_215 (by decide) ?_
      exact x_ret C0 v_24 hw h dX1_tellStone_220
  replace h := h.2
  by_cases c_30 : p2 = 9
  · replace h := h.1 c_30
    refine x_tabIn (tgt := 221) C0 9 c_30 dX1_tellStone_1 (by decide) (by decide) rfl (by decide) ?_
    refine lv_aload_n hx hb dX1_tellStone_221 rfl (lv_at hl 0 rfl) ?_
    refine x_get C0 hw 1 hiX1 rfl 0 rfl 1 (by decide) 1 rfl rfl dX1_tellStone_222 ?_
    refine lv_iload_n hx hb dX1_tellStone_225 rfl (lv_at hl 1 rfl) ?_
    refine x_cV (As := [.int p1]) (rest := []) (F := []) C0 hw (p_nil _) hl.1 6 5 rfl rfl (c_X5_isSold l E a h) 1 gX1_tellStone_X5_isSold rfl ⟨rfl, rfl⟩ (by decide +kernel) ⟨Nat.le_of_ble_eq_true rfl, Nat.le_of_ble_eq_true rfl⟩ rfl rfl (Nat.le_of_ble_eq_true rfl) dX1_tellStone_226 ⟨Nat.zero_le _, Nat.zero_le _⟩ (fun r_27 v_28 H locs h (hw : mw E A s.heap H locs (cM E a v_28)) => ?_)
    refine lv_if_eq (tgt := 244) hx hb dX1_tellStone_229 (by decide) (fun c_29 => ?_) (fun c_29 => ?_)
    · replace h := h.1 c_29
      refine x_ldc (v := (-10000004)) C0 2 rfl dX1_tellStone_244 ?_
      exact x_ret C0 v_28 hw h dX1_tellStone_246
    · replace h := h.2 c_29
      refine lv_aload_n hx hb dX1_tellStone_232 rfl (lv_at hl 0 rfl) ?_
      refine x_get C0 hw 1 hiX1 rfl 0 rfl 1 (by decide) 1 rfl rfl dX1_tellStone_233 ?_
      refine x_getN C0 hw 5 hiX5 rfl 6 rfl 8 (by decide) 11 rfl rfl dX1_tellStone_236 ?_
      refine lv_iload_n hx hb dX1_tellStone_239 rfl (lv_at hl 1 rfl) ?_
      obtain ⟨hin, h⟩ := h
      refine x_ald C0 hw 14 rfl hin dX1_tellStone_240 ?_
      refine lv_goto (tgt := 246) hx hb dX1_tellStone_241 (by decide) ?_
      exact x_ret C0 v_28 hw h dX1_tellStone_246
  replace h := h.2
  by_cases c_31 : p2 = 10
  · replace h := h.1 c_31
    refine x_tabIn (tgt := 247) C0 10 c_31 dX1_tellStone_1 (by decide) (by decide) rfl (by decide) ?_
    refine lv_aload_n hx hb dX1_tellStone_247 rfl (lv_at hl 0 rfl) ?_
    refine x_get C0 hw 1 hiX1 rfl 0 rfl 1 (by decide) 1 rfl rfl dX1_tellStone_248 ?_
    refine x_getN C0 hw 5 hiX5 rfl 6 rfl 9 (by decide) 12 rfl rfl dX1_tellStone_251 ?_
    refine lv_iload_n hx hb dX1_tellStone_254 rfl (lv_at hl 1 rfl) ?_
    obtain ⟨hin, h⟩ := h
    refine x_ald C0 hw 15 rfl hin dX1_tellStone_255 ?_
    exact x_ret C0 v hw h dX1_tellStone_256
  replace h := h.2
  have cD : p2.toInt < 0 ∨ 10 < p2.toInt := by
    have := ne_toInt (z := 0) (by decide) c_1
    have := ne_toInt (z := 1) (by decide) c_2
    have := ne_toInt (z := 2) (by decide) c_3
    have := ne_toInt (z := 3) (by decide) c_6
    have := ne_toInt (z := 4) (by decide) c_10
    have := ne_toInt (z := 5) (by decide) c_14
    have := ne_toInt (z := 6) (by decide) c_18
    have := ne_toInt (z := 7) (by decide) c_22
    have := ne_toInt (z := 8) (by decide) c_26
    have := ne_toInt (z := 9) (by decide) c_30
    have := ne_toInt (z := 10) (by decide) c_31
    omega
  replace h := h cD
  refine lv_tableOut (tgt := 257) hx hb dX1_tellStone_1 cD (by decide) ?_
  refine x_ldc (v := (-10000001)) C0 3 rfl dX1_tellStone_257 ?_
  exact x_ret C0 v hw h dX1_tellStone_259

abbrev rmX1_worthOf : Room := { frames := 2, cells := 0, slots := 0, locals := 47 }
set_option maxRecDepth 100000 in
set_option maxHeartbeats 4000000 in
theorem w_X1_worthOf_4 {p : Program} {l : Launch} {e : Env} {s : State} {m : MethodId} {below : List Frame} {meth : Method} {c : Code} {E : EE} {A : Nat → Prop} {a : Nat → Nat} {args : Array Value} (C0 : Cx E p s m args meth c A cX1_worthOf 5 RX1 wsX1_worthOf (some .int)) {post : Int32 → V → Prop}  {f1 : Int32} {k0 : Int32 → Int32 → V → Prop} : ∀ (n : Nat) (x2 : Int32) (x3 : Int32) (v : V), sl_X1_worthOf_4 post f1 k0 n x2 x3 v → ∀ (H : Heap) (locs : List Loc) (ls : Array Slot), mw E A s.heap H locs (cM E a v) → lv_has ls 5 [(0, .ref (a 0)), (1, .int f1), (2, .int x2), (3, .int x3)] → (∀ (x2 : Int32) (x3 : Int32) (v : V) (H : Heap) (locs : List Loc) (ls : Array Slot), k0 x2 x3 v → mw E A s.heap H locs (cM E a v) → lv_has ls 5 [(0, .ref (a 0)), (1, .int f1), (2, .int x2), (3, .int x3)] → W p l e rmX1_worthOf s m args below meth c H locs 0 0 (qI E A post (fun u => cM E a u) below args s) (F0 m 52 ls [])) → W p l e rmX1_worthOf s m args below meth c H locs 0 0 (qI E A post (fun u => cM E a u) below args s) (F0 m 4 ls []) := by
  have hx := C0.1
  have hb := C0.2.1
  have hiX1 : ∀ w ∈ wsX10, w ∈ wsX1_worthOf := fun w h => List.mem_cons_of_mem _ (List.mem_append_left _ (List.mem_append_left _ (List.mem_append_right _ h)))
  have hiX5 : ∀ w ∈ wsX50, w ∈ wsX1_worthOf := fun w h => List.mem_cons_of_mem _ (List.mem_append_left _ (List.mem_append_right _ h))
  intro n
  induction n with
  | zero => intro x2 x3 v h; exact False.elim h
  | succ n ih =>
    intro x2 x3 v h H locs ls hw hl hk0
    replace h : sb_X1_worthOf_4 post f1 k0 (sl_X1_worthOf_4 post f1 k0 n) x2 x3 v := h
    unfold sb_X1_worthOf_4 at h
    refine lv_iload_n hx hb dX1_worthOf_4 rfl (lv_at hl 3 rfl) ?_
    refine lv_aload_n hx hb dX1_worthOf_5 rfl (lv_at hl 0 rfl) ?_
    refine x_get C0 hw 1 hiX1 rfl 0 rfl 1 (by decide) 1 rfl rfl dX1_worthOf_6 ?_
    refine x_getN C0 hw 5 hiX5 rfl 6 rfl 0 (by decide) 3 rfl rfl dX1_worthOf_9 ?_
    refine lv_icmp_ge (tgt := 52) hx hb dX1_worthOf_12 (by decide) (fun c_5 => ?_) (fun c_5 => ?_)
    · replace h := h.1 c_5
      exact hk0 _ _ _ _ _ _ h hw (lv_sub hl [0, 1, 2, 3] rfl)
    · replace h := h.2 c_5
      refine lv_aload_n hx hb dX1_worthOf_15 rfl (lv_at hl 0 rfl) ?_
      refine lv_iload_n hx hb dX1_worthOf_16 rfl (lv_at hl 3 rfl) ?_
      refine x_cV (As := [.int x3]) (rest := []) (F := []) C0 hw (p_nil _) hl.1 0 1 rfl rfl (c_X1_priceOf l E a h) 1 gX1_worthOf_X1_priceOf rfl ⟨rfl, rfl⟩ (by decide +kernel) ⟨Nat.le_of_ble_eq_true rfl, Nat.le_of_ble_eq_true rfl⟩ rfl rfl (Nat.le_of_ble_eq_true rfl) dX1_worthOf_17 ⟨Nat.zero_le _, Nat.zero_le _⟩ (fun r_1 v_2 H locs h (hw : mw E A s.heap H locs (cM E a v_2)) => ?_)
      refine lv_istore (lv' := [(4, .int r_1), (0, .ref (a 0)), (1, .int f1), (2, .int x2), (3, .int x3)]) hx hb dX1_worthOf_20 hl (by decide) rfl (fun ls hl => ?_)
      refine lv_aload_n hx hb dX1_worthOf_22 rfl (lv_at hl 1 rfl) ?_
      refine x_get C0 hw 1 hiX1 rfl 0 rfl 1 (by decide) 1 rfl rfl dX1_worthOf_23 ?_
      refine x_getN C0 hw 5 hiX5 rfl 6 rfl 4 (by decide) 7 rfl rfl dX1_worthOf_26 ?_
      refine lv_iload_n hx hb dX1_worthOf_29 rfl (lv_at hl 4 rfl) ?_
      obtain ⟨hin, h⟩ := h
      refine x_ald C0 hw 10 rfl hin dX1_worthOf_30 ?_
      refine lv_iload_n hx hb dX1_worthOf_31 rfl (lv_at hl 2 rfl) ?_
      refine lv_icmp_ne (tgt := 46) hx hb dX1_worthOf_32 (by decide) (fun c_4 => ?_) (fun c_4 => ?_)
      · replace h := h.1 c_4
        refine lv_iinc (v := (x3 + 1)) (lv' := [(3, .int (x3 + 1)), (4, .int r_1), (0, .ref (a 0)), (1, .int f1), (2, .int x2)]) hx hb dX1_worthOf_46 hl (k := 4) rfl rfl (by decide) rfl (fun ls hl => ?_)
        refine lv_goto (tgt := 4) hx hb dX1_worthOf_49 (by decide) ?_
        exact ih _ _ _ h _ _ _ hw (lv_sub hl [2, 3, 4, 0] rfl) hk0
      · replace h := h.2 c_4
        refine lv_iload hx hb dX1_worthOf_35 (lv_at hl 0 rfl) ?_
        refine lv_iconst (v := (-1)) hx hb dX1_worthOf_37 (by decide) ?_
        refine lv_icmp_eq (tgt := 46) hx hb dX1_worthOf_38 (by decide) (fun c_3 => ?_) (fun c_3 => ?_)
        · replace h := h.1 c_3
          refine lv_iinc (v := (x3 + 1)) (lv' := [(3, .int (x3 + 1)), (4, .int r_1), (0, .ref (a 0)), (1, .int f1), (2, .int x2)]) hx hb dX1_worthOf_46 hl (k := 4) rfl rfl (by decide) rfl (fun ls hl => ?_)
          refine lv_goto (tgt := 4) hx hb dX1_worthOf_49 (by decide) ?_
          exact ih _ _ _ h _ _ _ hw (lv_sub hl [2, 3, 4, 0] rfl) hk0
        · replace h := h.2 c_3
          refine lv_iload_n hx hb dX1_worthOf_41 rfl (lv_at hl 3 rfl) ?_
          refine lv_iload hx hb dX1_worthOf_42 (lv_at hl 0 rfl) ?_
          refine lv_iadd hx hb dX1_worthOf_44 ?_
          refine lv_istore_n (lv' := [(2, .int (x2 + r_1)), (4, .int r_1), (0, .ref (a 0)), (1, .int f1), (3, .int x3)]) hx hb dX1_worthOf_45 rfl hl (by decide) rfl (fun ls hl => ?_)
          refine lv_iinc (v := (x3 + 1)) (lv' := [(3, .int (x3 + 1)), (2, .int (x2 + r_1)), (4, .int r_1), (0, .ref (a 0)), (1, .int f1)]) hx hb dX1_worthOf_46 hl (k := 4) rfl rfl (by decide) rfl (fun ls hl => ?_)
          refine lv_goto (tgt := 4) hx hb dX1_worthOf_49 (by decide) ?_
          exact ih _ _ _ h _ _ _ hw (lv_sub hl [3, 4, 1, 0] rfl) hk0
set_option maxRecDepth 100000 in
set_option maxHeartbeats 4000000 in
theorem c_X1_worthOf (l : Launch) (E : EE) (a : Nat → Nat) {v : V}  {p1 : Int32} {post : Int32 → V → Prop} (h : s_X1_worthOf v p1 post) : KI l E yX1_worthOf wsX1_worthOf rmX1_worthOf [.ref (a 0), .int p1] (cM E a v) post (fun u => cM E a u) := by
  unfold s_X1_worthOf at h
  refine KI.go (cc := cX1_worthOf) (ret := (some .int)) (maxL := 5) (own := RX1) (by decide) rfl (Nat.le_of_ble_eq_true rfl) rfl (fun p e s m below meth c A ls C0 hw hl => ?_)
  have hx := C0.1
  have hb := C0.2.1
  have hiX1 : ∀ w ∈ wsX10, w ∈ wsX1_worthOf := fun w h => List.mem_cons_of_mem _ (List.mem_append_left _ (List.mem_append_left _ (List.mem_append_right _ h)))
  have hiX5 : ∀ w ∈ wsX50, w ∈ wsX1_worthOf := fun w h => List.mem_cons_of_mem _ (List.mem_append_left _ (List.mem_append_right _ h))
  replace hl : lv_has ls 5 [(0, .ref (a 0)), (1, .int p1)] := hl
  refine lv_iconst (v := 0) hx hb dX1_worthOf_0 (by decide) ?_
  refine lv_istore_n (lv' := [(2, .int 0), (0, .ref (a 0)), (1, .int p1)]) hx hb dX1_worthOf_1 rfl hl (by decide) rfl (fun ls hl => ?_)
  refine lv_iconst (v := 0) hx hb dX1_worthOf_2 (by decide) ?_
  refine lv_istore_n (lv' := [(3, .int 0), (2, .int 0), (0, .ref (a 0)), (1, .int p1)]) hx hb dX1_worthOf_3 rfl hl (by decide) rfl (fun ls hl => ?_)
  obtain ⟨n_6, h⟩ := h
  refine w_X1_worthOf_4 C0 _ _ _ _ h _ _ _ hw (lv_sub hl [2, 3, 1, 0] rfl) ?_
  · intro x2_7 x3_8 v_9 H locs ls h hw hl
    refine lv_iload_n hx hb dX1_worthOf_52 rfl (lv_at hl 2 rfl) ?_
    exact x_ret C0 v_9 hw h dX1_worthOf_53

set_option maxRecDepth 100000 in
set_option maxHeartbeats 4000000 in
theorem w_X5_setWhere_10_5 {p : Program} {l : Launch} {e : Env} {s : State} {m : MethodId} {below : List Frame} {meth : Method} {c : Code} {E : EE} {A : Nat → Prop} {a : Nat → Nat} {args : Array Value} (C0 : Cx E p s m args meth c A cX5_setWhere 5 RX5 wsX5_setWhere (some .int)) {post : Int32 → V → Prop}  {f2 : Int32} {k0 : Int32 → Int32 → V → Prop} : ∀ (n : Nat) (x3 : Int32) (x4 : Int32) (v : V), sl_X5_setWhere_10_5 post f2 k0 n x3 x4 v → ∀ (H : Heap) (locs : List Loc) (ls : Array Slot), mw E A s.heap H locs (cM E a v) → lv_has ls 5 [(0, .ref (a 6)), (1, .ref (a 10)), (2, .int f2), (3, .int x3), (4, .int x4)] → (∀ (x3 : Int32) (x4 : Int32) (v : V) (H : Heap) (locs : List Loc) (ls : Array Slot), k0 x3 x4 v → mw E A s.heap H locs (cM E a v) → lv_has ls 5 [(0, .ref (a 6)), (1, .ref (a 10)), (2, .int f2), (3, .int x3), (4, .int x4)] → W p l e rmX5_setWhere s m args below meth c H locs 0 0 (qI E A post (fun u => cM E a u) below args s) (F0 m 35 ls [])) → W p l e rmX5_setWhere s m args below meth c H locs 0 0 (qI E A post (fun u => cM E a u) below args s) (F0 m 5 ls []) := by
  have hx := C0.1
  have hb := C0.2.1
  have hiX5 : ∀ w ∈ wsX50, w ∈ wsX5_setWhere := fun w h => List.mem_cons_of_mem _ (List.mem_append_right _ h)
  intro n
  induction n with
  | zero => intro x3 x4 v h; exact False.elim h
  | succ n ih =>
    intro x3 x4 v h H locs ls hw hl hk0
    replace h : sb_X5_setWhere_10_5 post f2 k0 (sl_X5_setWhere_10_5 post f2 k0 n) x3 x4 v := h
    unfold sb_X5_setWhere_10_5 at h
    refine lv_iload hx hb dX5_setWhere_5 (lv_at hl 4 rfl) ?_
    refine lv_aload_n hx hb dX5_setWhere_7 rfl (lv_at hl 0 rfl) ?_
    refine x_get C0 hw 5 hiX5 rfl 6 rfl 0 (by decide) 1 rfl rfl dX5_setWhere_8 ?_
    refine lv_icmp_ge (tgt := 35) hx hb dX5_setWhere_11 (by decide) (fun c_2 => ?_) (fun c_2 => ?_)
    · replace h := h.1 c_2
      exact hk0 _ _ _ _ _ _ h hw (lv_sub hl [0, 1, 2, 3, 4] rfl)
    · replace h := h.2 c_2
      refine lv_aload_n hx hb dX5_setWhere_14 rfl (lv_at hl 1 rfl) ?_
      refine lv_iload hx hb dX5_setWhere_15 (lv_at hl 4 rfl) ?_
      obtain ⟨hin, h⟩ := h
      refine x_ald C0 hw 10 rfl hin dX5_setWhere_17 ?_
      refine lv_iload_n hx hb dX5_setWhere_18 rfl (lv_at hl 2 rfl) ?_
      refine lv_icmp_ne (tgt := 29) hx hb dX5_setWhere_19 (by decide) (fun c_1 => ?_) (fun c_1 => ?_)
      · replace h := h.1 c_1
        refine lv_iinc (v := (x4 + 1)) (lv' := [(4, .int (x4 + 1)), (0, .ref (a 6)), (1, .ref (a 10)), (2, .int f2), (3, .int x3)]) hx hb dX5_setWhere_29 hl (k := 4) rfl rfl (by decide) rfl (fun ls hl => ?_)
        refine lv_goto (tgt := 5) hx hb dX5_setWhere_32 (by decide) ?_
        exact ih _ _ _ h _ _ _ hw (lv_sub hl [1, 2, 3, 4, 0] rfl) hk0
      · replace h := h.2 c_1
        refine lv_iload_n hx hb dX5_setWhere_22 rfl (lv_at hl 3 rfl) ?_
        refine lv_iconst (v := 1) hx hb dX5_setWhere_23 (by decide) ?_
        refine lv_iload hx hb dX5_setWhere_24 (lv_at hl 4 rfl) ?_
        refine lv_ishl hx hb dX5_setWhere_26 ?_
        refine lv_ior hx hb dX5_setWhere_27 ?_
        refine lv_istore_n (lv' := [(3, .int (x3 ||| (1 <<< (x4 &&& 31)))), (0, .ref (a 6)), (1, .ref (a 10)), (2, .int f2), (4, .int x4)]) hx hb dX5_setWhere_28 rfl hl (by decide) rfl (fun ls hl => ?_)
        refine lv_iinc (v := (x4 + 1)) (lv' := [(4, .int (x4 + 1)), (3, .int (x3 ||| (1 <<< (x4 &&& 31)))), (0, .ref (a 6)), (1, .ref (a 10)), (2, .int f2)]) hx hb dX5_setWhere_29 hl (k := 4) rfl rfl (by decide) rfl (fun ls hl => ?_)
        refine lv_goto (tgt := 5) hx hb dX5_setWhere_32 (by decide) ?_
        exact ih _ _ _ h _ _ _ hw (lv_sub hl [2, 3, 4, 1, 0] rfl) hk0
set_option maxRecDepth 100000 in
set_option maxHeartbeats 4000000 in
theorem c_X5_setWhere_10 (l : Launch) (E : EE) (a : Nat → Nat) {v : V}  {p2 : Int32} {post : Int32 → V → Prop} (h : s_X5_setWhere_10 v p2 post) : KI l E yX5_setWhere wsX5_setWhere rmX5_setWhere [.ref (a 6), .ref (a 10), .int p2] (cM E a v) post (fun u => cM E a u) := by
  unfold s_X5_setWhere_10 at h
  refine KI.go (cc := cX5_setWhere) (ret := (some .int)) (maxL := 5) (own := RX5) (by decide) rfl (Nat.le_of_ble_eq_true rfl) rfl (fun p e s m below meth c A ls C0 hw hl => ?_)
  have hx := C0.1
  have hb := C0.2.1
  have hiX5 : ∀ w ∈ wsX50, w ∈ wsX5_setWhere := fun w h => List.mem_cons_of_mem _ (List.mem_append_right _ h)
  replace hl : lv_has ls 5 [(0, .ref (a 6)), (1, .ref (a 10)), (2, .int p2)] := hl
  refine lv_iconst (v := 0) hx hb dX5_setWhere_0 (by decide) ?_
  refine lv_istore_n (lv' := [(3, .int 0), (0, .ref (a 6)), (1, .ref (a 10)), (2, .int p2)]) hx hb dX5_setWhere_1 rfl hl (by decide) rfl (fun ls hl => ?_)
  refine lv_iconst (v := 0) hx hb dX5_setWhere_2 (by decide) ?_
  refine lv_istore (lv' := [(4, .int 0), (3, .int 0), (0, .ref (a 6)), (1, .ref (a 10)), (2, .int p2)]) hx hb dX5_setWhere_3 hl (by decide) rfl (fun ls hl => ?_)
  obtain ⟨n_3, h⟩ := h
  refine w_X5_setWhere_10_5 C0 _ _ _ _ h _ _ _ hw (lv_sub hl [2, 3, 4, 1, 0] rfl) ?_
  · intro x3_4 x4_5 v_6 H locs ls h hw hl
    refine lv_iload_n hx hb dX5_setWhere_35 rfl (lv_at hl 3 rfl) ?_
    exact x_ret C0 v_6 hw h dX5_setWhere_36

set_option maxRecDepth 100000 in
set_option maxHeartbeats 4000000 in
theorem w_X5_setWhere_11_5 {p : Program} {l : Launch} {e : Env} {s : State} {m : MethodId} {below : List Frame} {meth : Method} {c : Code} {E : EE} {A : Nat → Prop} {a : Nat → Nat} {args : Array Value} (C0 : Cx E p s m args meth c A cX5_setWhere 5 RX5 wsX5_setWhere (some .int)) {post : Int32 → V → Prop}  {f2 : Int32} {k0 : Int32 → Int32 → V → Prop} : ∀ (n : Nat) (x3 : Int32) (x4 : Int32) (v : V), sl_X5_setWhere_11_5 post f2 k0 n x3 x4 v → ∀ (H : Heap) (locs : List Loc) (ls : Array Slot), mw E A s.heap H locs (cM E a v) → lv_has ls 5 [(0, .ref (a 6)), (1, .ref (a 11)), (2, .int f2), (3, .int x3), (4, .int x4)] → (∀ (x3 : Int32) (x4 : Int32) (v : V) (H : Heap) (locs : List Loc) (ls : Array Slot), k0 x3 x4 v → mw E A s.heap H locs (cM E a v) → lv_has ls 5 [(0, .ref (a 6)), (1, .ref (a 11)), (2, .int f2), (3, .int x3), (4, .int x4)] → W p l e rmX5_setWhere s m args below meth c H locs 0 0 (qI E A post (fun u => cM E a u) below args s) (F0 m 35 ls [])) → W p l e rmX5_setWhere s m args below meth c H locs 0 0 (qI E A post (fun u => cM E a u) below args s) (F0 m 5 ls []) := by
  have hx := C0.1
  have hb := C0.2.1
  have hiX5 : ∀ w ∈ wsX50, w ∈ wsX5_setWhere := fun w h => List.mem_cons_of_mem _ (List.mem_append_right _ h)
  intro n
  induction n with
  | zero => intro x3 x4 v h; exact False.elim h
  | succ n ih =>
    intro x3 x4 v h H locs ls hw hl hk0
    replace h : sb_X5_setWhere_11_5 post f2 k0 (sl_X5_setWhere_11_5 post f2 k0 n) x3 x4 v := h
    unfold sb_X5_setWhere_11_5 at h
    refine lv_iload hx hb dX5_setWhere_5 (lv_at hl 4 rfl) ?_
    refine lv_aload_n hx hb dX5_setWhere_7 rfl (lv_at hl 0 rfl) ?_
    refine x_get C0 hw 5 hiX5 rfl 6 rfl 0 (by decide) 1 rfl rfl dX5_setWhere_8 ?_
    refine lv_icmp_ge (tgt := 35) hx hb dX5_setWhere_11 (by decide) (fun c_2 => ?_) (fun c_2 => ?_)
    · replace h := h.1 c_2
      exact hk0 _ _ _ _ _ _ h hw (lv_sub hl [0, 1, 2, 3, 4] rfl)
    · replace h := h.2 c_2
      refine lv_aload_n hx hb dX5_setWhere_14 rfl (lv_at hl 1 rfl) ?_
      refine lv_iload hx hb dX5_setWhere_15 (lv_at hl 4 rfl) ?_
      obtain ⟨hin, h⟩ := h
      refine x_ald C0 hw 11 rfl hin dX5_setWhere_17 ?_
      refine lv_iload_n hx hb dX5_setWhere_18 rfl (lv_at hl 2 rfl) ?_
      refine lv_icmp_ne (tgt := 29) hx hb dX5_setWhere_19 (by decide) (fun c_1 => ?_) (fun c_1 => ?_)
      · replace h := h.1 c_1
        refine lv_iinc (v := (x4 + 1)) (lv' := [(4, .int (x4 + 1)), (0, .ref (a 6)), (1, .ref (a 11)), (2, .int f2), (3, .int x3)]) hx hb dX5_setWhere_29 hl (k := 4) rfl rfl (by decide) rfl (fun ls hl => ?_)
        refine lv_goto (tgt := 5) hx hb dX5_setWhere_32 (by decide) ?_
        exact ih _ _ _ h _ _ _ hw (lv_sub hl [1, 2, 3, 4, 0] rfl) hk0
      · replace h := h.2 c_1
        refine lv_iload_n hx hb dX5_setWhere_22 rfl (lv_at hl 3 rfl) ?_
        refine lv_iconst (v := 1) hx hb dX5_setWhere_23 (by decide) ?_
        refine lv_iload hx hb dX5_setWhere_24 (lv_at hl 4 rfl) ?_
        refine lv_ishl hx hb dX5_setWhere_26 ?_
        refine lv_ior hx hb dX5_setWhere_27 ?_
        refine lv_istore_n (lv' := [(3, .int (x3 ||| (1 <<< (x4 &&& 31)))), (0, .ref (a 6)), (1, .ref (a 11)), (2, .int f2), (4, .int x4)]) hx hb dX5_setWhere_28 rfl hl (by decide) rfl (fun ls hl => ?_)
        refine lv_iinc (v := (x4 + 1)) (lv' := [(4, .int (x4 + 1)), (3, .int (x3 ||| (1 <<< (x4 &&& 31)))), (0, .ref (a 6)), (1, .ref (a 11)), (2, .int f2)]) hx hb dX5_setWhere_29 hl (k := 4) rfl rfl (by decide) rfl (fun ls hl => ?_)
        refine lv_goto (tgt := 5) hx hb dX5_setWhere_32 (by decide) ?_
        exact ih _ _ _ h _ _ _ hw (lv_sub hl [2, 3, 4, 1, 0] rfl) hk0
set_option maxRecDepth 100000 in
set_option maxHeartbeats 4000000 in
theorem c_X5_setWhere_11 (l : Launch) (E : EE) (a : Nat → Nat) {v : V}  {p2 : Int32} {post : Int32 → V → Prop} (h : s_X5_setWhere_11 v p2 post) : KI l E yX5_setWhere wsX5_setWhere rmX5_setWhere [.ref (a 6), .ref (a 11), .int p2] (cM E a v) post (fun u => cM E a u) := by
  unfold s_X5_setWhere_11 at h
  refine KI.go (cc := cX5_setWhere) (ret := (some .int)) (maxL := 5) (own := RX5) (by decide) rfl (Nat.le_of_ble_eq_true rfl) rfl (fun p e s m below meth c A ls C0 hw hl => ?_)
  have hx := C0.1
  have hb := C0.2.1
  have hiX5 : ∀ w ∈ wsX50, w ∈ wsX5_setWhere := fun w h => List.mem_cons_of_mem _ (List.mem_append_right _ h)
  replace hl : lv_has ls 5 [(0, .ref (a 6)), (1, .ref (a 11)), (2, .int p2)] := hl
  refine lv_iconst (v := 0) hx hb dX5_setWhere_0 (by decide) ?_
  refine lv_istore_n (lv' := [(3, .int 0), (0, .ref (a 6)), (1, .ref (a 11)), (2, .int p2)]) hx hb dX5_setWhere_1 rfl hl (by decide) rfl (fun ls hl => ?_)
  refine lv_iconst (v := 0) hx hb dX5_setWhere_2 (by decide) ?_
  refine lv_istore (lv' := [(4, .int 0), (3, .int 0), (0, .ref (a 6)), (1, .ref (a 11)), (2, .int p2)]) hx hb dX5_setWhere_3 hl (by decide) rfl (fun ls hl => ?_)
  obtain ⟨n_3, h⟩ := h
  refine w_X5_setWhere_11_5 C0 _ _ _ _ h _ _ _ hw (lv_sub hl [2, 3, 4, 1, 0] rfl) ?_
  · intro x3_4 x4_5 v_6 H locs ls h hw hl
    refine lv_iload_n hx hb dX5_setWhere_35 rfl (lv_at hl 3 rfl) ?_
    exact x_ret C0 v_6 hw h dX5_setWhere_36

abbrev rmX5_sumAsked : Room := { frames := 1, cells := 0, slots := 0, locals := 21 }
set_option maxRecDepth 100000 in
set_option maxHeartbeats 4000000 in
theorem w_X5_sumAsked_10_5 {p : Program} {l : Launch} {e : Env} {s : State} {m : MethodId} {below : List Frame} {meth : Method} {c : Code} {E : EE} {A : Nat → Prop} {a : Nat → Nat} {args : Array Value} (C0 : Cx E p s m args meth c A cX5_sumAsked 5 RX5 wsX5_sumAsked (some .int)) {post : Int32 → V → Prop}  {f2 : Int32} {k0 : Int32 → Int32 → V → Prop} : ∀ (n : Nat) (x3 : Int32) (x4 : Int32) (v : V), sl_X5_sumAsked_10_5 post f2 k0 n x3 x4 v → ∀ (H : Heap) (locs : List Loc) (ls : Array Slot), mw E A s.heap H locs (cM E a v) → lv_has ls 5 [(0, .ref (a 6)), (1, .ref (a 10)), (2, .int f2), (3, .int x3), (4, .int x4)] → (∀ (x3 : Int32) (x4 : Int32) (v : V) (H : Heap) (locs : List Loc) (ls : Array Slot), k0 x3 x4 v → mw E A s.heap H locs (cM E a v) → lv_has ls 5 [(0, .ref (a 6)), (1, .ref (a 10)), (2, .int f2), (3, .int x3), (4, .int x4)] → W p l e rmX5_sumAsked s m args below meth c H locs 0 0 (qI E A post (fun u => cM E a u) below args s) (F0 m 47 ls [])) → W p l e rmX5_sumAsked s m args below meth c H locs 0 0 (qI E A post (fun u => cM E a u) below args s) (F0 m 5 ls []) := by
  have hx := C0.1
  have hb := C0.2.1
  have hiX5 : ∀ w ∈ wsX50, w ∈ wsX5_sumAsked := fun w h => List.mem_cons_of_mem _ (List.mem_append_right _ h)
  intro n
  induction n with
  | zero => intro x3 x4 v h; exact False.elim h
  | succ n ih =>
    intro x3 x4 v h H locs ls hw hl hk0
    replace h : sb_X5_sumAsked_10_5 post f2 k0 (sl_X5_sumAsked_10_5 post f2 k0 n) x3 x4 v := h
    unfold sb_X5_sumAsked_10_5 at h
    refine lv_iload hx hb dX5_sumAsked_5 (lv_at hl 4 rfl) ?_
    refine lv_aload_n hx hb dX5_sumAsked_7 rfl (lv_at hl 0 rfl) ?_
    refine x_get C0 hw 5 hiX5 rfl 6 rfl 0 (by decide) 1 rfl rfl dX5_sumAsked_8 ?_
    refine lv_icmp_ge (tgt := 47) hx hb dX5_sumAsked_11 (by decide) (fun c_5 => ?_) (fun c_5 => ?_)
    · replace h := h.1 c_5
      exact hk0 _ _ _ _ _ _ h hw (lv_sub hl [0, 1, 2, 3, 4] rfl)
    · replace h := h.2 c_5
      refine lv_aload_n hx hb dX5_sumAsked_14 rfl (lv_at hl 0 rfl) ?_
      refine lv_iload hx hb dX5_sumAsked_15 (lv_at hl 4 rfl) ?_
      refine x_cV (As := [.int x4]) (rest := []) (F := []) C0 hw (p_nil _) hl.1 6 5 rfl rfl (c_X5_isOut l E a h) 1 gX5_sumAsked_X5_isOut rfl ⟨rfl, rfl⟩ (by decide +kernel) ⟨Nat.le_of_ble_eq_true rfl, Nat.le_of_ble_eq_true rfl⟩ rfl rfl (Nat.le_of_ble_eq_true rfl) dX5_sumAsked_17 ⟨Nat.zero_le _, Nat.zero_le _⟩ (fun r_1 v_2 H locs h (hw : mw E A s.heap H locs (cM E a v_2)) => ?_)
      refine lv_if_eq (tgt := 41) hx hb dX5_sumAsked_20 (by decide) (fun c_4 => ?_) (fun c_4 => ?_)
      · replace h := h.1 c_4
        refine lv_iinc (v := (x4 + 1)) (lv' := [(4, .int (x4 + 1)), (0, .ref (a 6)), (1, .ref (a 10)), (2, .int f2), (3, .int x3)]) hx hb dX5_sumAsked_41 hl (k := 4) rfl rfl (by decide) rfl (fun ls hl => ?_)
        refine lv_goto (tgt := 5) hx hb dX5_sumAsked_44 (by decide) ?_
        exact ih _ _ _ h _ _ _ hw (lv_sub hl [1, 2, 3, 4, 0] rfl) hk0
      · replace h := h.2 c_4
        refine lv_aload_n hx hb dX5_sumAsked_23 rfl (lv_at hl 1 rfl) ?_
        refine lv_iload hx hb dX5_sumAsked_24 (lv_at hl 4 rfl) ?_
        obtain ⟨hin, h⟩ := h
        refine x_ald C0 hw 10 rfl hin dX5_sumAsked_26 ?_
        refine lv_iload_n hx hb dX5_sumAsked_27 rfl (lv_at hl 2 rfl) ?_
        refine lv_icmp_ne (tgt := 41) hx hb dX5_sumAsked_28 (by decide) (fun c_3 => ?_) (fun c_3 => ?_)
        · replace h := h.1 c_3
          refine lv_iinc (v := (x4 + 1)) (lv' := [(4, .int (x4 + 1)), (0, .ref (a 6)), (1, .ref (a 10)), (2, .int f2), (3, .int x3)]) hx hb dX5_sumAsked_41 hl (k := 4) rfl rfl (by decide) rfl (fun ls hl => ?_)
          refine lv_goto (tgt := 5) hx hb dX5_sumAsked_44 (by decide) ?_
          exact ih _ _ _ h _ _ _ hw (lv_sub hl [1, 2, 3, 4, 0] rfl) hk0
        · replace h := h.2 c_3
          refine lv_iload_n hx hb dX5_sumAsked_31 rfl (lv_at hl 3 rfl) ?_
          refine lv_aload_n hx hb dX5_sumAsked_32 rfl (lv_at hl 0 rfl) ?_
          refine x_get C0 hw 5 hiX5 rfl 6 rfl 7 (by decide) 2 rfl rfl dX5_sumAsked_33 ?_
          refine lv_iload hx hb dX5_sumAsked_36 (lv_at hl 4 rfl) ?_
          obtain ⟨hin, h⟩ := h
          refine x_ald C0 hw 13 rfl hin dX5_sumAsked_38 ?_
          refine lv_iadd hx hb dX5_sumAsked_39 ?_
          refine lv_istore_n (lv' := [(3, .int (x3 + (v_2 13 (tn x4)))), (0, .ref (a 6)), (1, .ref (a 10)), (2, .int f2), (4, .int x4)]) hx hb dX5_sumAsked_40 rfl hl (by decide) rfl (fun ls hl => ?_)
          refine lv_iinc (v := (x4 + 1)) (lv' := [(4, .int (x4 + 1)), (3, .int (x3 + (v_2 13 (tn x4)))), (0, .ref (a 6)), (1, .ref (a 10)), (2, .int f2)]) hx hb dX5_sumAsked_41 hl (k := 4) rfl rfl (by decide) rfl (fun ls hl => ?_)
          refine lv_goto (tgt := 5) hx hb dX5_sumAsked_44 (by decide) ?_
          exact ih _ _ _ h _ _ _ hw (lv_sub hl [2, 3, 4, 1, 0] rfl) hk0
set_option maxRecDepth 100000 in
set_option maxHeartbeats 4000000 in
theorem c_X5_sumAsked_10 (l : Launch) (E : EE) (a : Nat → Nat) {v : V}  {p2 : Int32} {post : Int32 → V → Prop} (h : s_X5_sumAsked_10 v p2 post) : KI l E yX5_sumAsked wsX5_sumAsked rmX5_sumAsked [.ref (a 6), .ref (a 10), .int p2] (cM E a v) post (fun u => cM E a u) := by
  unfold s_X5_sumAsked_10 at h
  refine KI.go (cc := cX5_sumAsked) (ret := (some .int)) (maxL := 5) (own := RX5) (by decide) rfl (Nat.le_of_ble_eq_true rfl) rfl (fun p e s m below meth c A ls C0 hw hl => ?_)
  have hx := C0.1
  have hb := C0.2.1
  have hiX5 : ∀ w ∈ wsX50, w ∈ wsX5_sumAsked := fun w h => List.mem_cons_of_mem _ (List.mem_append_right _ h)
  replace hl : lv_has ls 5 [(0, .ref (a 6)), (1, .ref (a 10)), (2, .int p2)] := hl
  refine lv_iconst (v := 0) hx hb dX5_sumAsked_0 (by decide) ?_
  refine lv_istore_n (lv' := [(3, .int 0), (0, .ref (a 6)), (1, .ref (a 10)), (2, .int p2)]) hx hb dX5_sumAsked_1 rfl hl (by decide) rfl (fun ls hl => ?_)
  refine lv_iconst (v := 0) hx hb dX5_sumAsked_2 (by decide) ?_
  refine lv_istore (lv' := [(4, .int 0), (3, .int 0), (0, .ref (a 6)), (1, .ref (a 10)), (2, .int p2)]) hx hb dX5_sumAsked_3 hl (by decide) rfl (fun ls hl => ?_)
  obtain ⟨n_6, h⟩ := h
  refine w_X5_sumAsked_10_5 C0 _ _ _ _ h _ _ _ hw (lv_sub hl [2, 3, 4, 1, 0] rfl) ?_
  · intro x3_7 x4_8 v_9 H locs ls h hw hl
    refine lv_iload_n hx hb dX5_sumAsked_47 rfl (lv_at hl 3 rfl) ?_
    exact x_ret C0 v_9 hw h dX5_sumAsked_48

set_option maxRecDepth 100000 in
set_option maxHeartbeats 4000000 in
theorem w_X5_sumAsked_11_5 {p : Program} {l : Launch} {e : Env} {s : State} {m : MethodId} {below : List Frame} {meth : Method} {c : Code} {E : EE} {A : Nat → Prop} {a : Nat → Nat} {args : Array Value} (C0 : Cx E p s m args meth c A cX5_sumAsked 5 RX5 wsX5_sumAsked (some .int)) {post : Int32 → V → Prop}  {f2 : Int32} {k0 : Int32 → Int32 → V → Prop} : ∀ (n : Nat) (x3 : Int32) (x4 : Int32) (v : V), sl_X5_sumAsked_11_5 post f2 k0 n x3 x4 v → ∀ (H : Heap) (locs : List Loc) (ls : Array Slot), mw E A s.heap H locs (cM E a v) → lv_has ls 5 [(0, .ref (a 6)), (1, .ref (a 11)), (2, .int f2), (3, .int x3), (4, .int x4)] → (∀ (x3 : Int32) (x4 : Int32) (v : V) (H : Heap) (locs : List Loc) (ls : Array Slot), k0 x3 x4 v → mw E A s.heap H locs (cM E a v) → lv_has ls 5 [(0, .ref (a 6)), (1, .ref (a 11)), (2, .int f2), (3, .int x3), (4, .int x4)] → W p l e rmX5_sumAsked s m args below meth c H locs 0 0 (qI E A post (fun u => cM E a u) below args s) (F0 m 47 ls [])) → W p l e rmX5_sumAsked s m args below meth c H locs 0 0 (qI E A post (fun u => cM E a u) below args s) (F0 m 5 ls []) := by
  have hx := C0.1
  have hb := C0.2.1
  have hiX5 : ∀ w ∈ wsX50, w ∈ wsX5_sumAsked := fun w h => List.mem_cons_of_mem _ (List.mem_append_right _ h)
  intro n
  induction n with
  | zero => intro x3 x4 v h; exact False.elim h
  | succ n ih =>
    intro x3 x4 v h H locs ls hw hl hk0
    replace h : sb_X5_sumAsked_11_5 post f2 k0 (sl_X5_sumAsked_11_5 post f2 k0 n) x3 x4 v := h
    unfold sb_X5_sumAsked_11_5 at h
    refine lv_iload hx hb dX5_sumAsked_5 (lv_at hl 4 rfl) ?_
    refine lv_aload_n hx hb dX5_sumAsked_7 rfl (lv_at hl 0 rfl) ?_
    refine x_get C0 hw 5 hiX5 rfl 6 rfl 0 (by decide) 1 rfl rfl dX5_sumAsked_8 ?_
    refine lv_icmp_ge (tgt := 47) hx hb dX5_sumAsked_11 (by decide) (fun c_5 => ?_) (fun c_5 => ?_)
    · replace h := h.1 c_5
      exact hk0 _ _ _ _ _ _ h hw (lv_sub hl [0, 1, 2, 3, 4] rfl)
    · replace h := h.2 c_5
      refine lv_aload_n hx hb dX5_sumAsked_14 rfl (lv_at hl 0 rfl) ?_
      refine lv_iload hx hb dX5_sumAsked_15 (lv_at hl 4 rfl) ?_
      refine x_cV (As := [.int x4]) (rest := []) (F := []) C0 hw (p_nil _) hl.1 6 5 rfl rfl (c_X5_isOut l E a h) 1 gX5_sumAsked_X5_isOut rfl ⟨rfl, rfl⟩ (by decide +kernel) ⟨Nat.le_of_ble_eq_true rfl, Nat.le_of_ble_eq_true rfl⟩ rfl rfl (Nat.le_of_ble_eq_true rfl) dX5_sumAsked_17 ⟨Nat.zero_le _, Nat.zero_le _⟩ (fun r_1 v_2 H locs h (hw : mw E A s.heap H locs (cM E a v_2)) => ?_)
      refine lv_if_eq (tgt := 41) hx hb dX5_sumAsked_20 (by decide) (fun c_4 => ?_) (fun c_4 => ?_)
      · replace h := h.1 c_4
        refine lv_iinc (v := (x4 + 1)) (lv' := [(4, .int (x4 + 1)), (0, .ref (a 6)), (1, .ref (a 11)), (2, .int f2), (3, .int x3)]) hx hb dX5_sumAsked_41 hl (k := 4) rfl rfl (by decide) rfl (fun ls hl => ?_)
        refine lv_goto (tgt := 5) hx hb dX5_sumAsked_44 (by decide) ?_
        exact ih _ _ _ h _ _ _ hw (lv_sub hl [1, 2, 3, 4, 0] rfl) hk0
      · replace h := h.2 c_4
        refine lv_aload_n hx hb dX5_sumAsked_23 rfl (lv_at hl 1 rfl) ?_
        refine lv_iload hx hb dX5_sumAsked_24 (lv_at hl 4 rfl) ?_
        obtain ⟨hin, h⟩ := h
        refine x_ald C0 hw 11 rfl hin dX5_sumAsked_26 ?_
        refine lv_iload_n hx hb dX5_sumAsked_27 rfl (lv_at hl 2 rfl) ?_
        refine lv_icmp_ne (tgt := 41) hx hb dX5_sumAsked_28 (by decide) (fun c_3 => ?_) (fun c_3 => ?_)
        · replace h := h.1 c_3
          refine lv_iinc (v := (x4 + 1)) (lv' := [(4, .int (x4 + 1)), (0, .ref (a 6)), (1, .ref (a 11)), (2, .int f2), (3, .int x3)]) hx hb dX5_sumAsked_41 hl (k := 4) rfl rfl (by decide) rfl (fun ls hl => ?_)
          refine lv_goto (tgt := 5) hx hb dX5_sumAsked_44 (by decide) ?_
          exact ih _ _ _ h _ _ _ hw (lv_sub hl [1, 2, 3, 4, 0] rfl) hk0
        · replace h := h.2 c_3
          refine lv_iload_n hx hb dX5_sumAsked_31 rfl (lv_at hl 3 rfl) ?_
          refine lv_aload_n hx hb dX5_sumAsked_32 rfl (lv_at hl 0 rfl) ?_
          refine x_get C0 hw 5 hiX5 rfl 6 rfl 7 (by decide) 2 rfl rfl dX5_sumAsked_33 ?_
          refine lv_iload hx hb dX5_sumAsked_36 (lv_at hl 4 rfl) ?_
          obtain ⟨hin, h⟩ := h
          refine x_ald C0 hw 13 rfl hin dX5_sumAsked_38 ?_
          refine lv_iadd hx hb dX5_sumAsked_39 ?_
          refine lv_istore_n (lv' := [(3, .int (x3 + (v_2 13 (tn x4)))), (0, .ref (a 6)), (1, .ref (a 11)), (2, .int f2), (4, .int x4)]) hx hb dX5_sumAsked_40 rfl hl (by decide) rfl (fun ls hl => ?_)
          refine lv_iinc (v := (x4 + 1)) (lv' := [(4, .int (x4 + 1)), (3, .int (x3 + (v_2 13 (tn x4)))), (0, .ref (a 6)), (1, .ref (a 11)), (2, .int f2)]) hx hb dX5_sumAsked_41 hl (k := 4) rfl rfl (by decide) rfl (fun ls hl => ?_)
          refine lv_goto (tgt := 5) hx hb dX5_sumAsked_44 (by decide) ?_
          exact ih _ _ _ h _ _ _ hw (lv_sub hl [2, 3, 4, 1, 0] rfl) hk0
set_option maxRecDepth 100000 in
set_option maxHeartbeats 4000000 in
theorem c_X5_sumAsked_11 (l : Launch) (E : EE) (a : Nat → Nat) {v : V}  {p2 : Int32} {post : Int32 → V → Prop} (h : s_X5_sumAsked_11 v p2 post) : KI l E yX5_sumAsked wsX5_sumAsked rmX5_sumAsked [.ref (a 6), .ref (a 11), .int p2] (cM E a v) post (fun u => cM E a u) := by
  unfold s_X5_sumAsked_11 at h
  refine KI.go (cc := cX5_sumAsked) (ret := (some .int)) (maxL := 5) (own := RX5) (by decide) rfl (Nat.le_of_ble_eq_true rfl) rfl (fun p e s m below meth c A ls C0 hw hl => ?_)
  have hx := C0.1
  have hb := C0.2.1
  have hiX5 : ∀ w ∈ wsX50, w ∈ wsX5_sumAsked := fun w h => List.mem_cons_of_mem _ (List.mem_append_right _ h)
  replace hl : lv_has ls 5 [(0, .ref (a 6)), (1, .ref (a 11)), (2, .int p2)] := hl
  refine lv_iconst (v := 0) hx hb dX5_sumAsked_0 (by decide) ?_
  refine lv_istore_n (lv' := [(3, .int 0), (0, .ref (a 6)), (1, .ref (a 11)), (2, .int p2)]) hx hb dX5_sumAsked_1 rfl hl (by decide) rfl (fun ls hl => ?_)
  refine lv_iconst (v := 0) hx hb dX5_sumAsked_2 (by decide) ?_
  refine lv_istore (lv' := [(4, .int 0), (3, .int 0), (0, .ref (a 6)), (1, .ref (a 11)), (2, .int p2)]) hx hb dX5_sumAsked_3 hl (by decide) rfl (fun ls hl => ?_)
  obtain ⟨n_6, h⟩ := h
  refine w_X5_sumAsked_11_5 C0 _ _ _ _ h _ _ _ hw (lv_sub hl [2, 3, 4, 1, 0] rfl) ?_
  · intro x3_7 x4_8 v_9 H locs ls h hw hl
    refine lv_iload_n hx hb dX5_sumAsked_47 rfl (lv_at hl 3 rfl) ?_
    exact x_ret C0 v_9 hw h dX5_sumAsked_48

abbrev rmX1_tellDealer : Room := { frames := 3, cells := 0, slots := 0, locals := 71 }
set_option maxRecDepth 100000 in
set_option maxHeartbeats 4000000 in
theorem c_X1_tellDealer (l : Launch) (E : EE) (a : Nat → Nat) {v : V}  {p1 : Int32} {p2 : Int32} {post : Int32 → V → Prop} (h : s_X1_tellDealer v p1 p2 post) : KI l E yX1_tellDealer wsX1_tellDealer rmX1_tellDealer [.ref (a 0), .int p1, .int p2] (cM E a v) post (fun u => cM E a u) := by
  unfold s_X1_tellDealer at h
  refine KI.go (cc := cX1_tellDealer) (ret := (some .int)) (maxL := 3) (own := RX1) (by decide) rfl (Nat.le_of_ble_eq_true rfl) rfl (fun p e s m below meth c A ls C0 hw hl => ?_)
  have hx := C0.1
  have hb := C0.2.1
  have hiX1 : ∀ w ∈ wsX10, w ∈ wsX1_tellDealer := fun w h => List.mem_cons_of_mem _ (List.mem_append_left _ (List.mem_append_left _ (List.mem_append_right _ h)))
  have hiX5 : ∀ w ∈ wsX50, w ∈ wsX1_tellDealer := fun w h => List.mem_cons_of_mem _ (List.mem_append_left _ (List.mem_append_right _ h))
  replace hl : lv_has ls 3 [(0, .ref (a 0)), (1, .int p1), (2, .int p2)] := hl
  refine lv_iload_n hx hb dX1_tellDealer_0 rfl (lv_at hl 2 rfl) ?_
  by_cases c_1 : p2 = 0
  · replace h := h.1 c_1
    refine x_tabIn (tgt := 40) C0 0 c_1 dX1_tellDealer_1 (by decide) (by decide) rfl (by decide) ?_
    refine lv_aload_n hx hb dX1_tellDealer_40 rfl (lv_at hl 0 rfl) ?_
    refine x_get C0 hw 1 hiX1 rfl 0 rfl 3 (by decide) 1 rfl rfl dX1_tellDealer_41 ?_
    refine lv_iload_n hx hb dX1_tellDealer_44 rfl (lv_at hl 1 rfl) ?_
    obtain ⟨hin, h⟩ := h
    refine x_ald C0 hw 22 rfl hin dX1_tellDealer_45 ?_
    refine x_ldc (v := 100000000) C0 2 rfl dX1_tellDealer_46 ?_
    refine lv_iadd hx hb dX1_tellDealer_48 ?_
    exact x_ret C0 v hw h dX1_tellDealer_49
  replace h := h.2
  by_cases c_4 : p2 = 1
  · replace h := h.1 c_4
    refine x_tabIn (tgt := 50) C0 1 c_4 dX1_tellDealer_1 (by decide) (by decide) rfl (by decide) ?_
    refine lv_aload_n hx hb dX1_tellDealer_50 rfl (lv_at hl 0 rfl) ?_
    refine x_get C0 hw 1 hiX1 rfl 0 rfl 1 (by decide) 3 rfl rfl dX1_tellDealer_51 ?_
    refine lv_aload_n hx hb dX1_tellDealer_54 rfl (lv_at hl 0 rfl) ?_
    refine x_get C0 hw 1 hiX1 rfl 0 rfl 1 (by decide) 3 rfl rfl dX1_tellDealer_55 ?_
    refine x_getN C0 hw 5 hiX5 rfl 6 rfl 4 (by decide) 7 rfl rfl dX1_tellDealer_58 ?_
    refine lv_iload_n hx hb dX1_tellDealer_61 rfl (lv_at hl 1 rfl) ?_
    refine x_cV (As := [.ref (a 10), .int p1]) (rest := []) (F := []) C0 hw (p_nil _) hl.1 6 5 rfl rfl (c_X5_setWhere_10 l E a h) 2 gX1_tellDealer_X5_setWhere rfl ⟨rfl, rfl⟩ (by decide +kernel) ⟨Nat.le_of_ble_eq_true rfl, Nat.le_of_ble_eq_true rfl⟩ rfl rfl (Nat.le_of_ble_eq_true rfl) dX1_tellDealer_62 ⟨Nat.zero_le _, Nat.zero_le _⟩ (fun r_2 v_3 H locs h (hw : mw E A s.heap H locs (cM E a v_3)) => ?_)
    exact x_ret C0 v_3 hw h dX1_tellDealer_65
  replace h := h.2
  by_cases c_7 : p2 = 2
  · replace h := h.1 c_7
    refine x_tabIn (tgt := 66) C0 2 c_7 dX1_tellDealer_1 (by decide) (by decide) rfl (by decide) ?_
    refine lv_aload_n hx hb dX1_tellDealer_66 rfl (lv_at hl 0 rfl) ?_
    refine x_get C0 hw 1 hiX1 rfl 0 rfl 1 (by decide) 3 rfl rfl dX1_tellDealer_67 ?_
    refine lv_aload_n hx hb dX1_tellDealer_70 rfl (lv_at hl 0 rfl) ?_
    refine x_get C0 hw 1 hiX1 rfl 0 rfl 1 (by decide) 3 rfl rfl dX1_tellDealer_71 ?_
    refine x_getN C0 hw 5 hiX5 rfl 6 rfl 5 (by decide) 8 rfl rfl dX1_tellDealer_74 ?_
    refine lv_iload_n hx hb dX1_tellDealer_77 rfl (lv_at hl 1 rfl) ?_
    refine x_cV (As := [.ref (a 11), .int p1]) (rest := []) (F := []) C0 hw (p_nil _) hl.1 6 5 rfl rfl (c_X5_setWhere_11 l E a h) 2 gX1_tellDealer_X5_setWhere rfl ⟨rfl, rfl⟩ (by decide +kernel) ⟨Nat.le_of_ble_eq_true rfl, Nat.le_of_ble_eq_true rfl⟩ rfl rfl (Nat.le_of_ble_eq_true rfl) dX1_tellDealer_78 ⟨Nat.zero_le _, Nat.zero_le _⟩ (fun r_5 v_6 H locs h (hw : mw E A s.heap H locs (cM E a v_6)) => ?_)
    exact x_ret C0 v_6 hw h dX1_tellDealer_81
  replace h := h.2
  by_cases c_10 : p2 = 3
  · replace h := h.1 c_10
    refine x_tabIn (tgt := 82) C0 3 c_10 dX1_tellDealer_1 (by decide) (by decide) rfl (by decide) ?_
    refine lv_aload_n hx hb dX1_tellDealer_82 rfl (lv_at hl 0 rfl) ?_
    refine lv_iload_n hx hb dX1_tellDealer_83 rfl (lv_at hl 1 rfl) ?_
    refine x_cV (As := [.int p1]) (rest := []) (F := []) C0 hw (p_nil _) hl.1 0 1 rfl rfl (c_X1_worthOf l E a h) 1 gX1_tellDealer_X1_worthOf rfl ⟨rfl, rfl⟩ (by decide +kernel) ⟨Nat.le_of_ble_eq_true rfl, Nat.le_of_ble_eq_true rfl⟩ rfl rfl (Nat.le_of_ble_eq_true rfl) dX1_tellDealer_84 ⟨Nat.zero_le _, Nat.zero_le _⟩ (fun r_8 v_9 H locs h (hw : mw E A s.heap H locs (cM E a v_9)) => ?_)
    exact x_ret C0 v_9 hw h dX1_tellDealer_87
  replace h := h.2
  by_cases c_13 : p2 = 4
  · replace h := h.1 c_13
    refine x_tabIn (tgt := 88) C0 4 c_13 dX1_tellDealer_1 (by decide) (by decide) rfl (by decide) ?_
    refine lv_aload_n hx hb dX1_tellDealer_88 rfl (lv_at hl 0 rfl) ?_
    refine x_get C0 hw 1 hiX1 rfl 0 rfl 1 (by decide) 3 rfl rfl dX1_tellDealer_89 ?_
    refine lv_aload_n hx hb dX1_tellDealer_92 rfl (lv_at hl 0 rfl) ?_
    refine x_get C0 hw 1 hiX1 rfl 0 rfl 1 (by decide) 3 rfl rfl dX1_tellDealer_93 ?_
    refine x_getN C0 hw 5 hiX5 rfl 6 rfl 5 (by decide) 8 rfl rfl dX1_tellDealer_96 ?_
    refine lv_iload_n hx hb dX1_tellDealer_99 rfl (lv_at hl 1 rfl) ?_
    refine x_cV (As := [.ref (a 11), .int p1]) (rest := []) (F := []) C0 hw (p_nil _) hl.1 6 5 rfl rfl (c_X5_sumAsked_11 l E a h) 2 gX1_tellDealer_X5_sumAsked rfl ⟨rfl, rfl⟩ (by decide +kernel) ⟨Nat.le_of_ble_eq_true rfl, Nat.le_of_ble_eq_true rfl⟩ rfl rfl (Nat.le_of_ble_eq_true rfl) dX1_tellDealer_100 ⟨Nat.zero_le _, Nat.zero_le _⟩ (fun r_11 v_12 H locs h (hw : mw E A s.heap H locs (cM E a v_12)) => ?_)
    exact x_ret C0 v_12 hw h dX1_tellDealer_103
  replace h := h.2
  by_cases c_16 : p2 = 5
  · replace h := h.1 c_16
    refine x_tabIn (tgt := 104) C0 5 c_16 dX1_tellDealer_1 (by decide) (by decide) rfl (by decide) ?_
    refine lv_aload_n hx hb dX1_tellDealer_104 rfl (lv_at hl 0 rfl) ?_
    refine x_get C0 hw 1 hiX1 rfl 0 rfl 1 (by decide) 3 rfl rfl dX1_tellDealer_105 ?_
    refine lv_aload_n hx hb dX1_tellDealer_108 rfl (lv_at hl 0 rfl) ?_
    refine x_get C0 hw 1 hiX1 rfl 0 rfl 1 (by decide) 3 rfl rfl dX1_tellDealer_109 ?_
    refine x_getN C0 hw 5 hiX5 rfl 6 rfl 4 (by decide) 7 rfl rfl dX1_tellDealer_112 ?_
    refine lv_iload_n hx hb dX1_tellDealer_115 rfl (lv_at hl 1 rfl) ?_
    refine x_cV (As := [.ref (a 10), .int p1]) (rest := []) (F := []) C0 hw (p_nil _) hl.1 6 5 rfl rfl (c_X5_sumAsked_10 l E a h) 2 gX1_tellDealer_X5_sumAsked rfl ⟨rfl, rfl⟩ (by decide +kernel) ⟨Nat.le_of_ble_eq_true rfl, Nat.le_of_ble_eq_true rfl⟩ rfl rfl (Nat.le_of_ble_eq_true rfl) dX1_tellDealer_116 ⟨Nat.zero_le _, Nat.zero_le _⟩ (fun r_14 v_15 H locs h (hw : mw E A s.heap H locs (cM E a v_15)) => ?_)
    exact x_ret C0 v_15 hw h dX1_tellDealer_119
  replace h := h.2
  have cD : p2.toInt < 0 ∨ 5 < p2.toInt := by
    have := ne_toInt (z := 0) (by decide) c_1
    have := ne_toInt (z := 1) (by decide) c_4
    have := ne_toInt (z := 2) (by decide) c_7
    have := ne_toInt (z := 3) (by decide) c_10
    have := ne_toInt (z := 4) (by decide) c_13
    have := ne_toInt (z := 5) (by decide) c_16
    omega
  replace h := h cD
  refine lv_tableOut (tgt := 120) hx hb dX1_tellDealer_1 cD (by decide) ?_
  refine x_ldc (v := (-10000001)) C0 4 rfl dX1_tellDealer_120 ?_
  exact x_ret C0 v hw h dX1_tellDealer_122

abbrev rmX1_isOpen : Room := { frames := 1, cells := 0, slots := 0, locals := 24 }
set_option maxRecDepth 100000 in
set_option maxHeartbeats 4000000 in
theorem c_X1_isOpen (l : Launch) (E : EE) (a : Nat → Nat) {v : V}  {p1 : Int32} {post : Int32 → V → Prop} (h : s_X1_isOpen v p1 post) : KI l E yX1_isOpen wsX1_isOpen rmX1_isOpen [.ref (a 0), .int p1] (cM E a v) post (fun u => cM E a u) := by
  unfold s_X1_isOpen at h
  refine KI.go (cc := cX1_isOpen) (ret := (some .boolean)) (maxL := 2) (own := RX1) (by decide) rfl (Nat.le_of_ble_eq_true rfl) rfl (fun p e s m below meth c A ls C0 hw hl => ?_)
  have hx := C0.1
  have hb := C0.2.1
  have hiX1 : ∀ w ∈ wsX10, w ∈ wsX1_isOpen := fun w h => List.mem_cons_of_mem _ (List.mem_append_left _ (List.mem_append_right _ h))
  have hiX5 : ∀ w ∈ wsX50, w ∈ wsX1_isOpen := fun w h => List.mem_cons_of_mem _ (List.mem_append_right _ h)
  replace hl : lv_has ls 2 [(0, .ref (a 0)), (1, .int p1)] := hl
  refine lv_aload_n hx hb dX1_isOpen_0 rfl (lv_at hl 0 rfl) ?_
  refine x_get C0 hw 1 hiX1 rfl 0 rfl 1 (by decide) 1 rfl rfl dX1_isOpen_1 ?_
  refine lv_aload_n hx hb dX1_isOpen_4 rfl (lv_at hl 0 rfl) ?_
  refine x_get C0 hw 1 hiX1 rfl 0 rfl 1 (by decide) 1 rfl rfl dX1_isOpen_5 ?_
  refine x_getN C0 hw 5 hiX5 rfl 6 rfl 6 (by decide) 9 rfl rfl dX1_isOpen_8 ?_
  refine lv_iload_n hx hb dX1_isOpen_11 rfl (lv_at hl 1 rfl) ?_
  refine x_cV (As := [.ref (a 12), .int p1]) (rest := []) (F := []) C0 hw (p_nil _) hl.1 6 5 rfl rfl (c_X5_setWhere_12 l E a h) 2 gX1_isOpen_X5_setWhere rfl ⟨rfl, rfl⟩ (by decide +kernel) ⟨Nat.le_of_ble_eq_true rfl, Nat.le_of_ble_eq_true rfl⟩ rfl rfl (Nat.le_of_ble_eq_true rfl) dX1_isOpen_12 ⟨Nat.zero_le _, Nat.zero_le _⟩ (fun r_1 v_2 H locs h (hw : mw E A s.heap H locs (cM E a v_2)) => ?_)
  refine lv_if_eq (tgt := 22) hx hb dX1_isOpen_15 (by decide) (fun c_3 => ?_) (fun c_3 => ?_)
  · replace h := h.1 c_3
    refine lv_iconst (v := 0) hx hb dX1_isOpen_22 (by decide) ?_
    exact x_retz C0 rfl v_2 hw h dX1_isOpen_23
  · replace h := h.2 c_3
    refine lv_iconst (v := 1) hx hb dX1_isOpen_18 (by decide) ?_
    refine lv_goto (tgt := 23) hx hb dX1_isOpen_19 (by decide) ?_
    exact x_retz C0 rfl v_2 hw h dX1_isOpen_23

abbrev rmX1_tellMemo : Room := { frames := 2, cells := 0, slots := 0, locals := 45 }
set_option maxRecDepth 100000 in
set_option maxHeartbeats 4000000 in
theorem c_X1_tellMemo (l : Launch) (E : EE) (a : Nat → Nat) {v : V}  {p1 : Int32} {p2 : Int32} {post : Int32 → V → Prop} (h : s_X1_tellMemo v p1 p2 post) : KI l E yX1_tellMemo wsX1_tellMemo rmX1_tellMemo [.ref (a 0), .int p1, .int p2] (cM E a v) post (fun u => cM E a u) := by
  unfold s_X1_tellMemo at h
  refine KI.go (cc := cX1_tellMemo) (ret := (some .int)) (maxL := 3) (own := RX1) (by decide) rfl (Nat.le_of_ble_eq_true rfl) rfl (fun p e s m below meth c A ls C0 hw hl => ?_)
  have hx := C0.1
  have hb := C0.2.1
  have hiX1 : ∀ w ∈ wsX10, w ∈ wsX1_tellMemo := fun w h => List.mem_cons_of_mem _ (List.mem_append_left _ (List.mem_append_left _ (List.mem_append_right _ h)))
  have hiX2 : ∀ w ∈ wsX20, w ∈ wsX1_tellMemo := fun w h => List.mem_cons_of_mem _ (List.mem_append_left _ (List.mem_append_right _ h))
  have hiX5 : ∀ w ∈ wsX50, w ∈ wsX1_tellMemo := fun w h => List.mem_cons_of_mem _ (List.mem_append_right _ h)
  replace hl : lv_has ls 3 [(0, .ref (a 0)), (1, .int p1), (2, .int p2)] := hl
  refine lv_iload_n hx hb dX1_tellMemo_0 rfl (lv_at hl 2 rfl) ?_
  by_cases c_1 : p2 = 0
  · replace h := h.1 c_1
    refine x_tabIn (tgt := 48) C0 0 c_1 dX1_tellMemo_1 (by decide) (by decide) rfl (by decide) ?_
    refine lv_aload_n hx hb dX1_tellMemo_48 rfl (lv_at hl 0 rfl) ?_
    refine x_get C0 hw 1 hiX1 rfl 0 rfl 2 (by decide) 1 rfl rfl dX1_tellMemo_49 ?_
    refine x_getN C0 hw 2 hiX2 rfl 16 rfl 1 (by decide) 15 rfl rfl dX1_tellMemo_52 ?_
    refine lv_iload_n hx hb dX1_tellMemo_55 rfl (lv_at hl 1 rfl) ?_
    obtain ⟨hin, h⟩ := h
    refine x_ald C0 hw 17 rfl hin dX1_tellMemo_56 ?_
    exact x_ret C0 v hw h dX1_tellMemo_57
  replace h := h.2
  by_cases c_2 : p2 = 1
  · replace h := h.1 c_2
    refine x_tabIn (tgt := 58) C0 1 c_2 dX1_tellMemo_1 (by decide) (by decide) rfl (by decide) ?_
    refine lv_aload_n hx hb dX1_tellMemo_58 rfl (lv_at hl 0 rfl) ?_
    refine x_get C0 hw 1 hiX1 rfl 0 rfl 2 (by decide) 1 rfl rfl dX1_tellMemo_59 ?_
    refine x_getN C0 hw 2 hiX2 rfl 16 rfl 2 (by decide) 16 rfl rfl dX1_tellMemo_62 ?_
    refine lv_iload_n hx hb dX1_tellMemo_65 rfl (lv_at hl 1 rfl) ?_
    obtain ⟨hin, h⟩ := h
    refine x_ald C0 hw 18 rfl hin dX1_tellMemo_66 ?_
    exact x_ret C0 v hw h dX1_tellMemo_67
  replace h := h.2
  by_cases c_3 : p2 = 2
  · replace h := h.1 c_3
    refine x_tabIn (tgt := 68) C0 2 c_3 dX1_tellMemo_1 (by decide) (by decide) rfl (by decide) ?_
    refine lv_aload_n hx hb dX1_tellMemo_68 rfl (lv_at hl 0 rfl) ?_
    refine x_get C0 hw 1 hiX1 rfl 0 rfl 2 (by decide) 1 rfl rfl dX1_tellMemo_69 ?_
    refine x_getN C0 hw 2 hiX2 rfl 16 rfl 3 (by decide) 17 rfl rfl dX1_tellMemo_72 ?_
    refine lv_iload_n hx hb dX1_tellMemo_75 rfl (lv_at hl 1 rfl) ?_
    obtain ⟨hin, h⟩ := h
    refine x_ald C0 hw 19 rfl hin dX1_tellMemo_76 ?_
    exact x_ret C0 v hw h dX1_tellMemo_77
  replace h := h.2
  by_cases c_6 : p2 = 3
  · replace h := h.1 c_6
    refine x_tabIn (tgt := 78) C0 3 c_6 dX1_tellMemo_1 (by decide) (by decide) rfl (by decide) ?_
    refine lv_aload_n hx hb dX1_tellMemo_78 rfl (lv_at hl 0 rfl) ?_
    refine x_get C0 hw 1 hiX1 rfl 0 rfl 1 (by decide) 2 rfl rfl dX1_tellMemo_79 ?_
    refine lv_aload_n hx hb dX1_tellMemo_82 rfl (lv_at hl 0 rfl) ?_
    refine x_get C0 hw 1 hiX1 rfl 0 rfl 1 (by decide) 2 rfl rfl dX1_tellMemo_83 ?_
    refine x_getN C0 hw 5 hiX5 rfl 6 rfl 6 (by decide) 9 rfl rfl dX1_tellMemo_86 ?_
    refine lv_iload_n hx hb dX1_tellMemo_89 rfl (lv_at hl 1 rfl) ?_
    refine x_cV (As := [.ref (a 12), .int p1]) (rest := []) (F := []) C0 hw (p_nil _) hl.1 6 5 rfl rfl (c_X5_setWhere_12 l E a h) 2 gX1_tellMemo_X5_setWhere rfl ⟨rfl, rfl⟩ (by decide +kernel) ⟨Nat.le_of_ble_eq_true rfl, Nat.le_of_ble_eq_true rfl⟩ rfl rfl (Nat.le_of_ble_eq_true rfl) dX1_tellMemo_90 ⟨Nat.zero_le _, Nat.zero_le _⟩ (fun r_4 v_5 H locs h (hw : mw E A s.heap H locs (cM E a v_5)) => ?_)
    exact x_ret C0 v_5 hw h dX1_tellMemo_93
  replace h := h.2
  by_cases c_7 : p2 = 4
  · replace h := h.1 c_7
    refine x_tabIn (tgt := 94) C0 4 c_7 dX1_tellMemo_1 (by decide) (by decide) rfl (by decide) ?_
    refine lv_aload_n hx hb dX1_tellMemo_94 rfl (lv_at hl 0 rfl) ?_
    refine x_get C0 hw 1 hiX1 rfl 0 rfl 2 (by decide) 1 rfl rfl dX1_tellMemo_95 ?_
    refine x_getN C0 hw 2 hiX2 rfl 16 rfl 4 (by decide) 18 rfl rfl dX1_tellMemo_98 ?_
    refine lv_iload_n hx hb dX1_tellMemo_101 rfl (lv_at hl 1 rfl) ?_
    obtain ⟨hin, h⟩ := h
    refine x_ald C0 hw 20 rfl hin dX1_tellMemo_102 ?_
    exact x_ret C0 v hw h dX1_tellMemo_103
  replace h := h.2
  by_cases c_8 : p2 = 5
  · replace h := h.1 c_8
    refine x_tabIn (tgt := 104) C0 5 c_8 dX1_tellMemo_1 (by decide) (by decide) rfl (by decide) ?_
    refine lv_aload_n hx hb dX1_tellMemo_104 rfl (lv_at hl 0 rfl) ?_
    refine x_get C0 hw 1 hiX1 rfl 0 rfl 2 (by decide) 1 rfl rfl dX1_tellMemo_105 ?_
    refine x_getN C0 hw 2 hiX2 rfl 16 rfl 5 (by decide) 19 rfl rfl dX1_tellMemo_108 ?_
    refine lv_iload_n hx hb dX1_tellMemo_111 rfl (lv_at hl 1 rfl) ?_
    obtain ⟨hin, h⟩ := h
    refine x_ald C0 hw 21 rfl hin dX1_tellMemo_112 ?_
    exact x_ret C0 v hw h dX1_tellMemo_113
  replace h := h.2
  by_cases c_12 : p2 = 6
  · replace h := h.1 c_12
    refine x_tabIn (tgt := 114) C0 6 c_12 dX1_tellMemo_1 (by decide) (by decide) rfl (by decide) ?_
    refine lv_aload_n hx hb dX1_tellMemo_114 rfl (lv_at hl 0 rfl) ?_
    refine lv_iload_n hx hb dX1_tellMemo_115 rfl (lv_at hl 1 rfl) ?_
    refine x_cV (As := [.int p1]) (rest := []) (F := []) C0 hw (p_nil _) hl.1 0 1 rfl rfl (c_X1_isOpen l E a h) 1 gX1_tellMemo_X1_isOpen rfl ⟨rfl, rfl⟩ (by decide +kernel) ⟨Nat.le_of_ble_eq_true rfl, Nat.le_of_ble_eq_true rfl⟩ rfl rfl (Nat.le_of_ble_eq_true rfl) dX1_tellMemo_116 ⟨Nat.zero_le _, Nat.zero_le _⟩ (fun r_9 v_10 H locs h (hw : mw E A s.heap H locs (cM E a v_10)) => ?_)
    refine lv_if_eq (tgt := 126) hx hb dX1_tellMemo_119 (by decide) (fun c_11 => ?_) (fun c_11 => ?_)
    · replace h := h.1 c_11
      refine lv_iconst (v := 0) hx hb dX1_tellMemo_126 (by decide) ?_
      exact x_ret C0 v_10 hw h dX1_tellMemo_127
    · replace h := h.2 c_11
      refine lv_iconst (v := 1) hx hb dX1_tellMemo_122 (by decide) ?_
      refine lv_goto (tgt := 127) hx hb dX1_tellMemo_123 (by decide) ?_
      exact x_ret C0 v_10 hw h dX1_tellMemo_127
  replace h := h.2
  by_cases c_13 : p2 = 7
  · replace h := h.1 c_13
    refine x_tabIn (tgt := 128) C0 7 c_13 dX1_tellMemo_1 (by decide) (by decide) rfl (by decide) ?_
    refine lv_iconst (v := 0) hx hb dX1_tellMemo_128 (by decide) ?_
    refine lv_aload_n hx hb dX1_tellMemo_129 rfl (lv_at hl 0 rfl) ?_
    refine x_get C0 hw 1 hiX1 rfl 0 rfl 2 (by decide) 1 rfl rfl dX1_tellMemo_130 ?_
    refine x_getN C0 hw 2 hiX2 rfl 16 rfl 3 (by decide) 17 rfl rfl dX1_tellMemo_133 ?_
    refine lv_iload_n hx hb dX1_tellMemo_136 rfl (lv_at hl 1 rfl) ?_
    obtain ⟨hin, h⟩ := h
    refine x_ald C0 hw 19 rfl hin dX1_tellMemo_137 ?_
    refine lv_aload_n hx hb dX1_tellMemo_138 rfl (lv_at hl 0 rfl) ?_
    refine x_get C0 hw 1 hiX1 rfl 0 rfl 5 (by decide) 3 rfl rfl dX1_tellMemo_139 ?_
    refine lv_isub hx hb dX1_tellMemo_142 ?_
    refine x_max C0 hl.1 4 rfl rfl rfl rfl (Nat.le_of_ble_eq_true rfl) (Nat.le_of_ble_eq_true rfl) ⟨Nat.zero_le _, Nat.zero_le _⟩ dX1_tellMemo_143 ?_
    exact x_ret C0 v hw h dX1_tellMemo_146
  replace h := h.2
  have cD : p2.toInt < 0 ∨ 7 < p2.toInt := by
    have := ne_toInt (z := 0) (by decide) c_1
    have := ne_toInt (z := 1) (by decide) c_2
    have := ne_toInt (z := 2) (by decide) c_3
    have := ne_toInt (z := 3) (by decide) c_6
    have := ne_toInt (z := 4) (by decide) c_7
    have := ne_toInt (z := 5) (by decide) c_8
    have := ne_toInt (z := 6) (by decide) c_12
    have := ne_toInt (z := 7) (by decide) c_13
    omega
  replace h := h cD
  refine lv_tableOut (tgt := 147) hx hb dX1_tellMemo_1 cD (by decide) ?_
  refine x_ldc (v := (-10000001)) C0 8 rfl dX1_tellMemo_147 ?_
  exact x_ret C0 v hw h dX1_tellMemo_149

abbrev rmX1_countOpen : Room := { frames := 2, cells := 0, slots := 0, locals := 45 }
set_option maxRecDepth 100000 in
set_option maxHeartbeats 4000000 in
theorem w_X1_countOpen_4 {p : Program} {l : Launch} {e : Env} {s : State} {m : MethodId} {below : List Frame} {meth : Method} {c : Code} {E : EE} {A : Nat → Prop} {a : Nat → Nat} {args : Array Value} (C0 : Cx E p s m args meth c A cX1_countOpen 3 RX1 wsX1_countOpen (some .int)) {post : Int32 → V → Prop}   {k0 : Int32 → Int32 → V → Prop} : ∀ (n : Nat) (x1 : Int32) (x2 : Int32) (v : V), sl_X1_countOpen_4 post k0 n x1 x2 v → ∀ (H : Heap) (locs : List Loc) (ls : Array Slot), mw E A s.heap H locs (cM E a v) → lv_has ls 3 [(0, .ref (a 0)), (1, .int x1), (2, .int x2)] → (∀ (x1 : Int32) (x2 : Int32) (v : V) (H : Heap) (locs : List Loc) (ls : Array Slot), k0 x1 x2 v → mw E A s.heap H locs (cM E a v) → lv_has ls 3 [(0, .ref (a 0)), (1, .int x1), (2, .int x2)] → W p l e rmX1_countOpen s m args below meth c H locs 0 0 (qI E A post (fun u => cM E a u) below args s) (F0 m 32 ls [])) → W p l e rmX1_countOpen s m args below meth c H locs 0 0 (qI E A post (fun u => cM E a u) below args s) (F0 m 4 ls []) := by
  have hx := C0.1
  have hb := C0.2.1
  have hiX1 : ∀ w ∈ wsX10, w ∈ wsX1_countOpen := fun w h => List.mem_cons_of_mem _ (List.mem_append_left _ (List.mem_append_left _ (List.mem_append_right _ h)))
  have hiX2 : ∀ w ∈ wsX20, w ∈ wsX1_countOpen := fun w h => List.mem_cons_of_mem _ (List.mem_append_left _ (List.mem_append_right _ h))
  intro n
  induction n with
  | zero => intro x1 x2 v h; exact False.elim h
  | succ n ih =>
    intro x1 x2 v h H locs ls hw hl hk0
    replace h : sb_X1_countOpen_4 post k0 (sl_X1_countOpen_4 post k0 n) x1 x2 v := h
    unfold sb_X1_countOpen_4 at h
    refine lv_iload_n hx hb dX1_countOpen_4 rfl (lv_at hl 2 rfl) ?_
    refine lv_aload_n hx hb dX1_countOpen_5 rfl (lv_at hl 0 rfl) ?_
    refine x_get C0 hw 1 hiX1 rfl 0 rfl 2 (by decide) 1 rfl rfl dX1_countOpen_6 ?_
    refine x_getN C0 hw 2 hiX2 rfl 16 rfl 0 (by decide) 14 rfl rfl dX1_countOpen_9 ?_
    refine lv_icmp_ge (tgt := 32) hx hb dX1_countOpen_12 (by decide) (fun c_4 => ?_) (fun c_4 => ?_)
    · replace h := h.1 c_4
      exact hk0 _ _ _ _ _ _ h hw (lv_sub hl [0, 1, 2] rfl)
    · replace h := h.2 c_4
      refine lv_aload_n hx hb dX1_countOpen_15 rfl (lv_at hl 0 rfl) ?_
      refine lv_iload_n hx hb dX1_countOpen_16 rfl (lv_at hl 2 rfl) ?_
      refine x_cV (As := [.int x2]) (rest := []) (F := []) C0 hw (p_nil _) hl.1 0 1 rfl rfl (c_X1_isOpen l E a h) 1 gX1_countOpen_X1_isOpen rfl ⟨rfl, rfl⟩ (by decide +kernel) ⟨Nat.le_of_ble_eq_true rfl, Nat.le_of_ble_eq_true rfl⟩ rfl rfl (Nat.le_of_ble_eq_true rfl) dX1_countOpen_17 ⟨Nat.zero_le _, Nat.zero_le _⟩ (fun r_1 v_2 H locs h (hw : mw E A s.heap H locs (cM E a v_2)) => ?_)
      refine lv_if_eq (tgt := 26) hx hb dX1_countOpen_20 (by decide) (fun c_3 => ?_) (fun c_3 => ?_)
      · replace h := h.1 c_3
        refine lv_iinc (v := (x2 + 1)) (lv' := [(2, .int (x2 + 1)), (0, .ref (a 0)), (1, .int x1)]) hx hb dX1_countOpen_26 hl (k := 2) rfl rfl (by decide) rfl (fun ls hl => ?_)
        refine lv_goto (tgt := 4) hx hb dX1_countOpen_29 (by decide) ?_
        exact ih _ _ _ h _ _ _ hw (lv_sub hl [1, 2, 0] rfl) hk0
      · replace h := h.2 c_3
        refine lv_iinc (v := (x1 + 1)) (lv' := [(1, .int (x1 + 1)), (0, .ref (a 0)), (2, .int x2)]) hx hb dX1_countOpen_23 hl (k := 1) rfl rfl (by decide) rfl (fun ls hl => ?_)
        refine lv_iinc (v := (x2 + 1)) (lv' := [(2, .int (x2 + 1)), (1, .int (x1 + 1)), (0, .ref (a 0))]) hx hb dX1_countOpen_26 hl (k := 2) rfl rfl (by decide) rfl (fun ls hl => ?_)
        refine lv_goto (tgt := 4) hx hb dX1_countOpen_29 (by decide) ?_
        exact ih _ _ _ h _ _ _ hw (lv_sub hl [2, 1, 0] rfl) hk0
set_option maxRecDepth 100000 in
set_option maxHeartbeats 4000000 in
theorem c_X1_countOpen (l : Launch) (E : EE) (a : Nat → Nat) {v : V}   {post : Int32 → V → Prop} (h : s_X1_countOpen v post) : KI l E yX1_countOpen wsX1_countOpen rmX1_countOpen [.ref (a 0)] (cM E a v) post (fun u => cM E a u) := by
  unfold s_X1_countOpen at h
  refine KI.go (cc := cX1_countOpen) (ret := (some .int)) (maxL := 3) (own := RX1) (by decide) rfl (Nat.le_of_ble_eq_true rfl) rfl (fun p e s m below meth c A ls C0 hw hl => ?_)
  have hx := C0.1
  have hb := C0.2.1
  have hiX1 : ∀ w ∈ wsX10, w ∈ wsX1_countOpen := fun w h => List.mem_cons_of_mem _ (List.mem_append_left _ (List.mem_append_left _ (List.mem_append_right _ h)))
  have hiX2 : ∀ w ∈ wsX20, w ∈ wsX1_countOpen := fun w h => List.mem_cons_of_mem _ (List.mem_append_left _ (List.mem_append_right _ h))
  replace hl : lv_has ls 3 [(0, .ref (a 0))] := hl
  refine lv_iconst (v := 0) hx hb dX1_countOpen_0 (by decide) ?_
  refine lv_istore_n (lv' := [(1, .int 0), (0, .ref (a 0))]) hx hb dX1_countOpen_1 rfl hl (by decide) rfl (fun ls hl => ?_)
  refine lv_iconst (v := 0) hx hb dX1_countOpen_2 (by decide) ?_
  refine lv_istore_n (lv' := [(2, .int 0), (1, .int 0), (0, .ref (a 0))]) hx hb dX1_countOpen_3 rfl hl (by decide) rfl (fun ls hl => ?_)
  obtain ⟨n_5, h⟩ := h
  refine w_X1_countOpen_4 C0 _ _ _ _ h _ _ _ hw (lv_sub hl [2, 1, 0] rfl) ?_
  · intro x1_6 x2_7 v_8 H locs ls h hw hl
    refine lv_iload_n hx hb dX1_countOpen_32 rfl (lv_at hl 1 rfl) ?_
    exact x_ret C0 v_8 hw h dX1_countOpen_33

abbrev rmX1_sumOfBalances : Room := { frames := 0, cells := 0, slots := 0, locals := 0 }
set_option maxRecDepth 100000 in
set_option maxHeartbeats 4000000 in
theorem w_X1_sumOfBalances_4 {p : Program} {l : Launch} {e : Env} {s : State} {m : MethodId} {below : List Frame} {meth : Method} {c : Code} {E : EE} {A : Nat → Prop} {a : Nat → Nat} {args : Array Value} (C0 : Cx E p s m args meth c A cX1_sumOfBalances 3 RX1 wsX1_sumOfBalances (some .int)) {post : Int32 → V → Prop}   {k0 : Int32 → Int32 → V → Prop} : ∀ (n : Nat) (x1 : Int32) (x2 : Int32) (v : V), sl_X1_sumOfBalances_4 post k0 n x1 x2 v → ∀ (H : Heap) (locs : List Loc) (ls : Array Slot), mw E A s.heap H locs (cM E a v) → lv_has ls 3 [(0, .ref (a 0)), (1, .int x1), (2, .int x2)] → (∀ (x1 : Int32) (x2 : Int32) (v : V) (H : Heap) (locs : List Loc) (ls : Array Slot), k0 x1 x2 v → mw E A s.heap H locs (cM E a v) → lv_has ls 3 [(0, .ref (a 0)), (1, .int x1), (2, .int x2)] → W p l e rmX1_sumOfBalances s m args below meth c H locs 0 0 (qI E A post (fun u => cM E a u) below args s) (F0 m 27 ls [])) → W p l e rmX1_sumOfBalances s m args below meth c H locs 0 0 (qI E A post (fun u => cM E a u) below args s) (F0 m 4 ls []) := by
  have hx := C0.1
  have hb := C0.2.1
  have hiX1 : ∀ w ∈ wsX10, w ∈ wsX1_sumOfBalances := fun w h => List.mem_cons_of_mem _ (List.mem_append_right _ h)
  intro n
  induction n with
  | zero => intro x1 x2 v h; exact False.elim h
  | succ n ih =>
    intro x1 x2 v h H locs ls hw hl hk0
    replace h : sb_X1_sumOfBalances_4 post k0 (sl_X1_sumOfBalances_4 post k0 n) x1 x2 v := h
    unfold sb_X1_sumOfBalances_4 at h
    refine lv_iload_n hx hb dX1_sumOfBalances_4 rfl (lv_at hl 2 rfl) ?_
    refine lv_aload_n hx hb dX1_sumOfBalances_5 rfl (lv_at hl 0 rfl) ?_
    refine x_get C0 hw 1 hiX1 rfl 0 rfl 4 (by decide) 1 rfl rfl dX1_sumOfBalances_6 ?_
    refine lv_icmp_ge (tgt := 27) hx hb dX1_sumOfBalances_9 (by decide) (fun c_1 => ?_) (fun c_1 => ?_)
    · replace h := h.1 c_1
      exact hk0 _ _ _ _ _ _ h hw (lv_sub hl [0, 1, 2] rfl)
    · replace h := h.2 c_1
      refine lv_iload_n hx hb dX1_sumOfBalances_12 rfl (lv_at hl 1 rfl) ?_
      refine lv_aload_n hx hb dX1_sumOfBalances_13 rfl (lv_at hl 0 rfl) ?_
      refine x_get C0 hw 1 hiX1 rfl 0 rfl 3 (by decide) 2 rfl rfl dX1_sumOfBalances_14 ?_
      refine lv_iload_n hx hb dX1_sumOfBalances_17 rfl (lv_at hl 2 rfl) ?_
      obtain ⟨hin, h⟩ := h
      refine x_ald C0 hw 22 rfl hin dX1_sumOfBalances_18 ?_
      refine lv_iadd hx hb dX1_sumOfBalances_19 ?_
      refine lv_istore_n (lv' := [(1, .int (x1 + (v 22 (tn x2)))), (0, .ref (a 0)), (2, .int x2)]) hx hb dX1_sumOfBalances_20 rfl hl (by decide) rfl (fun ls hl => ?_)
      refine lv_iinc (v := (x2 + 1)) (lv' := [(2, .int (x2 + 1)), (1, .int (x1 + (v 22 (tn x2)))), (0, .ref (a 0))]) hx hb dX1_sumOfBalances_21 hl (k := 2) rfl rfl (by decide) rfl (fun ls hl => ?_)
      refine lv_goto (tgt := 4) hx hb dX1_sumOfBalances_24 (by decide) ?_
      exact ih _ _ _ h _ _ _ hw (lv_sub hl [2, 1, 0] rfl) hk0
set_option maxRecDepth 100000 in
set_option maxHeartbeats 4000000 in
theorem c_X1_sumOfBalances (l : Launch) (E : EE) (a : Nat → Nat) {v : V}   {post : Int32 → V → Prop} (h : s_X1_sumOfBalances v post) : KI l E yX1_sumOfBalances wsX1_sumOfBalances rmX1_sumOfBalances [.ref (a 0)] (cM E a v) post (fun u => cM E a u) := by
  unfold s_X1_sumOfBalances at h
  refine KI.go (cc := cX1_sumOfBalances) (ret := (some .int)) (maxL := 3) (own := RX1) (by decide) rfl (Nat.le_of_ble_eq_true rfl) rfl (fun p e s m below meth c A ls C0 hw hl => ?_)
  have hx := C0.1
  have hb := C0.2.1
  have hiX1 : ∀ w ∈ wsX10, w ∈ wsX1_sumOfBalances := fun w h => List.mem_cons_of_mem _ (List.mem_append_right _ h)
  replace hl : lv_has ls 3 [(0, .ref (a 0))] := hl
  refine lv_iconst (v := 0) hx hb dX1_sumOfBalances_0 (by decide) ?_
  refine lv_istore_n (lv' := [(1, .int 0), (0, .ref (a 0))]) hx hb dX1_sumOfBalances_1 rfl hl (by decide) rfl (fun ls hl => ?_)
  refine lv_iconst (v := 0) hx hb dX1_sumOfBalances_2 (by decide) ?_
  refine lv_istore_n (lv' := [(2, .int 0), (1, .int 0), (0, .ref (a 0))]) hx hb dX1_sumOfBalances_3 rfl hl (by decide) rfl (fun ls hl => ?_)
  obtain ⟨n_2, h⟩ := h
  refine w_X1_sumOfBalances_4 C0 _ _ _ _ h _ _ _ hw (lv_sub hl [2, 1, 0] rfl) ?_
  · intro x1_3 x2_4 v_5 H locs ls h hw hl
    refine lv_iload_n hx hb dX1_sumOfBalances_27 rfl (lv_at hl 1 rfl) ?_
    exact x_ret C0 v_5 hw h dX1_sumOfBalances_28

abbrev rmX3_entries : Room := { frames := 0, cells := 0, slots := 0, locals := 0 }
set_option maxRecDepth 100000 in
set_option maxHeartbeats 4000000 in
theorem w_X3_entries_4 {p : Program} {l : Launch} {e : Env} {s : State} {m : MethodId} {below : List Frame} {meth : Method} {c : Code} {E : EE} {A : Nat → Prop} {a : Nat → Nat} {args : Array Value} (C0 : Cx E p s m args meth c A cX3_entries 3 RX3 wsX3_entries (some .int)) {post : Int32 → V → Prop}   {k0 : Int32 → Int32 → V → Prop} : ∀ (n : Nat) (x1 : Int32) (x2 : Int32) (v : V), sl_X3_entries_4 post k0 n x1 x2 v → ∀ (H : Heap) (locs : List Loc) (ls : Array Slot), mw E A s.heap H locs (cM E a v) → lv_has ls 3 [(0, .ref (a 1)), (1, .int x1), (2, .int x2)] → (∀ (x1 : Int32) (x2 : Int32) (v : V) (H : Heap) (locs : List Loc) (ls : Array Slot), k0 x1 x2 v → mw E A s.heap H locs (cM E a v) → lv_has ls 3 [(0, .ref (a 1)), (1, .int x1), (2, .int x2)] → W p l e rmX3_entries s m args below meth c H locs 0 0 (qI E A post (fun u => cM E a u) below args s) (F0 m 28 ls [])) → W p l e rmX3_entries s m args below meth c H locs 0 0 (qI E A post (fun u => cM E a u) below args s) (F0 m 4 ls []) := by
  have hx := C0.1
  have hb := C0.2.1
  have hiX3 : ∀ w ∈ wsX30, w ∈ wsX3_entries := fun w h => List.mem_cons_of_mem _ (List.mem_append_right _ h)
  intro n
  induction n with
  | zero => intro x1 x2 v h; exact False.elim h
  | succ n ih =>
    intro x1 x2 v h H locs ls hw hl hk0
    replace h : sb_X3_entries_4 post k0 (sl_X3_entries_4 post k0 n) x1 x2 v := h
    unfold sb_X3_entries_4 at h
    refine lv_iload_n hx hb dX3_entries_4 rfl (lv_at hl 2 rfl) ?_
    refine lv_bipush (v := 24) hx hb dX3_entries_5 (by decide) ?_
    refine lv_icmp_ge (tgt := 28) hx hb dX3_entries_7 (by decide) (fun c_2 => ?_) (fun c_2 => ?_)
    · replace h := h.1 c_2
      exact hk0 _ _ _ _ _ _ h hw (lv_sub hl [0, 1, 2] rfl)
    · replace h := h.2 c_2
      refine lv_aload_n hx hb dX3_entries_10 rfl (lv_at hl 0 rfl) ?_
      refine x_get C0 hw 3 hiX3 rfl 1 rfl 3 (by decide) 1 rfl rfl dX3_entries_11 ?_
      refine lv_iload_n hx hb dX3_entries_14 rfl (lv_at hl 2 rfl) ?_
      obtain ⟨hin, h⟩ := h
      refine x_ald C0 hw 5 rfl hin dX3_entries_15 ?_
      refine lv_if_eq (tgt := 22) hx hb dX3_entries_16 (by decide) (fun c_1 => ?_) (fun c_1 => ?_)
      · replace h := h.1 c_1
        refine lv_iinc (v := (x2 + 1)) (lv' := [(2, .int (x2 + 1)), (0, .ref (a 1)), (1, .int x1)]) hx hb dX3_entries_22 hl (k := 2) rfl rfl (by decide) rfl (fun ls hl => ?_)
        refine lv_goto (tgt := 4) hx hb dX3_entries_25 (by decide) ?_
        exact ih _ _ _ h _ _ _ hw (lv_sub hl [1, 2, 0] rfl) hk0
      · replace h := h.2 c_1
        refine lv_iinc (v := (x1 + 1)) (lv' := [(1, .int (x1 + 1)), (0, .ref (a 1)), (2, .int x2)]) hx hb dX3_entries_19 hl (k := 1) rfl rfl (by decide) rfl (fun ls hl => ?_)
        refine lv_iinc (v := (x2 + 1)) (lv' := [(2, .int (x2 + 1)), (1, .int (x1 + 1)), (0, .ref (a 1))]) hx hb dX3_entries_22 hl (k := 2) rfl rfl (by decide) rfl (fun ls hl => ?_)
        refine lv_goto (tgt := 4) hx hb dX3_entries_25 (by decide) ?_
        exact ih _ _ _ h _ _ _ hw (lv_sub hl [2, 1, 0] rfl) hk0
set_option maxRecDepth 100000 in
set_option maxHeartbeats 4000000 in
theorem c_X3_entries (l : Launch) (E : EE) (a : Nat → Nat) {v : V}   {post : Int32 → V → Prop} (h : s_X3_entries v post) : KI l E yX3_entries wsX3_entries rmX3_entries [.ref (a 1)] (cM E a v) post (fun u => cM E a u) := by
  unfold s_X3_entries at h
  refine KI.go (cc := cX3_entries) (ret := (some .int)) (maxL := 3) (own := RX3) (by decide) rfl (Nat.le_of_ble_eq_true rfl) rfl (fun p e s m below meth c A ls C0 hw hl => ?_)
  have hx := C0.1
  have hb := C0.2.1
  have hiX3 : ∀ w ∈ wsX30, w ∈ wsX3_entries := fun w h => List.mem_cons_of_mem _ (List.mem_append_right _ h)
  replace hl : lv_has ls 3 [(0, .ref (a 1))] := hl
  refine lv_iconst (v := 0) hx hb dX3_entries_0 (by decide) ?_
  refine lv_istore_n (lv' := [(1, .int 0), (0, .ref (a 1))]) hx hb dX3_entries_1 rfl hl (by decide) rfl (fun ls hl => ?_)
  refine lv_iconst (v := 0) hx hb dX3_entries_2 (by decide) ?_
  refine lv_istore_n (lv' := [(2, .int 0), (1, .int 0), (0, .ref (a 1))]) hx hb dX3_entries_3 rfl hl (by decide) rfl (fun ls hl => ?_)
  obtain ⟨n_3, h⟩ := h
  refine w_X3_entries_4 C0 _ _ _ _ h _ _ _ hw (lv_sub hl [2, 1, 0] rfl) ?_
  · intro x1_4 x2_5 v_6 H locs ls h hw hl
    refine lv_iload_n hx hb dX3_entries_28 rfl (lv_at hl 1 rfl) ?_
    exact x_ret C0 v_6 hw h dX3_entries_29

abbrev rmX5_countOut : Room := { frames := 1, cells := 0, slots := 0, locals := 21 }
set_option maxRecDepth 100000 in
set_option maxHeartbeats 4000000 in
theorem w_X5_countOut_4 {p : Program} {l : Launch} {e : Env} {s : State} {m : MethodId} {below : List Frame} {meth : Method} {c : Code} {E : EE} {A : Nat → Prop} {a : Nat → Nat} {args : Array Value} (C0 : Cx E p s m args meth c A cX5_countOut 3 RX5 wsX5_countOut (some .int)) {post : Int32 → V → Prop}   {k0 : Int32 → Int32 → V → Prop} : ∀ (n : Nat) (x1 : Int32) (x2 : Int32) (v : V), sl_X5_countOut_4 post k0 n x1 x2 v → ∀ (H : Heap) (locs : List Loc) (ls : Array Slot), mw E A s.heap H locs (cM E a v) → lv_has ls 3 [(0, .ref (a 6)), (1, .int x1), (2, .int x2)] → (∀ (x1 : Int32) (x2 : Int32) (v : V) (H : Heap) (locs : List Loc) (ls : Array Slot), k0 x1 x2 v → mw E A s.heap H locs (cM E a v) → lv_has ls 3 [(0, .ref (a 6)), (1, .int x1), (2, .int x2)] → W p l e rmX5_countOut s m args below meth c H locs 0 0 (qI E A post (fun u => cM E a u) below args s) (F0 m 29 ls [])) → W p l e rmX5_countOut s m args below meth c H locs 0 0 (qI E A post (fun u => cM E a u) below args s) (F0 m 4 ls []) := by
  have hx := C0.1
  have hb := C0.2.1
  have hiX5 : ∀ w ∈ wsX50, w ∈ wsX5_countOut := fun w h => List.mem_cons_of_mem _ (List.mem_append_right _ h)
  intro n
  induction n with
  | zero => intro x1 x2 v h; exact False.elim h
  | succ n ih =>
    intro x1 x2 v h H locs ls hw hl hk0
    replace h : sb_X5_countOut_4 post k0 (sl_X5_countOut_4 post k0 n) x1 x2 v := h
    unfold sb_X5_countOut_4 at h
    refine lv_iload_n hx hb dX5_countOut_4 rfl (lv_at hl 2 rfl) ?_
    refine lv_aload_n hx hb dX5_countOut_5 rfl (lv_at hl 0 rfl) ?_
    refine x_get C0 hw 5 hiX5 rfl 6 rfl 0 (by decide) 1 rfl rfl dX5_countOut_6 ?_
    refine lv_icmp_ge (tgt := 29) hx hb dX5_countOut_9 (by decide) (fun c_4 => ?_) (fun c_4 => ?_)
    · replace h := h.1 c_4
      exact hk0 _ _ _ _ _ _ h hw (lv_sub hl [0, 1, 2] rfl)
    · replace h := h.2 c_4
      refine lv_aload_n hx hb dX5_countOut_12 rfl (lv_at hl 0 rfl) ?_
      refine lv_iload_n hx hb dX5_countOut_13 rfl (lv_at hl 2 rfl) ?_
      refine x_cV (As := [.int x2]) (rest := []) (F := []) C0 hw (p_nil _) hl.1 6 5 rfl rfl (c_X5_isOut l E a h) 1 gX5_countOut_X5_isOut rfl ⟨rfl, rfl⟩ (by decide +kernel) ⟨Nat.le_of_ble_eq_true rfl, Nat.le_of_ble_eq_true rfl⟩ rfl rfl (Nat.le_of_ble_eq_true rfl) dX5_countOut_14 ⟨Nat.zero_le _, Nat.zero_le _⟩ (fun r_1 v_2 H locs h (hw : mw E A s.heap H locs (cM E a v_2)) => ?_)
      refine lv_if_eq (tgt := 23) hx hb dX5_countOut_17 (by decide) (fun c_3 => ?_) (fun c_3 => ?_)
      · replace h := h.1 c_3
        refine lv_iinc (v := (x2 + 1)) (lv' := [(2, .int (x2 + 1)), (0, .ref (a 6)), (1, .int x1)]) hx hb dX5_countOut_23 hl (k := 2) rfl rfl (by decide) rfl (fun ls hl => ?_)
        refine lv_goto (tgt := 4) hx hb dX5_countOut_26 (by decide) ?_
        exact ih _ _ _ h _ _ _ hw (lv_sub hl [1, 2, 0] rfl) hk0
      · replace h := h.2 c_3
        refine lv_iinc (v := (x1 + 1)) (lv' := [(1, .int (x1 + 1)), (0, .ref (a 6)), (2, .int x2)]) hx hb dX5_countOut_20 hl (k := 1) rfl rfl (by decide) rfl (fun ls hl => ?_)
        refine lv_iinc (v := (x2 + 1)) (lv' := [(2, .int (x2 + 1)), (1, .int (x1 + 1)), (0, .ref (a 6))]) hx hb dX5_countOut_23 hl (k := 2) rfl rfl (by decide) rfl (fun ls hl => ?_)
        refine lv_goto (tgt := 4) hx hb dX5_countOut_26 (by decide) ?_
        exact ih _ _ _ h _ _ _ hw (lv_sub hl [2, 1, 0] rfl) hk0
set_option maxRecDepth 100000 in
set_option maxHeartbeats 4000000 in
theorem c_X5_countOut (l : Launch) (E : EE) (a : Nat → Nat) {v : V}   {post : Int32 → V → Prop} (h : s_X5_countOut v post) : KI l E yX5_countOut wsX5_countOut rmX5_countOut [.ref (a 6)] (cM E a v) post (fun u => cM E a u) := by
  unfold s_X5_countOut at h
  refine KI.go (cc := cX5_countOut) (ret := (some .int)) (maxL := 3) (own := RX5) (by decide) rfl (Nat.le_of_ble_eq_true rfl) rfl (fun p e s m below meth c A ls C0 hw hl => ?_)
  have hx := C0.1
  have hb := C0.2.1
  have hiX5 : ∀ w ∈ wsX50, w ∈ wsX5_countOut := fun w h => List.mem_cons_of_mem _ (List.mem_append_right _ h)
  replace hl : lv_has ls 3 [(0, .ref (a 6))] := hl
  refine lv_iconst (v := 0) hx hb dX5_countOut_0 (by decide) ?_
  refine lv_istore_n (lv' := [(1, .int 0), (0, .ref (a 6))]) hx hb dX5_countOut_1 rfl hl (by decide) rfl (fun ls hl => ?_)
  refine lv_iconst (v := 0) hx hb dX5_countOut_2 (by decide) ?_
  refine lv_istore_n (lv' := [(2, .int 0), (1, .int 0), (0, .ref (a 6))]) hx hb dX5_countOut_3 rfl hl (by decide) rfl (fun ls hl => ?_)
  obtain ⟨n_5, h⟩ := h
  refine w_X5_countOut_4 C0 _ _ _ _ h _ _ _ hw (lv_sub hl [2, 1, 0] rfl) ?_
  · intro x1_6 x2_7 v_8 H locs ls h hw hl
    refine lv_iload_n hx hb dX5_countOut_29 rfl (lv_at hl 1 rfl) ?_
    exact x_ret C0 v_8 hw h dX5_countOut_30

abbrev rmX5_countSold : Room := { frames := 1, cells := 0, slots := 0, locals := 21 }
set_option maxRecDepth 100000 in
set_option maxHeartbeats 4000000 in
theorem w_X5_countSold_4 {p : Program} {l : Launch} {e : Env} {s : State} {m : MethodId} {below : List Frame} {meth : Method} {c : Code} {E : EE} {A : Nat → Prop} {a : Nat → Nat} {args : Array Value} (C0 : Cx E p s m args meth c A cX5_countSold 3 RX5 wsX5_countSold (some .int)) {post : Int32 → V → Prop}   {k0 : Int32 → Int32 → V → Prop} : ∀ (n : Nat) (x1 : Int32) (x2 : Int32) (v : V), sl_X5_countSold_4 post k0 n x1 x2 v → ∀ (H : Heap) (locs : List Loc) (ls : Array Slot), mw E A s.heap H locs (cM E a v) → lv_has ls 3 [(0, .ref (a 6)), (1, .int x1), (2, .int x2)] → (∀ (x1 : Int32) (x2 : Int32) (v : V) (H : Heap) (locs : List Loc) (ls : Array Slot), k0 x1 x2 v → mw E A s.heap H locs (cM E a v) → lv_has ls 3 [(0, .ref (a 6)), (1, .int x1), (2, .int x2)] → W p l e rmX5_countSold s m args below meth c H locs 0 0 (qI E A post (fun u => cM E a u) below args s) (F0 m 29 ls [])) → W p l e rmX5_countSold s m args below meth c H locs 0 0 (qI E A post (fun u => cM E a u) below args s) (F0 m 4 ls []) := by
  have hx := C0.1
  have hb := C0.2.1
  have hiX5 : ∀ w ∈ wsX50, w ∈ wsX5_countSold := fun w h => List.mem_cons_of_mem _ (List.mem_append_right _ h)
  intro n
  induction n with
  | zero => intro x1 x2 v h; exact False.elim h
  | succ n ih =>
    intro x1 x2 v h H locs ls hw hl hk0
    replace h : sb_X5_countSold_4 post k0 (sl_X5_countSold_4 post k0 n) x1 x2 v := h
    unfold sb_X5_countSold_4 at h
    refine lv_iload_n hx hb dX5_countSold_4 rfl (lv_at hl 2 rfl) ?_
    refine lv_aload_n hx hb dX5_countSold_5 rfl (lv_at hl 0 rfl) ?_
    refine x_get C0 hw 5 hiX5 rfl 6 rfl 0 (by decide) 1 rfl rfl dX5_countSold_6 ?_
    refine lv_icmp_ge (tgt := 29) hx hb dX5_countSold_9 (by decide) (fun c_4 => ?_) (fun c_4 => ?_)
    · replace h := h.1 c_4
      exact hk0 _ _ _ _ _ _ h hw (lv_sub hl [0, 1, 2] rfl)
    · replace h := h.2 c_4
      refine lv_aload_n hx hb dX5_countSold_12 rfl (lv_at hl 0 rfl) ?_
      refine lv_iload_n hx hb dX5_countSold_13 rfl (lv_at hl 2 rfl) ?_
      refine x_cV (As := [.int x2]) (rest := []) (F := []) C0 hw (p_nil _) hl.1 6 5 rfl rfl (c_X5_isSold l E a h) 1 gX5_countSold_X5_isSold rfl ⟨rfl, rfl⟩ (by decide +kernel) ⟨Nat.le_of_ble_eq_true rfl, Nat.le_of_ble_eq_true rfl⟩ rfl rfl (Nat.le_of_ble_eq_true rfl) dX5_countSold_14 ⟨Nat.zero_le _, Nat.zero_le _⟩ (fun r_1 v_2 H locs h (hw : mw E A s.heap H locs (cM E a v_2)) => ?_)
      refine lv_if_eq (tgt := 23) hx hb dX5_countSold_17 (by decide) (fun c_3 => ?_) (fun c_3 => ?_)
      · replace h := h.1 c_3
        refine lv_iinc (v := (x2 + 1)) (lv' := [(2, .int (x2 + 1)), (0, .ref (a 6)), (1, .int x1)]) hx hb dX5_countSold_23 hl (k := 2) rfl rfl (by decide) rfl (fun ls hl => ?_)
        refine lv_goto (tgt := 4) hx hb dX5_countSold_26 (by decide) ?_
        exact ih _ _ _ h _ _ _ hw (lv_sub hl [1, 2, 0] rfl) hk0
      · replace h := h.2 c_3
        refine lv_iinc (v := (x1 + 1)) (lv' := [(1, .int (x1 + 1)), (0, .ref (a 6)), (2, .int x2)]) hx hb dX5_countSold_20 hl (k := 1) rfl rfl (by decide) rfl (fun ls hl => ?_)
        refine lv_iinc (v := (x2 + 1)) (lv' := [(2, .int (x2 + 1)), (1, .int (x1 + 1)), (0, .ref (a 6))]) hx hb dX5_countSold_23 hl (k := 2) rfl rfl (by decide) rfl (fun ls hl => ?_)
        refine lv_goto (tgt := 4) hx hb dX5_countSold_26 (by decide) ?_
        exact ih _ _ _ h _ _ _ hw (lv_sub hl [2, 1, 0] rfl) hk0
set_option maxRecDepth 100000 in
set_option maxHeartbeats 4000000 in
theorem c_X5_countSold (l : Launch) (E : EE) (a : Nat → Nat) {v : V}   {post : Int32 → V → Prop} (h : s_X5_countSold v post) : KI l E yX5_countSold wsX5_countSold rmX5_countSold [.ref (a 6)] (cM E a v) post (fun u => cM E a u) := by
  unfold s_X5_countSold at h
  refine KI.go (cc := cX5_countSold) (ret := (some .int)) (maxL := 3) (own := RX5) (by decide) rfl (Nat.le_of_ble_eq_true rfl) rfl (fun p e s m below meth c A ls C0 hw hl => ?_)
  have hx := C0.1
  have hb := C0.2.1
  have hiX5 : ∀ w ∈ wsX50, w ∈ wsX5_countSold := fun w h => List.mem_cons_of_mem _ (List.mem_append_right _ h)
  replace hl : lv_has ls 3 [(0, .ref (a 6))] := hl
  refine lv_iconst (v := 0) hx hb dX5_countSold_0 (by decide) ?_
  refine lv_istore_n (lv' := [(1, .int 0), (0, .ref (a 6))]) hx hb dX5_countSold_1 rfl hl (by decide) rfl (fun ls hl => ?_)
  refine lv_iconst (v := 0) hx hb dX5_countSold_2 (by decide) ?_
  refine lv_istore_n (lv' := [(2, .int 0), (1, .int 0), (0, .ref (a 6))]) hx hb dX5_countSold_3 rfl hl (by decide) rfl (fun ls hl => ?_)
  obtain ⟨n_5, h⟩ := h
  refine w_X5_countSold_4 C0 _ _ _ _ h _ _ _ hw (lv_sub hl [2, 1, 0] rfl) ?_
  · intro x1_6 x2_7 v_8 H locs ls h hw hl
    refine lv_iload_n hx hb dX5_countSold_29 rfl (lv_at hl 1 rfl) ?_
    exact x_ret C0 v_8 hw h dX5_countSold_30

abbrev rmX5_sumSold : Room := { frames := 0, cells := 0, slots := 0, locals := 0 }
set_option maxRecDepth 100000 in
set_option maxHeartbeats 4000000 in
theorem w_X5_sumSold_4 {p : Program} {l : Launch} {e : Env} {s : State} {m : MethodId} {below : List Frame} {meth : Method} {c : Code} {E : EE} {A : Nat → Prop} {a : Nat → Nat} {args : Array Value} (C0 : Cx E p s m args meth c A cX5_sumSold 3 RX5 wsX5_sumSold (some .int)) {post : Int32 → V → Prop}   {k0 : Int32 → Int32 → V → Prop} : ∀ (n : Nat) (x1 : Int32) (x2 : Int32) (v : V), sl_X5_sumSold_4 post k0 n x1 x2 v → ∀ (H : Heap) (locs : List Loc) (ls : Array Slot), mw E A s.heap H locs (cM E a v) → lv_has ls 3 [(0, .ref (a 6)), (1, .int x1), (2, .int x2)] → (∀ (x1 : Int32) (x2 : Int32) (v : V) (H : Heap) (locs : List Loc) (ls : Array Slot), k0 x1 x2 v → mw E A s.heap H locs (cM E a v) → lv_has ls 3 [(0, .ref (a 6)), (1, .int x1), (2, .int x2)] → W p l e rmX5_sumSold s m args below meth c H locs 0 0 (qI E A post (fun u => cM E a u) below args s) (F0 m 27 ls [])) → W p l e rmX5_sumSold s m args below meth c H locs 0 0 (qI E A post (fun u => cM E a u) below args s) (F0 m 4 ls []) := by
  have hx := C0.1
  have hb := C0.2.1
  have hiX5 : ∀ w ∈ wsX50, w ∈ wsX5_sumSold := fun w h => List.mem_cons_of_mem _ (List.mem_append_right _ h)
  intro n
  induction n with
  | zero => intro x1 x2 v h; exact False.elim h
  | succ n ih =>
    intro x1 x2 v h H locs ls hw hl hk0
    replace h : sb_X5_sumSold_4 post k0 (sl_X5_sumSold_4 post k0 n) x1 x2 v := h
    unfold sb_X5_sumSold_4 at h
    refine lv_iload_n hx hb dX5_sumSold_4 rfl (lv_at hl 2 rfl) ?_
    refine lv_aload_n hx hb dX5_sumSold_5 rfl (lv_at hl 0 rfl) ?_
    refine x_get C0 hw 5 hiX5 rfl 6 rfl 0 (by decide) 1 rfl rfl dX5_sumSold_6 ?_
    refine lv_icmp_ge (tgt := 27) hx hb dX5_sumSold_9 (by decide) (fun c_1 => ?_) (fun c_1 => ?_)
    · replace h := h.1 c_1
      exact hk0 _ _ _ _ _ _ h hw (lv_sub hl [0, 1, 2] rfl)
    · replace h := h.2 c_1
      refine lv_iload_n hx hb dX5_sumSold_12 rfl (lv_at hl 1 rfl) ?_
      refine lv_aload_n hx hb dX5_sumSold_13 rfl (lv_at hl 0 rfl) ?_
      refine x_get C0 hw 5 hiX5 rfl 6 rfl 8 (by decide) 2 rfl rfl dX5_sumSold_14 ?_
      refine lv_iload_n hx hb dX5_sumSold_17 rfl (lv_at hl 2 rfl) ?_
      obtain ⟨hin, h⟩ := h
      refine x_ald C0 hw 14 rfl hin dX5_sumSold_18 ?_
      refine lv_iadd hx hb dX5_sumSold_19 ?_
      refine lv_istore_n (lv' := [(1, .int (x1 + (v 14 (tn x2)))), (0, .ref (a 6)), (2, .int x2)]) hx hb dX5_sumSold_20 rfl hl (by decide) rfl (fun ls hl => ?_)
      refine lv_iinc (v := (x2 + 1)) (lv' := [(2, .int (x2 + 1)), (1, .int (x1 + (v 14 (tn x2)))), (0, .ref (a 6))]) hx hb dX5_sumSold_21 hl (k := 2) rfl rfl (by decide) rfl (fun ls hl => ?_)
      refine lv_goto (tgt := 4) hx hb dX5_sumSold_24 (by decide) ?_
      exact ih _ _ _ h _ _ _ hw (lv_sub hl [2, 1, 0] rfl) hk0
set_option maxRecDepth 100000 in
set_option maxHeartbeats 4000000 in
theorem c_X5_sumSold (l : Launch) (E : EE) (a : Nat → Nat) {v : V}   {post : Int32 → V → Prop} (h : s_X5_sumSold v post) : KI l E yX5_sumSold wsX5_sumSold rmX5_sumSold [.ref (a 6)] (cM E a v) post (fun u => cM E a u) := by
  unfold s_X5_sumSold at h
  refine KI.go (cc := cX5_sumSold) (ret := (some .int)) (maxL := 3) (own := RX5) (by decide) rfl (Nat.le_of_ble_eq_true rfl) rfl (fun p e s m below meth c A ls C0 hw hl => ?_)
  have hx := C0.1
  have hb := C0.2.1
  have hiX5 : ∀ w ∈ wsX50, w ∈ wsX5_sumSold := fun w h => List.mem_cons_of_mem _ (List.mem_append_right _ h)
  replace hl : lv_has ls 3 [(0, .ref (a 6))] := hl
  refine lv_iconst (v := 0) hx hb dX5_sumSold_0 (by decide) ?_
  refine lv_istore_n (lv' := [(1, .int 0), (0, .ref (a 6))]) hx hb dX5_sumSold_1 rfl hl (by decide) rfl (fun ls hl => ?_)
  refine lv_iconst (v := 0) hx hb dX5_sumSold_2 (by decide) ?_
  refine lv_istore_n (lv' := [(2, .int 0), (1, .int 0), (0, .ref (a 6))]) hx hb dX5_sumSold_3 rfl hl (by decide) rfl (fun ls hl => ?_)
  obtain ⟨n_2, h⟩ := h
  refine w_X5_sumSold_4 C0 _ _ _ _ h _ _ _ hw (lv_sub hl [2, 1, 0] rfl) ?_
  · intro x1_3 x2_4 v_5 H locs ls h hw hl
    refine lv_iload_n hx hb dX5_sumSold_27 rfl (lv_at hl 1 rfl) ?_
    exact x_ret C0 v_5 hw h dX5_sumSold_28

abbrev rmX1_tellNumber : Room := { frames := 3, cells := 0, slots := 0, locals := 67 }
set_option maxRecDepth 100000 in
set_option maxHeartbeats 4000000 in
theorem c_X1_tellNumber (l : Launch) (E : EE) (a : Nat → Nat) {v : V}  {p1 : Int32} {post : Int32 → V → Prop} (h : s_X1_tellNumber v p1 post) : KI l E yX1_tellNumber wsX1_tellNumber rmX1_tellNumber [.ref (a 0), .int p1] (cM E a v) post (fun u => cM E a u) := by
  unfold s_X1_tellNumber at h
  refine KI.go (cc := cX1_tellNumber) (ret := (some .int)) (maxL := 2) (own := RX1) (by decide) rfl (Nat.le_of_ble_eq_true rfl) rfl (fun p e s m below meth c A ls C0 hw hl => ?_)
  have hx := C0.1
  have hb := C0.2.1
  have hiX1 : ∀ w ∈ wsX10, w ∈ wsX1_tellNumber := fun w h => List.mem_cons_of_mem _ (List.mem_append_left _ (List.mem_append_left _ (List.mem_append_left _ (List.mem_append_right _ h))))
  have hiX2 : ∀ w ∈ wsX20, w ∈ wsX1_tellNumber := fun w h => List.mem_cons_of_mem _ (List.mem_append_left _ (List.mem_append_right _ h))
  have hiX5 : ∀ w ∈ wsX50, w ∈ wsX1_tellNumber := fun w h => List.mem_cons_of_mem _ (List.mem_append_left _ (List.mem_append_left _ (List.mem_append_right _ h)))
  replace hl : lv_has ls 2 [(0, .ref (a 0)), (1, .int p1)] := hl
  refine lv_iload_n hx hb dX1_tellNumber_0 rfl (lv_at hl 1 rfl) ?_
  by_cases c_1 : p1 = 0
  · replace h := h.1 c_1
    refine x_tabIn (tgt := 80) C0 0 c_1 dX1_tellNumber_1 (by decide) (by decide) rfl (by decide) ?_
    refine lv_aload_n hx hb dX1_tellNumber_80 rfl (lv_at hl 0 rfl) ?_
    refine x_get C0 hw 1 hiX1 rfl 0 rfl 4 (by decide) 1 rfl rfl dX1_tellNumber_81 ?_
    exact x_ret C0 v hw h dX1_tellNumber_84
  replace h := h.2
  by_cases c_2 : p1 = 1
  · replace h := h.1 c_2
    refine x_tabIn (tgt := 85) C0 1 c_2 dX1_tellNumber_1 (by decide) (by decide) rfl (by decide) ?_
    refine lv_aload_n hx hb dX1_tellNumber_85 rfl (lv_at hl 0 rfl) ?_
    refine x_get C0 hw 1 hiX1 rfl 0 rfl 1 (by decide) 2 rfl rfl dX1_tellNumber_86 ?_
    refine x_getN C0 hw 5 hiX5 rfl 6 rfl 0 (by decide) 3 rfl rfl dX1_tellNumber_89 ?_
    exact x_ret C0 v hw h dX1_tellNumber_92
  replace h := h.2
  by_cases c_5 : p1 = 2
  · replace h := h.1 c_5
    refine x_tabIn (tgt := 93) C0 2 c_5 dX1_tellNumber_1 (by decide) (by decide) rfl (by decide) ?_
    refine lv_aload_n hx hb dX1_tellNumber_93 rfl (lv_at hl 0 rfl) ?_
    refine x_get C0 hw 1 hiX1 rfl 0 rfl 1 (by decide) 2 rfl rfl dX1_tellNumber_94 ?_
    refine x_cV (As := []) (rest := []) (F := []) C0 hw (p_nil _) hl.1 6 5 rfl rfl (c_X5_countSold l E a h) 0 gX1_tellNumber_X5_countSold rfl ⟨rfl, rfl⟩ (by decide +kernel) ⟨Nat.le_of_ble_eq_true rfl, Nat.le_of_ble_eq_true rfl⟩ rfl rfl (Nat.le_of_ble_eq_true rfl) dX1_tellNumber_97 ⟨Nat.zero_le _, Nat.zero_le _⟩ (fun r_3 v_4 H locs h (hw : mw E A s.heap H locs (cM E a v_4)) => ?_)
    exact x_ret C0 v_4 hw h dX1_tellNumber_100
  replace h := h.2
  by_cases c_8 : p1 = 3
  · replace h := h.1 c_8
    refine x_tabIn (tgt := 101) C0 3 c_8 dX1_tellNumber_1 (by decide) (by decide) rfl (by decide) ?_
    refine lv_aload_n hx hb dX1_tellNumber_101 rfl (lv_at hl 0 rfl) ?_
    refine x_get C0 hw 1 hiX1 rfl 0 rfl 1 (by decide) 2 rfl rfl dX1_tellNumber_102 ?_
    refine x_cV (As := []) (rest := []) (F := []) C0 hw (p_nil _) hl.1 6 5 rfl rfl (c_X5_countOut l E a h) 0 gX1_tellNumber_X5_countOut rfl ⟨rfl, rfl⟩ (by decide +kernel) ⟨Nat.le_of_ble_eq_true rfl, Nat.le_of_ble_eq_true rfl⟩ rfl rfl (Nat.le_of_ble_eq_true rfl) dX1_tellNumber_105 ⟨Nat.zero_le _, Nat.zero_le _⟩ (fun r_6 v_7 H locs h (hw : mw E A s.heap H locs (cM E a v_7)) => ?_)
    exact x_ret C0 v_7 hw h dX1_tellNumber_108
  replace h := h.2
  by_cases c_9 : p1 = 4
  · replace h := h.1 c_9
    refine x_tabIn (tgt := 109) C0 4 c_9 dX1_tellNumber_1 (by decide) (by decide) rfl (by decide) ?_
    refine lv_aload_n hx hb dX1_tellNumber_109 rfl (lv_at hl 0 rfl) ?_
    refine x_get C0 hw 1 hiX1 rfl 0 rfl 2 (by decide) 3 rfl rfl dX1_tellNumber_110 ?_
    refine x_getN C0 hw 2 hiX2 rfl 16 rfl 0 (by decide) 14 rfl rfl dX1_tellNumber_113 ?_
    exact x_ret C0 v hw h dX1_tellNumber_116
  replace h := h.2
  by_cases c_12 : p1 = 5
  · replace h := h.1 c_12
    refine x_tabIn (tgt := 117) C0 5 c_12 dX1_tellNumber_1 (by decide) (by decide) rfl (by decide) ?_
    refine lv_aload_n hx hb dX1_tellNumber_117 rfl (lv_at hl 0 rfl) ?_
    refine x_cV (As := []) (rest := []) (F := []) C0 hw (p_nil _) hl.1 0 1 rfl rfl (c_X1_countOpen l E a h) 0 gX1_tellNumber_X1_countOpen rfl ⟨rfl, rfl⟩ (by decide +kernel) ⟨Nat.le_of_ble_eq_true rfl, Nat.le_of_ble_eq_true rfl⟩ rfl rfl (Nat.le_of_ble_eq_true rfl) dX1_tellNumber_118 ⟨Nat.zero_le _, Nat.zero_le _⟩ (fun r_10 v_11 H locs h (hw : mw E A s.heap H locs (cM E a v_11)) => ?_)
    exact x_ret C0 v_11 hw h dX1_tellNumber_121
  replace h := h.2
  by_cases c_15 : p1 = 6
  · replace h := h.1 c_15
    refine x_tabIn (tgt := 122) C0 6 c_15 dX1_tellNumber_1 (by decide) (by decide) rfl (by decide) ?_
    refine lv_aload_n hx hb dX1_tellNumber_122 rfl (lv_at hl 0 rfl) ?_
    refine x_get C0 hw 1 hiX1 rfl 0 rfl 0 (by decide) 4 rfl rfl dX1_tellNumber_123 ?_
    refine x_cV (As := []) (rest := []) (F := []) C0 hw (p_nil _) hl.1 1 3 rfl rfl (c_X3_entries l E a h) 0 gX1_tellNumber_X3_entries rfl ⟨rfl, rfl⟩ (by decide +kernel) ⟨Nat.le_of_ble_eq_true rfl, Nat.le_of_ble_eq_true rfl⟩ rfl rfl (Nat.le_of_ble_eq_true rfl) dX1_tellNumber_126 ⟨Nat.zero_le _, Nat.zero_le _⟩ (fun r_13 v_14 H locs h (hw : mw E A s.heap H locs (cM E a v_14)) => ?_)
    exact x_ret C0 v_14 hw h dX1_tellNumber_129
  replace h := h.2
  by_cases c_16 : p1 = 7
  · replace h := h.1 c_16
    refine x_tabIn (tgt := 130) C0 7 c_16 dX1_tellNumber_1 (by decide) (by decide) rfl (by decide) ?_
    refine lv_aload_n hx hb dX1_tellNumber_130 rfl (lv_at hl 0 rfl) ?_
    refine x_get C0 hw 1 hiX1 rfl 0 rfl 5 (by decide) 5 rfl rfl dX1_tellNumber_131 ?_
    exact x_ret C0 v hw h dX1_tellNumber_134
  replace h := h.2
  by_cases c_19 : p1 = 8
  · replace h := h.1 c_19
    refine x_tabIn (tgt := 135) C0 8 c_19 dX1_tellNumber_1 (by decide) (by decide) rfl (by decide) ?_
    refine lv_aload_n hx hb dX1_tellNumber_135 rfl (lv_at hl 0 rfl) ?_
    refine x_cV (As := []) (rest := []) (F := []) C0 hw (p_nil _) hl.1 0 1 rfl rfl (c_X1_sumOfBalances l E a h) 0 gX1_tellNumber_X1_sumOfBalances rfl ⟨rfl, rfl⟩ (by decide +kernel) ⟨Nat.le_of_ble_eq_true rfl, Nat.le_of_ble_eq_true rfl⟩ rfl rfl (Nat.le_of_ble_eq_true rfl) dX1_tellNumber_136 ⟨Nat.zero_le _, Nat.zero_le _⟩ (fun r_17 v_18 H locs h (hw : mw E A s.heap H locs (cM E a v_18)) => ?_)
    refine x_ldc (v := 100000000) C0 6 rfl dX1_tellNumber_139 ?_
    refine lv_iadd hx hb dX1_tellNumber_141 ?_
    exact x_ret C0 v_18 hw h dX1_tellNumber_142
  replace h := h.2
  by_cases c_22 : p1 = 9
  · replace h := h.1 c_22
    refine x_tabIn (tgt := 143) C0 9 c_22 dX1_tellNumber_1 (by decide) (by decide) rfl (by decide) ?_
    refine lv_aload_n hx hb dX1_tellNumber_143 rfl (lv_at hl 0 rfl) ?_
    refine x_get C0 hw 1 hiX1 rfl 0 rfl 1 (by decide) 2 rfl rfl dX1_tellNumber_144 ?_
    refine x_cV (As := []) (rest := []) (F := []) C0 hw (p_nil _) hl.1 6 5 rfl rfl (c_X5_sumSold l E a h) 0 gX1_tellNumber_X5_sumSold rfl ⟨rfl, rfl⟩ (by decide +kernel) ⟨Nat.le_of_ble_eq_true rfl, Nat.le_of_ble_eq_true rfl⟩ rfl rfl (Nat.le_of_ble_eq_true rfl) dX1_tellNumber_147 ⟨Nat.zero_le _, Nat.zero_le _⟩ (fun r_20 v_21 H locs h (hw : mw E A s.heap H locs (cM E a v_21)) => ?_)
    exact x_ret C0 v_21 hw h dX1_tellNumber_150
  replace h := h.2
  by_cases c_23 : p1 = 10
  · replace h := h.1 c_23
    refine x_tabIn (tgt := 151) C0 10 c_23 dX1_tellNumber_1 (by decide) (by decide) rfl (by decide) ?_
    refine lv_aload_n hx hb dX1_tellNumber_151 rfl (lv_at hl 0 rfl) ?_
    refine x_get C0 hw 1 hiX1 rfl 0 rfl 8 (by decide) 7 rfl rfl dX1_tellNumber_152 ?_
    exact x_ret C0 v hw h dX1_tellNumber_155
  replace h := h.2
  by_cases c_24 : p1 = 11
  · replace h := h.1 c_24
    refine x_tabIn (tgt := 166) C0 11 c_24 dX1_tellNumber_1 (by decide) (by decide) rfl (by decide) ?_
    refine x_ldc (v := (-10000001)) C0 10 rfl dX1_tellNumber_166 ?_
    exact x_ret C0 v hw h dX1_tellNumber_168
  replace h := h.2
  by_cases c_25 : p1 = 12
  · replace h := h.1 c_25
    refine x_tabIn (tgt := 166) C0 12 c_25 dX1_tellNumber_1 (by decide) (by decide) rfl (by decide) ?_
    refine x_ldc (v := (-10000001)) C0 10 rfl dX1_tellNumber_166 ?_
    exact x_ret C0 v hw h dX1_tellNumber_168
  replace h := h.2
  by_cases c_26 : p1 = 13
  · replace h := h.1 c_26
    refine x_tabIn (tgt := 166) C0 13 c_26 dX1_tellNumber_1 (by decide) (by decide) rfl (by decide) ?_
    refine x_ldc (v := (-10000001)) C0 10 rfl dX1_tellNumber_166 ?_
    exact x_ret C0 v hw h dX1_tellNumber_168
  replace h := h.2
  by_cases c_27 : p1 = 14
  · replace h := h.1 c_27
    refine x_tabIn (tgt := 156) C0 14 c_27 dX1_tellNumber_1 (by decide) (by decide) rfl (by decide) ?_
    refine lv_aload_n hx hb dX1_tellNumber_156 rfl (lv_at hl 0 rfl) ?_
    refine x_get C0 hw 1 hiX1 rfl 0 rfl 6 (by decide) 8 rfl rfl dX1_tellNumber_157 ?_
    exact x_ret C0 v hw h dX1_tellNumber_160
  replace h := h.2
  by_cases c_28 : p1 = 15
  · replace h := h.1 c_28
    refine x_tabIn (tgt := 161) C0 15 c_28 dX1_tellNumber_1 (by decide) (by decide) rfl (by decide) ?_
    refine lv_aload_n hx hb dX1_tellNumber_161 rfl (lv_at hl 0 rfl) ?_
    refine x_get C0 hw 1 hiX1 rfl 0 rfl 7 (by decide) 9 rfl rfl dX1_tellNumber_162 ?_
    exact x_ret C0 v hw h dX1_tellNumber_165
  replace h := h.2
  have cD : p1.toInt < 0 ∨ 15 < p1.toInt := by
    have := ne_toInt (z := 0) (by decide) c_1
    have := ne_toInt (z := 1) (by decide) c_2
    have := ne_toInt (z := 2) (by decide) c_5
    have := ne_toInt (z := 3) (by decide) c_8
    have := ne_toInt (z := 4) (by decide) c_9
    have := ne_toInt (z := 5) (by decide) c_12
    have := ne_toInt (z := 6) (by decide) c_15
    have := ne_toInt (z := 7) (by decide) c_16
    have := ne_toInt (z := 8) (by decide) c_19
    have := ne_toInt (z := 9) (by decide) c_22
    have := ne_toInt (z := 10) (by decide) c_23
    have := ne_toInt (z := 11) (by decide) c_24
    have := ne_toInt (z := 12) (by decide) c_25
    have := ne_toInt (z := 13) (by decide) c_26
    have := ne_toInt (z := 14) (by decide) c_27
    have := ne_toInt (z := 15) (by decide) c_28
    omega
  replace h := h cD
  refine lv_tableOut (tgt := 166) hx hb dX1_tellNumber_1 cD (by decide) ?_
  refine x_ldc (v := (-10000001)) C0 10 rfl dX1_tellNumber_166 ?_
  exact x_ret C0 v hw h dX1_tellNumber_168

abbrev rmX4_append : Room := { frames := 0, cells := 0, slots := 0, locals := 0 }
set_option maxRecDepth 100000 in
set_option maxHeartbeats 4000000 in
theorem c_X4_append (l : Launch) (E : EE) (aS : Nat → Nat) {v : V}  {p1 : Int32} {post : Int32 → V → Prop} (h : s_X4_append v p1 post) : KI l E yX4_append wsX4_append rmX4_append [.ref (aS 0), .int p1] (cS E aS v) post (fun u => cS E aS u) := by
  unfold s_X4_append at h
  refine KI.go (cc := cX4_append) (ret := (some .int)) (maxL := 2) (own := RX4) (by decide) rfl (Nat.le_of_ble_eq_true rfl) rfl (fun p e s m below meth c A ls C0 hw hl => ?_)
  have hx := C0.1
  have hb := C0.2.1
  have hiX4 : ∀ w ∈ wsX40, w ∈ wsX4_append := fun w h => List.mem_cons_of_mem _ (List.mem_append_right _ h)
  replace hl : lv_has ls 2 [(0, .ref (aS 0)), (1, .int p1)] := hl
  refine lv_aload_n hx hb dX4_append_0 rfl (lv_at hl 0 rfl) ?_
  refine x_get C0 hw 4 hiX4 rfl 0 rfl 1 (by decide) 1 rfl rfl dX4_append_1 ?_
  refine lv_if_lt (tgt := 16) hx hb dX4_append_4 (by decide) (fun c_4 => ?_) (fun c_4 => ?_)
  · replace h := h.1 c_4
    refine x_ldc (v := (-10000003)) C0 2 rfl dX4_append_16 ?_
    exact x_ret C0 v hw h dX4_append_18
  · replace h := h.2 c_4
    refine lv_aload_n hx hb dX4_append_7 rfl (lv_at hl 0 rfl) ?_
    refine x_get C0 hw 4 hiX4 rfl 0 rfl 1 (by decide) 1 rfl rfl dX4_append_8 ?_
    refine lv_bipush (v := 60) hx hb dX4_append_11 (by decide) ?_
    refine lv_icmp_lt (tgt := 19) hx hb dX4_append_13 (by decide) (fun c_3 => ?_) (fun c_3 => ?_)
    · replace h := h.1 c_3
      refine lv_aload_n hx hb dX4_append_19 rfl (lv_at hl 0 rfl) ?_
      refine x_get C0 hw 4 hiX4 rfl 0 rfl 0 (by decide) 3 rfl rfl dX4_append_20 ?_
      refine lv_aload_n hx hb dX4_append_23 rfl (lv_at hl 0 rfl) ?_
      refine x_get C0 hw 4 hiX4 rfl 0 rfl 1 (by decide) 1 rfl rfl dX4_append_24 ?_
      refine lv_iload_n hx hb dX4_append_27 rfl (lv_at hl 1 rfl) ?_
      obtain ⟨hin, h⟩ := h
      refine x_ast' (ws' := (cS E aS ((st v 1 (tn (v 0 1)) (vp_nar .char p1))))) C0 hw 1 rfl hin rfl dX4_append_28 (fun H locs hw => ?_)
      obtain ⟨v_1, e_v_1⟩ : ∃ z, z = st v 1 (tn (v 0 1)) (vp_nar .char p1) := ⟨_, rfl⟩
      rw [← e_v_1] at hw
      replace h := h v_1 e_v_1
      refine lv_aload_n hx hb dX4_append_29 rfl (lv_at hl 0 rfl) ?_
      refine lv_dup hx hb dX4_append_30 rfl ?_
      refine x_get C0 hw 4 hiX4 rfl 0 rfl 1 (by decide) 1 rfl rfl dX4_append_31 ?_
      refine lv_iconst (v := 1) hx hb dX4_append_34 (by decide) ?_
      refine lv_iadd hx hb dX4_append_35 ?_
      refine x_put (ws' := (cS E aS ((sc v_1 0 1 ((v_1 0 1) + 1))))) C0 hw 4 hiX4 rfl tyX4 tyX4_ok nmX4 0 rfl 1 (by decide) 1 rfl rfl rfl rfl (Nat.le_of_ble_eq_true rfl) rfl dX4_append_36 (fun H locs hw => ?_)
      obtain ⟨v_2, e_v_2⟩ : ∃ z, z = sc v_1 0 1 ((v_1 0 1) + 1) := ⟨_, rfl⟩
      rw [← e_v_2] at hw
      replace h := h v_2 e_v_2
      refine lv_aload_n hx hb dX4_append_39 rfl (lv_at hl 0 rfl) ?_
      refine x_get C0 hw 4 hiX4 rfl 0 rfl 1 (by decide) 1 rfl rfl dX4_append_40 ?_
      exact x_ret C0 v_2 hw h dX4_append_43
    · replace h := h.2 c_3
      refine x_ldc (v := (-10000003)) C0 2 rfl dX4_append_16 ?_
      exact x_ret C0 v hw h dX4_append_18

abbrev rmX4_hasFault : Room := { frames := 0, cells := 0, slots := 0, locals := 0 }
set_option maxRecDepth 100000 in
set_option maxHeartbeats 4000000 in
theorem c_X4_hasFault (l : Launch) (E : EE) (aS : Nat → Nat) {v : V}   {post : Int32 → V → Prop} (h : s_X4_hasFault v post) : KI l E yX4_hasFault wsX4_hasFault rmX4_hasFault [.ref (aS 0)] (cS E aS v) post (fun u => cS E aS u) := by
  unfold s_X4_hasFault at h
  refine KI.go (cc := cX4_hasFault) (ret := (some .boolean)) (maxL := 1) (own := RX4) (by decide) rfl (Nat.le_of_ble_eq_true rfl) rfl (fun p e s m below meth c A ls C0 hw hl => ?_)
  have hx := C0.1
  have hb := C0.2.1
  have hiX4 : ∀ w ∈ wsX40, w ∈ wsX4_hasFault := fun w h => List.mem_cons_of_mem _ (List.mem_append_right _ h)
  replace hl : lv_has ls 1 [(0, .ref (aS 0))] := hl
  refine lv_aload_n hx hb dX4_hasFault_0 rfl (lv_at hl 0 rfl) ?_
  refine x_get C0 hw 4 hiX4 rfl 0 rfl 5 (by decide) 1 rfl rfl dX4_hasFault_1 ?_
  refine lv_iconst (v := (-1)) hx hb dX4_hasFault_4 (by decide) ?_
  refine lv_icmp_eq (tgt := 12) hx hb dX4_hasFault_5 (by decide) (fun c_1 => ?_) (fun c_1 => ?_)
  · replace h := h.1 c_1
    refine lv_iconst (v := 0) hx hb dX4_hasFault_12 (by decide) ?_
    exact x_retz C0 rfl v hw h dX4_hasFault_13
  · replace h := h.2 c_1
    refine lv_iconst (v := 1) hx hb dX4_hasFault_8 (by decide) ?_
    refine lv_goto (tgt := 13) hx hb dX4_hasFault_9 (by decide) ?_
    exact x_retz C0 rfl v hw h dX4_hasFault_13

abbrev rmX4_tellFault : Room := { frames := 0, cells := 0, slots := 0, locals := 0 }
set_option maxRecDepth 100000 in
set_option maxHeartbeats 4000000 in
theorem c_X4_tellFault (l : Launch) (E : EE) (aS : Nat → Nat) {v : V}  {p1 : Int32} {post : Int32 → V → Prop} (h : s_X4_tellFault v p1 post) : KI l E yX4_tellFault wsX4_tellFault rmX4_tellFault [.ref (aS 0), .int p1] (cS E aS v) post (fun u => cS E aS u) := by
  unfold s_X4_tellFault at h
  refine KI.go (cc := cX4_tellFault) (ret := (some .int)) (maxL := 2) (own := RX4) (by decide) rfl (Nat.le_of_ble_eq_true rfl) rfl (fun p e s m below meth c A ls C0 hw hl => ?_)
  have hx := C0.1
  have hb := C0.2.1
  have hiX4 : ∀ w ∈ wsX40, w ∈ wsX4_tellFault := fun w h => List.mem_cons_of_mem _ (List.mem_append_right _ h)
  replace hl : lv_has ls 2 [(0, .ref (aS 0)), (1, .int p1)] := hl
  refine lv_aload_n hx hb dX4_tellFault_0 rfl (lv_at hl 0 rfl) ?_
  refine x_get C0 hw 4 hiX4 rfl 0 rfl 5 (by decide) 1 rfl rfl dX4_tellFault_1 ?_
  refine lv_iconst (v := (-1)) hx hb dX4_tellFault_4 (by decide) ?_
  refine lv_icmp_ne (tgt := 11) hx hb dX4_tellFault_5 (by decide) (fun c_3 => ?_) (fun c_3 => ?_)
  · replace h := h.1 c_3
    refine lv_iload_n hx hb dX4_tellFault_11 rfl (lv_at hl 1 rfl) ?_
    refine lv_if_ne (tgt := 22) hx hb dX4_tellFault_12 (by decide) (fun c_2 => ?_) (fun c_2 => ?_)
    · replace h := h.1 c_2
      refine lv_iload_n hx hb dX4_tellFault_22 rfl (lv_at hl 1 rfl) ?_
      refine lv_iconst (v := 1) hx hb dX4_tellFault_23 (by decide) ?_
      refine lv_icmp_ne (tgt := 34) hx hb dX4_tellFault_24 (by decide) (fun c_1 => ?_) (fun c_1 => ?_)
      · replace h := h.1 c_1
        refine lv_aload_n hx hb dX4_tellFault_34 rfl (lv_at hl 0 rfl) ?_
        refine x_get C0 hw 4 hiX4 rfl 0 rfl 7 (by decide) 4 rfl rfl dX4_tellFault_35 ?_
        exact x_ret C0 v hw h dX4_tellFault_38
      · replace h := h.2 c_1
        refine lv_aload_n hx hb dX4_tellFault_27 rfl (lv_at hl 0 rfl) ?_
        refine x_get C0 hw 4 hiX4 rfl 0 rfl 6 (by decide) 3 rfl rfl dX4_tellFault_28 ?_
        refine lv_goto (tgt := 38) hx hb dX4_tellFault_31 (by decide) ?_
        exact x_ret C0 v hw h dX4_tellFault_38
    · replace h := h.2 c_2
      refine lv_aload_n hx hb dX4_tellFault_15 rfl (lv_at hl 0 rfl) ?_
      refine x_get C0 hw 4 hiX4 rfl 0 rfl 5 (by decide) 1 rfl rfl dX4_tellFault_16 ?_
      refine lv_goto (tgt := 38) hx hb dX4_tellFault_19 (by decide) ?_
      exact x_ret C0 v hw h dX4_tellFault_38
  · replace h := h.2 c_3
    refine x_ldc (v := (-10000004)) C0 2 rfl dX4_tellFault_8 ?_
    exact x_ret C0 v hw h dX4_tellFault_10

abbrev rmX4_perform : Room := { frames := 4, cells := 0, slots := 0, locals := 96 }
set_option maxRecDepth 100000 in
set_option maxHeartbeats 4000000 in
theorem c_X4_perform (l : Launch) (E : EE) (aS : Nat → Nat) (a : Nat → Nat) {v0 : V} {v1 : V}   {post : Int32 → V → V → Prop} (h : s_X4_perform v0 v1 post) : KI l E yX4_perform wsX4_perform rmX4_perform [.ref (aS 0), .ref (a 0)] (List.flatten [cS E aS v0, cM E a v1]) (S := V × V) (fun r (u : V × V) => post r u.1 u.2) (fun (u : V × V) => (List.flatten [cS E aS u.1, cM E a u.2])) := by
  unfold s_X4_perform at h
  refine KI.go (cc := cX4_perform) (ret := (some .int)) (maxL := 7) (own := RX4) (by decide) rfl (Nat.le_of_ble_eq_true rfl) rfl (fun p e s m below meth c A ls C0 hw hl => ?_)
  have hx := C0.1
  have hb := C0.2.1
  have hiX1 : ∀ w ∈ wsX10, w ∈ wsX4_perform := fun w h => List.mem_cons_of_mem _ (List.mem_append_left _ (List.mem_append_left _ (List.mem_append_left _ (List.mem_append_right _ h))))
  have hiX4 : ∀ w ∈ wsX40, w ∈ wsX4_perform := fun w h => List.mem_cons_of_mem _ (List.mem_append_left _ (List.mem_append_left _ (List.mem_append_left _ (List.mem_append_left _ (List.mem_append_right _ h)))))
  replace hl : lv_has ls 7 [(0, .ref (aS 0)), (1, .ref (a 0))] := hl
  refine lv_aload_n hx hb dX4_perform_0 rfl (lv_at hl 0 rfl) ?_
  refine x_get C0 hw 4 hiX4 rfl 0 rfl 3 (by decide) 1 rfl rfl dX4_perform_1 ?_
  refine lv_iconst (v := 0) hx hb dX4_perform_4 (by decide) ?_
  refine x_ald C0 hw 2 rfl (vp_in_nI (n := 0) (by decide) (by decide)) dX4_perform_5 ?_
  refine lv_istore_n (lv' := [(2, .int (v0 2 (tn 0))), (0, .ref (aS 0)), (1, .ref (a 0))]) hx hb dX4_perform_6 rfl hl (by decide) rfl (fun ls hl => ?_)
  refine lv_aload_n hx hb dX4_perform_7 rfl (lv_at hl 1 rfl) ?_
  refine x_get C0 hw 4 hiX4 rfl 0 rfl 3 (by decide) 1 rfl rfl dX4_perform_8 ?_
  refine lv_iconst (v := 1) hx hb dX4_perform_11 (by decide) ?_
  refine x_ald C0 hw 2 rfl (vp_in_nI (n := 1) (by decide) (by decide)) dX4_perform_12 ?_
  refine lv_istore_n (lv' := [(3, .int (v0 2 (tn 1))), (2, .int (v0 2 (tn 0))), (0, .ref (aS 0)), (1, .ref (a 0))]) hx hb dX4_perform_13 rfl hl (by decide) rfl (fun ls hl => ?_)
  refine lv_aload_n hx hb dX4_perform_14 rfl (lv_at hl 2 rfl) ?_
  refine x_get C0 hw 4 hiX4 rfl 0 rfl 3 (by decide) 1 rfl rfl dX4_perform_15 ?_
  refine lv_iconst (v := 2) hx hb dX4_perform_18 (by decide) ?_
  refine x_ald C0 hw 2 rfl (vp_in_nI (n := 2) (by decide) (by decide)) dX4_perform_19 ?_
  refine lv_istore (lv' := [(4, .int (v0 2 (tn 2))), (3, .int (v0 2 (tn 1))), (2, .int (v0 2 (tn 0))), (0, .ref (aS 0)), (1, .ref (a 0))]) hx hb dX4_perform_20 hl (by decide) rfl (fun ls hl => ?_)
  refine lv_aload_n hx hb dX4_perform_22 rfl (lv_at hl 3 rfl) ?_
  refine x_get C0 hw 4 hiX4 rfl 0 rfl 3 (by decide) 1 rfl rfl dX4_perform_23 ?_
  refine lv_iconst (v := 3) hx hb dX4_perform_26 (by decide) ?_
  refine x_ald C0 hw 2 rfl (vp_in_nI (n := 3) (by decide) (by decide)) dX4_perform_27 ?_
  refine lv_istore (lv' := [(5, .int (v0 2 (tn 3))), (4, .int (v0 2 (tn 2))), (3, .int (v0 2 (tn 1))), (2, .int (v0 2 (tn 0))), (0, .ref (aS 0)), (1, .ref (a 0))]) hx hb dX4_perform_28 hl (by decide) rfl (fun ls hl => ?_)
  refine lv_aload_n hx hb dX4_perform_30 rfl (lv_at hl 4 rfl) ?_
  refine x_get C0 hw 4 hiX4 rfl 0 rfl 2 (by decide) 2 rfl rfl dX4_perform_31 ?_
  by_cases c_8 : (v0 0 2) = 0
  · replace h := h.1 c_8
    refine x_tabIn (tgt := 76) C0 0 c_8 dX4_perform_34 (by decide) (by decide) rfl (by decide) ?_
    refine lv_aload_n hx hb dX4_perform_76 rfl (lv_at hl 5 rfl) ?_
    refine x_getN C0 hw 1 hiX1 rfl 3 rfl 1 (by decide) 21 rfl rfl dX4_perform_77 ?_
    refine lv_iload hx hb dX4_perform_80 (lv_at hl 0 rfl) ?_
    refine x_cV (As := [.int (v0 2 (tn 3))]) (rest := []) (F := (List.flatten [cS E aS v0])) C0 hw (p_fl1 ((p_pk _ 1 _ rfl).trans (List.Perm.cons _ (List.Perm.refl _)))) hl.1 9 5 rfl rfl (c_X5_has l E a h) 1 gX4_perform_X5_has rfl ⟨rfl, rfl⟩ (by decide +kernel) ⟨Nat.le_of_ble_eq_true rfl, Nat.le_of_ble_eq_true rfl⟩ rfl rfl (Nat.le_of_ble_eq_true rfl) dX4_perform_82 ⟨Nat.zero_le _, Nat.zero_le _⟩ (fun r_1 v_2 H locs h hw => ?_)
    replace hw : mw E A s.heap H locs (List.flatten [cS E aS v0, cM E a v_2]) := hw.perm (p_bk1 ((p_pk _ 1 _ rfl).trans (List.Perm.cons _ (List.Perm.refl _))))
    refine lv_if_eq (tgt := 95) hx hb dX4_perform_85 (by decide) (fun c_7 => ?_) (fun c_7 => ?_)
    · replace h := h.1 c_7
      refine lv_iconst (v := 0) hx hb dX4_perform_95 (by decide) ?_
      refine lv_istore (lv' := [(6, .int 0), (5, .int (v0 2 (tn 3))), (4, .int (v0 2 (tn 2))), (3, .int (v0 2 (tn 1))), (2, .int (v0 2 (tn 0))), (0, .ref (aS 0)), (1, .ref (a 0))]) hx hb dX4_perform_96 hl (by decide) rfl (fun ls hl => ?_)
      refine lv_aload_n hx hb dX4_perform_98 rfl (lv_at hl 6 rfl) ?_
      refine lv_iload_n hx hb dX4_perform_99 rfl (lv_at hl 4 rfl) ?_
      refine lv_iload_n hx hb dX4_perform_100 rfl (lv_at hl 3 rfl) ?_
      refine lv_iload hx hb dX4_perform_101 (lv_at hl 2 rfl) ?_
      refine lv_iload hx hb dX4_perform_103 (lv_at hl 0 rfl) ?_
      refine x_cV (As := [.int (v0 2 (tn 0)), .int (v0 2 (tn 1)), .int (v0 2 (tn 2)), .int 0]) (rest := []) (F := (List.flatten [cS E aS v0])) C0 hw (p_fl1 ((p_pk _ 1 _ rfl).trans (List.Perm.cons _ (List.Perm.refl _)))) hl.1 3 1 rfl rfl (c_X1_lendStones l E a h) 4 gX4_perform_X1_lendStones rfl ⟨rfl, rfl⟩ (by decide +kernel) ⟨Nat.le_of_ble_eq_true rfl, Nat.le_of_ble_eq_true rfl⟩ rfl rfl (Nat.le_of_ble_eq_true rfl) dX4_perform_105 ⟨Nat.zero_le _, Nat.zero_le _⟩ (fun r_3 v_4 H locs h hw => ?_)
      replace hw : mw E A s.heap H locs (List.flatten [cS E aS v0, cM E a v_4]) := hw.perm (p_bk1 ((p_pk _ 1 _ rfl).trans (List.Perm.cons _ (List.Perm.refl _))))
      exact x_ret C0 ⟨v0, v_4⟩ hw h dX4_perform_108
    · replace h := h.2 c_7
      refine lv_iconst (v := 1) hx hb dX4_perform_88 (by decide) ?_
      refine lv_iload hx hb dX4_perform_89 (lv_at hl 0 rfl) ?_
      refine lv_ishl hx hb dX4_perform_91 ?_
      refine lv_goto (tgt := 96) hx hb dX4_perform_92 (by decide) ?_
      refine lv_istore (lv' := [(6, .int (1 <<< ((v0 2 (tn 3)) &&& 31))), (5, .int (v0 2 (tn 3))), (4, .int (v0 2 (tn 2))), (3, .int (v0 2 (tn 1))), (2, .int (v0 2 (tn 0))), (0, .ref (aS 0)), (1, .ref (a 0))]) hx hb dX4_perform_96 hl (by decide) rfl (fun ls hl => ?_)
      refine lv_aload_n hx hb dX4_perform_98 rfl (lv_at hl 6 rfl) ?_
      refine lv_iload_n hx hb dX4_perform_99 rfl (lv_at hl 4 rfl) ?_
      refine lv_iload_n hx hb dX4_perform_100 rfl (lv_at hl 3 rfl) ?_
      refine lv_iload hx hb dX4_perform_101 (lv_at hl 2 rfl) ?_
      refine lv_iload hx hb dX4_perform_103 (lv_at hl 0 rfl) ?_
      refine x_cV (As := [.int (v0 2 (tn 0)), .int (v0 2 (tn 1)), .int (v0 2 (tn 2)), .int (1 <<< ((v0 2 (tn 3)) &&& 31))]) (rest := []) (F := (List.flatten [cS E aS v0])) C0 hw (p_fl1 ((p_pk _ 1 _ rfl).trans (List.Perm.cons _ (List.Perm.refl _)))) hl.1 3 1 rfl rfl (c_X1_lendStones l E a h) 4 gX4_perform_X1_lendStones rfl ⟨rfl, rfl⟩ (by decide +kernel) ⟨Nat.le_of_ble_eq_true rfl, Nat.le_of_ble_eq_true rfl⟩ rfl rfl (Nat.le_of_ble_eq_true rfl) dX4_perform_105 ⟨Nat.zero_le _, Nat.zero_le _⟩ (fun r_5 v_6 H locs h hw => ?_)
      replace hw : mw E A s.heap H locs (List.flatten [cS E aS v0, cM E a v_6]) := hw.perm (p_bk1 ((p_pk _ 1 _ rfl).trans (List.Perm.cons _ (List.Perm.refl _))))
      exact x_ret C0 ⟨v0, v_6⟩ hw h dX4_perform_108
  replace h := h.2
  by_cases c_11 : (v0 0 2) = 1
  · replace h := h.1 c_11
    refine x_tabIn (tgt := 109) C0 1 c_11 dX4_perform_34 (by decide) (by decide) rfl (by decide) ?_
    refine lv_aload_n hx hb dX4_perform_109 rfl (lv_at hl 5 rfl) ?_
    refine lv_iload_n hx hb dX4_perform_110 rfl (lv_at hl 3 rfl) ?_
    refine x_cV (As := [.int (v0 2 (tn 0))]) (rest := []) (F := (List.flatten [cS E aS v0])) C0 hw (p_fl1 ((p_pk _ 1 _ rfl).trans (List.Perm.cons _ (List.Perm.refl _)))) hl.1 3 1 rfl rfl (c_X1_giveBack l E a h) 1 gX4_perform_X1_giveBack rfl ⟨rfl, rfl⟩ (by decide +kernel) ⟨Nat.le_of_ble_eq_true rfl, Nat.le_of_ble_eq_true rfl⟩ rfl rfl (Nat.le_of_ble_eq_true rfl) dX4_perform_111 ⟨Nat.zero_le _, Nat.zero_le _⟩ (fun r_9 v_10 H locs h hw => ?_)
    replace hw : mw E A s.heap H locs (List.flatten [cS E aS v0, cM E a v_10]) := hw.perm (p_bk1 ((p_pk _ 1 _ rfl).trans (List.Perm.cons _ (List.Perm.refl _))))
    exact x_ret C0 ⟨v0, v_10⟩ hw h dX4_perform_114
  replace h := h.2
  by_cases c_14 : (v0 0 2) = 2
  · replace h := h.1 c_14
    refine x_tabIn (tgt := 115) C0 2 c_14 dX4_perform_34 (by decide) (by decide) rfl (by decide) ?_
    refine lv_aload_n hx hb dX4_perform_115 rfl (lv_at hl 5 rfl) ?_
    refine lv_iload_n hx hb dX4_perform_116 rfl (lv_at hl 3 rfl) ?_
    refine x_cV (As := [.int (v0 2 (tn 0))]) (rest := []) (F := (List.flatten [cS E aS v0])) C0 hw (p_fl1 ((p_pk _ 1 _ rfl).trans (List.Perm.cons _ (List.Perm.refl _)))) hl.1 3 1 rfl rfl (c_X1_keepStone l E a h) 1 gX4_perform_X1_keepStone rfl ⟨rfl, rfl⟩ (by decide +kernel) ⟨Nat.le_of_ble_eq_true rfl, Nat.le_of_ble_eq_true rfl⟩ rfl rfl (Nat.le_of_ble_eq_true rfl) dX4_perform_117 ⟨Nat.zero_le _, Nat.zero_le _⟩ (fun r_12 v_13 H locs h hw => ?_)
    replace hw : mw E A s.heap H locs (List.flatten [cS E aS v0, cM E a v_13]) := hw.perm (p_bk1 ((p_pk _ 1 _ rfl).trans (List.Perm.cons _ (List.Perm.refl _))))
    exact x_ret C0 ⟨v0, v_13⟩ hw h dX4_perform_120
  replace h := h.2
  by_cases c_17 : (v0 0 2) = 3
  · replace h := h.1 c_17
    refine x_tabIn (tgt := 121) C0 3 c_17 dX4_perform_34 (by decide) (by decide) rfl (by decide) ?_
    refine lv_aload_n hx hb dX4_perform_121 rfl (lv_at hl 5 rfl) ?_
    refine lv_iload_n hx hb dX4_perform_122 rfl (lv_at hl 3 rfl) ?_
    refine lv_iload_n hx hb dX4_perform_123 rfl (lv_at hl 2 rfl) ?_
    refine x_cV (As := [.int (v0 2 (tn 0)), .int (v0 2 (tn 1))]) (rest := []) (F := (List.flatten [cS E aS v0])) C0 hw (p_fl1 ((p_pk _ 1 _ rfl).trans (List.Perm.cons _ (List.Perm.refl _)))) hl.1 3 1 rfl rfl (c_X1_sellStone l E a h) 2 gX4_perform_X1_sellStone rfl ⟨rfl, rfl⟩ (by decide +kernel) ⟨Nat.le_of_ble_eq_true rfl, Nat.le_of_ble_eq_true rfl⟩ rfl rfl (Nat.le_of_ble_eq_true rfl) dX4_perform_124 ⟨Nat.zero_le _, Nat.zero_le _⟩ (fun r_15 v_16 H locs h hw => ?_)
    replace hw : mw E A s.heap H locs (List.flatten [cS E aS v0, cM E a v_16]) := hw.perm (p_bk1 ((p_pk _ 1 _ rfl).trans (List.Perm.cons _ (List.Perm.refl _))))
    exact x_ret C0 ⟨v0, v_16⟩ hw h dX4_perform_127
  replace h := h.2
  by_cases c_20 : (v0 0 2) = 4
  · replace h := h.1 c_20
    refine x_tabIn (tgt := 128) C0 4 c_20 dX4_perform_34 (by decide) (by decide) rfl (by decide) ?_
    refine lv_aload_n hx hb dX4_perform_128 rfl (lv_at hl 5 rfl) ?_
    refine lv_iload_n hx hb dX4_perform_129 rfl (lv_at hl 3 rfl) ?_
    refine lv_iload_n hx hb dX4_perform_130 rfl (lv_at hl 2 rfl) ?_
    refine lv_iload hx hb dX4_perform_131 (lv_at hl 1 rfl) ?_
    refine x_cV (As := [.int (v0 2 (tn 0)), .int (v0 2 (tn 1)), .int (v0 2 (tn 2))]) (rest := []) (F := (List.flatten [cS E aS v0])) C0 hw (p_fl1 ((p_pk _ 1 _ rfl).trans (List.Perm.cons _ (List.Perm.refl _)))) hl.1 3 1 rfl rfl (c_X1_regrade l E a h) 3 gX4_perform_X1_regrade rfl ⟨rfl, rfl⟩ (by decide +kernel) ⟨Nat.le_of_ble_eq_true rfl, Nat.le_of_ble_eq_true rfl⟩ rfl rfl (Nat.le_of_ble_eq_true rfl) dX4_perform_133 ⟨Nat.zero_le _, Nat.zero_le _⟩ (fun r_18 v_19 H locs h hw => ?_)
    replace hw : mw E A s.heap H locs (List.flatten [cS E aS v0, cM E a v_19]) := hw.perm (p_bk1 ((p_pk _ 1 _ rfl).trans (List.Perm.cons _ (List.Perm.refl _))))
    exact x_ret C0 ⟨v0, v_19⟩ hw h dX4_perform_136
  replace h := h.2
  by_cases c_23 : (v0 0 2) = 5
  · replace h := h.1 c_23
    refine x_tabIn (tgt := 137) C0 5 c_23 dX4_perform_34 (by decide) (by decide) rfl (by decide) ?_
    refine lv_aload_n hx hb dX4_perform_137 rfl (lv_at hl 5 rfl) ?_
    refine lv_iload_n hx hb dX4_perform_138 rfl (lv_at hl 3 rfl) ?_
    refine lv_iload_n hx hb dX4_perform_139 rfl (lv_at hl 2 rfl) ?_
    refine lv_iload hx hb dX4_perform_140 (lv_at hl 1 rfl) ?_
    refine lv_iload hx hb dX4_perform_142 (lv_at hl 0 rfl) ?_
    refine x_cV (As := [.int (v0 2 (tn 0)), .int (v0 2 (tn 1)), .int (v0 2 (tn 2)), .int (v0 2 (tn 3))]) (rest := []) (F := (List.flatten [cS E aS v0])) C0 hw (p_fl1 ((p_pk _ 1 _ rfl).trans (List.Perm.cons _ (List.Perm.refl _)))) hl.1 3 1 rfl rfl (c_X1_putRate l E a h) 4 gX4_perform_X1_putRate rfl ⟨rfl, rfl⟩ (by decide +kernel) ⟨Nat.le_of_ble_eq_true rfl, Nat.le_of_ble_eq_true rfl⟩ rfl rfl (Nat.le_of_ble_eq_true rfl) dX4_perform_144 ⟨Nat.zero_le _, Nat.zero_le _⟩ (fun r_21 v_22 H locs h hw => ?_)
    replace hw : mw E A s.heap H locs (List.flatten [cS E aS v0, cM E a v_22]) := hw.perm (p_bk1 ((p_pk _ 1 _ rfl).trans (List.Perm.cons _ (List.Perm.refl _))))
    exact x_ret C0 ⟨v0, v_22⟩ hw h dX4_perform_147
  replace h := h.2
  by_cases c_26 : (v0 0 2) = 6
  · replace h := h.1 c_26
    refine x_tabIn (tgt := 148) C0 6 c_26 dX4_perform_34 (by decide) (by decide) rfl (by decide) ?_
    refine lv_aload_n hx hb dX4_perform_148 rfl (lv_at hl 5 rfl) ?_
    refine lv_iload_n hx hb dX4_perform_149 rfl (lv_at hl 3 rfl) ?_
    refine x_cV (As := [.int (v0 2 (tn 0))]) (rest := []) (F := (List.flatten [cS E aS v0])) C0 hw (p_fl1 ((p_pk _ 1 _ rfl).trans (List.Perm.cons _ (List.Perm.refl _)))) hl.1 3 1 rfl rfl (c_X1_passDays l E a h) 1 gX4_perform_X1_passDays rfl ⟨rfl, rfl⟩ (by decide +kernel) ⟨Nat.le_of_ble_eq_true rfl, Nat.le_of_ble_eq_true rfl⟩ rfl rfl (Nat.le_of_ble_eq_true rfl) dX4_perform_150 ⟨Nat.zero_le _, Nat.zero_le _⟩ (fun r_24 v_25 H locs h hw => ?_)
    replace hw : mw E A s.heap H locs (List.flatten [cS E aS v0, cM E a v_25]) := hw.perm (p_bk1 ((p_pk _ 1 _ rfl).trans (List.Perm.cons _ (List.Perm.refl _))))
    exact x_ret C0 ⟨v0, v_25⟩ hw h dX4_perform_153
  replace h := h.2
  have cD : (v0 0 2).toInt < 0 ∨ 6 < (v0 0 2).toInt := by
    have := ne_toInt (z := 0) (by decide) c_8
    have := ne_toInt (z := 1) (by decide) c_11
    have := ne_toInt (z := 2) (by decide) c_14
    have := ne_toInt (z := 3) (by decide) c_17
    have := ne_toInt (z := 4) (by decide) c_20
    have := ne_toInt (z := 5) (by decide) c_23
    have := ne_toInt (z := 6) (by decide) c_26
    omega
  replace h := h cD
  refine lv_tableOut (tgt := 148) hx hb dX4_perform_34 cD (by decide) ?_
  refine lv_aload_n hx hb dX4_perform_148 rfl (lv_at hl 5 rfl) ?_
  refine lv_iload_n hx hb dX4_perform_149 rfl (lv_at hl 3 rfl) ?_
  refine x_cV (As := [.int (v0 2 (tn 0))]) (rest := []) (F := (List.flatten [cS E aS v0])) C0 hw (p_fl1 ((p_pk _ 1 _ rfl).trans (List.Perm.cons _ (List.Perm.refl _)))) hl.1 3 1 rfl rfl (c_X1_passDays l E a h) 1 gX4_perform_X1_passDays rfl ⟨rfl, rfl⟩ (by decide +kernel) ⟨Nat.le_of_ble_eq_true rfl, Nat.le_of_ble_eq_true rfl⟩ rfl rfl (Nat.le_of_ble_eq_true rfl) dX4_perform_150 ⟨Nat.zero_le _, Nat.zero_le _⟩ (fun r_27 v_28 H locs h hw => ?_)
  replace hw : mw E A s.heap H locs (List.flatten [cS E aS v0, cM E a v_28]) := hw.perm (p_bk1 ((p_pk _ 1 _ rfl).trans (List.Perm.cons _ (List.Perm.refl _))))
  exact x_ret C0 ⟨v0, v_28⟩ hw h dX4_perform_153
