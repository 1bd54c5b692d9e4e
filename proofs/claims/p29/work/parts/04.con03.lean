abbrev rmX4_putFault : Room := { frames := 0, cells := 0, slots := 0, locals := 0 }
set_option maxRecDepth 100000 in
set_option maxHeartbeats 4000000 in
theorem c_X4_putFault (l : Launch) (E : EE) (aS : Nat → Nat) {v : V}  {p1 : Int32} {p2 : Int32} {p3 : Int32} {post : V → Prop} (h : s_X4_putFault v p1 p2 p3 post) : KV l E yX4_putFault wsX4_putFault rmX4_putFault [.ref (aS 0), .int p1, .int p2, .int p3] (cS E aS v) post (fun u => cS E aS u) := by
  unfold s_X4_putFault at h
  refine KV.go (cc := cX4_putFault) (ret := none) (maxL := 4) (own := RX4) (by decide) rfl (Nat.le_of_ble_eq_true rfl) rfl (fun p e s m below meth c A ls C0 hw hl => ?_)
  have hx := C0.1
  have hb := C0.2.1
  have hiX4 : ∀ w ∈ wsX40, w ∈ wsX4_putFault := fun w h => List.mem_cons_of_mem _ (List.mem_append_right _ h)
  replace hl : lv_has ls 4 [(0, .ref (aS 0)), (1, .int p1), (2, .int p2), (3, .int p3)] := hl
  refine lv_aload_n hx hb dX4_putFault_0 rfl (lv_at hl 0 rfl) ?_
  refine lv_iload_n hx hb dX4_putFault_1 rfl (lv_at hl 1 rfl) ?_
  refine x_put (ws' := (cS E aS ((sc v 0 5 p1)))) C0 hw 4 hiX4 rfl tyX4 tyX4_ok nmX4 0 rfl 5 (by decide) 1 rfl rfl rfl rfl (Nat.le_of_ble_eq_true rfl) rfl dX4_putFault_2 (fun H locs hw => ?_)
  obtain ⟨v_1, e_v_1⟩ : ∃ z, z = sc v 0 5 p1 := ⟨_, rfl⟩
  rw [← e_v_1] at hw
  replace h := h v_1 e_v_1
  refine lv_aload_n hx hb dX4_putFault_5 rfl (lv_at hl 0 rfl) ?_
  refine lv_iload_n hx hb dX4_putFault_6 rfl (lv_at hl 2 rfl) ?_
  refine x_put (ws' := (cS E aS ((sc v_1 0 6 p2)))) C0 hw 4 hiX4 rfl tyX4 tyX4_ok nmX4 0 rfl 6 (by decide) 2 rfl rfl rfl rfl (Nat.le_of_ble_eq_true rfl) rfl dX4_putFault_7 (fun H locs hw => ?_)
  obtain ⟨v_2, e_v_2⟩ : ∃ z, z = sc v_1 0 6 p2 := ⟨_, rfl⟩
  rw [← e_v_2] at hw
  replace h := h v_2 e_v_2
  refine lv_aload_n hx hb dX4_putFault_10 rfl (lv_at hl 0 rfl) ?_
  refine lv_iload_n hx hb dX4_putFault_11 rfl (lv_at hl 3 rfl) ?_
  refine x_put (ws' := (cS E aS ((sc v_2 0 7 p3)))) C0 hw 4 hiX4 rfl tyX4 tyX4_ok nmX4 0 rfl 7 (by decide) 3 rfl rfl rfl rfl (Nat.le_of_ble_eq_true rfl) rfl dX4_putFault_12 (fun H locs hw => ?_)
  obtain ⟨v_3, e_v_3⟩ : ∃ z, z = sc v_2 0 7 p3 := ⟨_, rfl⟩
  rw [← e_v_3] at hw
  replace h := h v_3 e_v_3
  exact x_retv C0 v_3 hw h dX4_putFault_15

abbrev rmJ0_coder_7d493 : Room := { frames := 0, cells := 0, slots := 0, locals := 0 }
set_option maxRecDepth 100000 in
set_option maxHeartbeats 4000000 in
theorem c_J0_coder_7d493 (l : Launch) (E : EE)   {w : Nat}  {post : Int32 → Prop} (h : s_J0_coder_7d493 w post) : KI l E yJ0_coder_7d493 wsJ0_coder_7d493 rmJ0_coder_7d493 [.ref (E.2.2.2.2.1 w)] ([] : va_W) (S := Unit) (fun r (_ : Unit) => post r) (fun (_ : Unit) => ([] : va_W)) := by
  unfold s_J0_coder_7d493 at h
  refine KI.go (cc := cJ0_coder_7d493) (ret := (some .byte)) (maxL := 1) (own := RJ0) (by decide) rfl (Nat.le_of_ble_eq_true rfl) rfl (fun p e s m below meth c A ls C0 hw hl => ?_)
  have hx := C0.1
  have hb := C0.2.1
  replace hl : lv_has ls 1 [(0, .ref (E.2.2.2.2.1 w))] := hl
  refine x_gsC C0 hw 1 rfl dJ0_coder_7d493_0 ?_
  refine lv_if_eq (tgt := 13) hx hb dJ0_coder_7d493_3 (by decide) (fun c => absurd c (by decide)) (fun _ => ?_)
  refine lv_aload_n hx hb dJ0_coder_7d493_6 rfl (lv_at hl 0 rfl) ?_
  obtain ⟨hw7, h⟩ := h
  refine x_litc C0 hw hw7 2 rfl dJ0_coder_7d493_7 ?_
  refine lv_goto (tgt := 14) hx hb dJ0_coder_7d493_10 (by decide) ?_
  exact x_retz C0 rfl () hw h dJ0_coder_7d493_14

abbrev rmJ0_length_8abf5 : Room := { frames := 1, cells := 0, slots := 0, locals := 20 }
set_option maxRecDepth 100000 in
set_option maxHeartbeats 4000000 in
theorem c_J0_length_8abf5 (l : Launch) (E : EE)   {w : Nat}  {post : Int32 → Prop} (h : s_J0_length_8abf5 w post) : KI l E yJ0_length_8abf5 wsJ0_length_8abf5 rmJ0_length_8abf5 [.ref (E.2.2.2.2.1 w)] ([] : va_W) (S := Unit) (fun r (_ : Unit) => post r) (fun (_ : Unit) => ([] : va_W)) := by
  unfold s_J0_length_8abf5 at h
  refine KI.go (cc := cJ0_length_8abf5) (ret := (some .int)) (maxL := 1) (own := RJ0) (by decide) rfl (Nat.le_of_ble_eq_true rfl) rfl (fun p e s m below meth c A ls C0 hw hl => ?_)
  have hx := C0.1
  have hb := C0.2.1
  replace hl : lv_has ls 1 [(0, .ref (E.2.2.2.2.1 w))] := hl
  refine lv_aload_n hx hb dJ0_length_8abf5_0 rfl (lv_at hl 0 rfl) ?_
  obtain ⟨hw7, h⟩ := h
  refine x_litv C0 hw hw7 1 rfl dJ0_length_8abf5_1 ?_
  obtain ⟨hw7, h⟩ := h
  refine x_litlen C0 hw hw7 dJ0_length_8abf5_4 ?_
  refine lv_aload_n hx hb dJ0_length_8abf5_5 rfl (lv_at hl 0 rfl) ?_
  obtain ⟨hw7, h⟩ := h
  refine x_cVL (As := []) (rest := [.int (nI (litLen.getD w 0))]) (F := ([] : va_W)) C0 hw (p_non _) hl.1 hw7 (c_J0_coder_7d493 l E  h) 0 gJ0_length_8abf5_J0_coder_7d493 rfl ⟨rfl, rfl⟩ (by decide +kernel) ⟨Nat.le_of_ble_eq_true rfl, Nat.le_of_ble_eq_true rfl⟩ rfl rfl (Nat.le_of_ble_eq_true rfl) dJ0_length_8abf5_6 ⟨Nat.zero_le _, Nat.zero_le _⟩ (fun r_1 _u H locs h (hw : mw E A s.heap H locs ([] : va_W)) => ?_)
  refine lv_ishr hx hb dJ0_length_8abf5_9 ?_
  exact x_ret C0 () hw h dJ0_length_8abf5_10

abbrev rmX4_howManyNumbers : Room := { frames := 0, cells := 0, slots := 0, locals := 0 }
set_option maxRecDepth 100000 in
set_option maxHeartbeats 4000000 in
theorem c_X4_howManyNumbers (l : Launch) (E : EE)    {p0 : Int32} {post : Int32 → Prop} (h : s_X4_howManyNumbers p0 post) : KI l E yX4_howManyNumbers wsX4_howManyNumbers rmX4_howManyNumbers [.int p0] ([] : va_W) (S := Unit) (fun r (_ : Unit) => post r) (fun (_ : Unit) => ([] : va_W)) := by
  unfold s_X4_howManyNumbers at h
  refine KI.go (cc := cX4_howManyNumbers) (ret := (some .int)) (maxL := 1) (own := RX4) (by decide) rfl (Nat.le_of_ble_eq_true rfl) rfl (fun p e s m below meth c A ls C0 hw hl => ?_)
  have hx := C0.1
  have hb := C0.2.1
  replace hl : lv_has ls 1 [(0, .int p0)] := hl
  refine lv_iload_n hx hb dX4_howManyNumbers_0 rfl (lv_at hl 0 rfl) ?_
  by_cases c_1 : p0 = 0
  · replace h := h.1 c_1
    refine x_tabIn (tgt := 44) C0 0 c_1 dX4_howManyNumbers_1 (by decide) (by decide) rfl (by decide) ?_
    refine lv_iconst (v := 4) hx hb dX4_howManyNumbers_44 (by decide) ?_
    exact x_ret C0 () hw h dX4_howManyNumbers_45
  replace h := h.2
  by_cases c_2 : p0 = 1
  · replace h := h.1 c_2
    refine x_tabIn (tgt := 50) C0 1 c_2 dX4_howManyNumbers_1 (by decide) (by decide) rfl (by decide) ?_
    refine lv_iconst (v := 1) hx hb dX4_howManyNumbers_50 (by decide) ?_
    exact x_ret C0 () hw h dX4_howManyNumbers_51
  replace h := h.2
  by_cases c_3 : p0 = 2
  · replace h := h.1 c_3
    refine x_tabIn (tgt := 50) C0 2 c_3 dX4_howManyNumbers_1 (by decide) (by decide) rfl (by decide) ?_
    refine lv_iconst (v := 1) hx hb dX4_howManyNumbers_50 (by decide) ?_
    exact x_ret C0 () hw h dX4_howManyNumbers_51
  replace h := h.2
  by_cases c_4 : p0 = 3
  · replace h := h.1 c_4
    refine x_tabIn (tgt := 48) C0 3 c_4 dX4_howManyNumbers_1 (by decide) (by decide) rfl (by decide) ?_
    refine lv_iconst (v := 2) hx hb dX4_howManyNumbers_48 (by decide) ?_
    exact x_ret C0 () hw h dX4_howManyNumbers_49
  replace h := h.2
  by_cases c_5 : p0 = 4
  · replace h := h.1 c_5
    refine x_tabIn (tgt := 46) C0 4 c_5 dX4_howManyNumbers_1 (by decide) (by decide) rfl (by decide) ?_
    refine lv_iconst (v := 3) hx hb dX4_howManyNumbers_46 (by decide) ?_
    exact x_ret C0 () hw h dX4_howManyNumbers_47
  replace h := h.2
  by_cases c_6 : p0 = 5
  · replace h := h.1 c_6
    refine x_tabIn (tgt := 44) C0 5 c_6 dX4_howManyNumbers_1 (by decide) (by decide) rfl (by decide) ?_
    refine lv_iconst (v := 4) hx hb dX4_howManyNumbers_44 (by decide) ?_
    exact x_ret C0 () hw h dX4_howManyNumbers_45
  replace h := h.2
  by_cases c_7 : p0 = 6
  · replace h := h.1 c_7
    refine x_tabIn (tgt := 50) C0 6 c_7 dX4_howManyNumbers_1 (by decide) (by decide) rfl (by decide) ?_
    refine lv_iconst (v := 1) hx hb dX4_howManyNumbers_50 (by decide) ?_
    exact x_ret C0 () hw h dX4_howManyNumbers_51
  replace h := h.2
  have cD : p0.toInt < 0 ∨ 6 < p0.toInt := by
    have := ne_toInt (z := 0) (by decide) c_1
    have := ne_toInt (z := 1) (by decide) c_2
    have := ne_toInt (z := 2) (by decide) c_3
    have := ne_toInt (z := 3) (by decide) c_4
    have := ne_toInt (z := 4) (by decide) c_5
    have := ne_toInt (z := 5) (by decide) c_6
    have := ne_toInt (z := 6) (by decide) c_7
    omega
  replace h := h cD
  refine lv_tableOut (tgt := 50) hx hb dX4_howManyNumbers_1 cD (by decide) ?_
  refine lv_iconst (v := 1) hx hb dX4_howManyNumbers_50 (by decide) ?_
  exact x_ret C0 () hw h dX4_howManyNumbers_51

abbrev rmJ0_isLatin1_aae02 : Room := { frames := 0, cells := 0, slots := 0, locals := 0 }
set_option maxRecDepth 100000 in
set_option maxHeartbeats 4000000 in
theorem c_J0_isLatin1_aae02 (l : Launch) (E : EE)   {w : Nat}  {post : Int32 → Prop} (h : s_J0_isLatin1_aae02 w post) : KI l E yJ0_isLatin1_aae02 wsJ0_isLatin1_aae02 rmJ0_isLatin1_aae02 [.ref (E.2.2.2.2.1 w)] ([] : va_W) (S := Unit) (fun r (_ : Unit) => post r) (fun (_ : Unit) => ([] : va_W)) := by
  unfold s_J0_isLatin1_aae02 at h
  refine KI.go (cc := cJ0_isLatin1_aae02) (ret := (some .boolean)) (maxL := 1) (own := RJ0) (by decide) rfl (Nat.le_of_ble_eq_true rfl) rfl (fun p e s m below meth c A ls C0 hw hl => ?_)
  have hx := C0.1
  have hb := C0.2.1
  replace hl : lv_has ls 1 [(0, .ref (E.2.2.2.2.1 w))] := hl
  refine x_gsC C0 hw 1 rfl dJ0_isLatin1_aae02_0 ?_
  refine lv_if_eq (tgt := 17) hx hb dJ0_isLatin1_aae02_3 (by decide) (fun c => absurd c (by decide)) (fun _ => ?_)
  refine lv_aload_n hx hb dJ0_isLatin1_aae02_6 rfl (lv_at hl 0 rfl) ?_
  obtain ⟨hw7, h⟩ := h
  refine x_litc C0 hw hw7 2 rfl dJ0_isLatin1_aae02_7 ?_
  refine lv_if_ne (tgt := 17) hx hb dJ0_isLatin1_aae02_10 (by decide) (fun c => absurd (by decide) c) (fun _ => ?_)
  refine lv_iconst (v := 1) hx hb dJ0_isLatin1_aae02_13 (by decide) ?_
  refine lv_goto (tgt := 18) hx hb dJ0_isLatin1_aae02_14 (by decide) ?_
  exact x_retz C0 rfl () hw h dJ0_isLatin1_aae02_18

abbrev rmJ3_checkIndex_8e157 : Room := { frames := 0, cells := 0, slots := 0, locals := 0 }
set_option maxRecDepth 100000 in
set_option maxHeartbeats 4000000 in
theorem c_J3_checkIndex_8e157_n (l : Launch) (E : EE)    {p0 : Int32} {p1 : Int32} {post : Int32 → Prop} (h : s_J3_checkIndex_8e157 p0 p1 post) : KI l E yJ3_checkIndex_8e157 wsJ3_checkIndex_8e157 rmJ3_checkIndex_8e157 [.int p0, .int p1, .null] ([] : va_W) (S := Unit) (fun r (_ : Unit) => post r) (fun (_ : Unit) => ([] : va_W)) := by
  unfold s_J3_checkIndex_8e157 at h
  refine KI.go (cc := cJ3_checkIndex_8e157) (ret := (some .int)) (maxL := 3) (own := RJ3) (by decide) rfl (Nat.le_of_ble_eq_true rfl) rfl (fun p e s m below meth c A ls C0 hw hl => ?_)
  have hx := C0.1
  have hb := C0.2.1
  replace hl : lv_has ls 3 [(0, .int p0), (1, .int p1), (2, .null)] := hl
  refine lv_iload_n hx hb dJ3_checkIndex_8e157_0 rfl (lv_at hl 0 rfl) ?_
  refine lv_if_lt (tgt := 9) hx hb dJ3_checkIndex_8e157_1 (by decide) (fun c_2 => ?_) (fun c_2 => ?_)
  · replace h := h.1 c_2
    exact False.elim h
  · replace h := h.2 c_2
    refine lv_iload_n hx hb dJ3_checkIndex_8e157_4 rfl (lv_at hl 0 rfl) ?_
    refine lv_iload_n hx hb dJ3_checkIndex_8e157_5 rfl (lv_at hl 1 rfl) ?_
    refine lv_icmp_lt (tgt := 16) hx hb dJ3_checkIndex_8e157_6 (by decide) (fun c_1 => ?_) (fun c_1 => ?_)
    · replace h := h.1 c_1
      refine lv_iload_n hx hb dJ3_checkIndex_8e157_16 rfl (lv_at hl 0 rfl) ?_
      exact x_ret C0 () hw h dJ3_checkIndex_8e157_17
    · replace h := h.2 c_1
      exact False.elim h

set_option maxRecDepth 100000 in
set_option maxHeartbeats 4000000 in
theorem c_J3_checkIndex_8e157_r (l : Launch) (E : EE) (t : Nat)   {p0 : Int32} {p1 : Int32} {post : Int32 → Prop} (h : s_J3_checkIndex_8e157 p0 p1 post) : KI l E yJ3_checkIndex_8e157 wsJ3_checkIndex_8e157 rmJ3_checkIndex_8e157 [.int p0, .int p1, .ref t] ([] : va_W) (S := Unit) (fun r (_ : Unit) => post r) (fun (_ : Unit) => ([] : va_W)) := by
  unfold s_J3_checkIndex_8e157 at h
  refine KI.go (cc := cJ3_checkIndex_8e157) (ret := (some .int)) (maxL := 3) (own := RJ3) (by decide) rfl (Nat.le_of_ble_eq_true rfl) rfl (fun p e s m below meth c A ls C0 hw hl => ?_)
  have hx := C0.1
  have hb := C0.2.1
  replace hl : lv_has ls 3 [(0, .int p0), (1, .int p1), (2, .ref t)] := hl
  refine lv_iload_n hx hb dJ3_checkIndex_8e157_0 rfl (lv_at hl 0 rfl) ?_
  refine lv_if_lt (tgt := 9) hx hb dJ3_checkIndex_8e157_1 (by decide) (fun c_2 => ?_) (fun c_2 => ?_)
  · replace h := h.1 c_2
    exact False.elim h
  · replace h := h.2 c_2
    refine lv_iload_n hx hb dJ3_checkIndex_8e157_4 rfl (lv_at hl 0 rfl) ?_
    refine lv_iload_n hx hb dJ3_checkIndex_8e157_5 rfl (lv_at hl 1 rfl) ?_
    refine lv_icmp_lt (tgt := 16) hx hb dJ3_checkIndex_8e157_6 (by decide) (fun c_1 => ?_) (fun c_1 => ?_)
    · replace h := h.1 c_1
      refine lv_iload_n hx hb dJ3_checkIndex_8e157_16 rfl (lv_at hl 0 rfl) ?_
      exact x_ret C0 () hw h dJ3_checkIndex_8e157_17
    · replace h := h.2 c_1
      exact False.elim h

abbrev rmJ0_checkIndex_df160 : Room := { frames := 1, cells := 0, slots := 0, locals := 22 }
set_option maxRecDepth 100000 in
set_option maxHeartbeats 4000000 in
theorem c_J0_checkIndex_df160 (l : Launch) (E : EE)    {p0 : Int32} {p1 : Int32} {post : Prop} (h : s_J0_checkIndex_df160 p0 p1 post) : KV l E yJ0_checkIndex_df160 wsJ0_checkIndex_df160 rmJ0_checkIndex_df160 [.int p0, .int p1] ([] : va_W) (S := Unit) (fun (_ : Unit) => post ) (fun (_ : Unit) => ([] : va_W)) := by
  unfold s_J0_checkIndex_df160 at h
  refine KV.go (cc := cJ0_checkIndex_df160) (ret := none) (maxL := 2) (own := RJ0) (by decide) rfl (Nat.le_of_ble_eq_true rfl) rfl (fun p e s m below meth c A ls C0 hw hl => ?_)
  have hx := C0.1
  have hb := C0.2.1
  replace hl : lv_has ls 2 [(0, .int p0), (1, .int p1)] := hl
  refine lv_iload_n hx hb dJ0_checkIndex_df160_0 rfl (lv_at hl 0 rfl) ?_
  refine lv_iload_n hx hb dJ0_checkIndex_df160_1 rfl (lv_at hl 1 rfl) ?_
  refine x_gsF C0 hw 1 rfl dJ0_checkIndex_df160_2 ?_ (fun t_1 => ?_)
  · refine x_cS (As := [.int p0, .int p1, .null]) (rest := []) (F := ([] : va_W)) C0 hw (p_non _) hl.1 (c_J3_checkIndex_8e157_n l E  h) 3 gJ0_checkIndex_df160_J3_checkIndex_8e157 rfl ⟨rfl, rfl⟩ (by decide +kernel) ⟨Nat.le_of_ble_eq_true rfl, Nat.le_of_ble_eq_true rfl⟩ rfl rfl (Nat.le_of_ble_eq_true rfl) dJ0_checkIndex_df160_5 ⟨Nat.zero_le _, Nat.zero_le _⟩ (fun r_1 _u H locs h (hw : mw E A s.heap H locs ([] : va_W)) => ?_)
    refine lv_pop hx hb dJ0_checkIndex_df160_8 rfl ?_
    exact x_retv C0 () hw h dJ0_checkIndex_df160_9
  · refine x_cS (As := [.int p0, .int p1, .ref t_1]) (rest := []) (F := ([] : va_W)) C0 hw (p_non _) hl.1 (c_J3_checkIndex_8e157_r l E t_1 h) 3 gJ0_checkIndex_df160_J3_checkIndex_8e157 rfl ⟨rfl, rfl⟩ (by decide +kernel) ⟨Nat.le_of_ble_eq_true rfl, Nat.le_of_ble_eq_true rfl⟩ rfl rfl (Nat.le_of_ble_eq_true rfl) dJ0_checkIndex_df160_5 ⟨Nat.zero_le _, Nat.zero_le _⟩ (fun r_1 _u H locs h (hw : mw E A s.heap H locs ([] : va_W)) => ?_)
    refine lv_pop hx hb dJ0_checkIndex_df160_8 rfl ?_
    exact x_retv C0 () hw h dJ0_checkIndex_df160_9

abbrev rmJ1_charAt_3b067 : Room := { frames := 2, cells := 0, slots := 0, locals := 43 }
set_option maxRecDepth 100000 in
set_option maxHeartbeats 4000000 in
theorem c_J1_charAt_3b067 (l : Launch) (E : EE)   {w : Nat} {p1 : Int32} {post : Int32 → Prop} (h : s_J1_charAt_3b067 w p1 post) : KI l E yJ1_charAt_3b067 wsJ1_charAt_3b067 rmJ1_charAt_3b067 [.ref (E.2.2.2.2.2 w), .int p1] ([] : va_W) (S := Unit) (fun r (_ : Unit) => post r) (fun (_ : Unit) => ([] : va_W)) := by
  unfold s_J1_charAt_3b067 at h
  refine KI.go (cc := cJ1_charAt_3b067) (ret := (some .char)) (maxL := 2) (own := RJ1) (by decide) rfl (Nat.le_of_ble_eq_true rfl) rfl (fun p e s m below meth c A ls C0 hw hl => ?_)
  have hx := C0.1
  have hb := C0.2.1
  replace hl : lv_has ls 2 [(0, .ref (E.2.2.2.2.2 w)), (1, .int p1)] := hl
  refine lv_iload_n hx hb dJ1_charAt_3b067_0 rfl (lv_at hl 1 rfl) ?_
  refine lv_aload_n hx hb dJ1_charAt_3b067_1 rfl (lv_at hl 0 rfl) ?_
  obtain ⟨hw7, h⟩ := h
  refine x_litlen C0 hw hw7 dJ1_charAt_3b067_2 ?_
  refine x_cSv (As := [.int p1, .int (nI (litLen.getD w 0))]) (rest := []) (F := ([] : va_W)) C0 hw (p_non _) hl.1 (c_J0_checkIndex_df160 l E  h) 2 gJ1_charAt_3b067_J0_checkIndex_df160 rfl ⟨rfl, rfl⟩ (by decide +kernel) ⟨Nat.le_of_ble_eq_true rfl, Nat.le_of_ble_eq_true rfl⟩ rfl rfl (Nat.le_of_ble_eq_true rfl) dJ1_charAt_3b067_3 ⟨Nat.zero_le _, Nat.zero_le _⟩ (fun _u H locs h (hw : mw E A s.heap H locs ([] : va_W)) => ?_)
  refine lv_aload_n hx hb dJ1_charAt_3b067_6 rfl (lv_at hl 0 rfl) ?_
  refine lv_iload_n hx hb dJ1_charAt_3b067_7 rfl (lv_at hl 1 rfl) ?_
  obtain ⟨hw7, hin, h⟩ := h
  refine x_litald C0 hw hw7 hin dJ1_charAt_3b067_8 ?_
  refine lv_sipush (v := 255) hx hb dJ1_charAt_3b067_9 (by decide) ?_
  refine lv_iand hx hb dJ1_charAt_3b067_12 ?_
  refine lv_i2c (v := ((((((litByt.getD w []).getD (tn p1) 0) &&& 255) : Int32).toUInt32 % 65536).toInt32)) hx hb dJ1_charAt_3b067_13 rfl ?_
  exact x_retz C0 h.1 () hw h.2 dJ1_charAt_3b067_14

abbrev rmJ0_charAt_5068e : Room := { frames := 3, cells := 0, slots := 0, locals := 64 }
set_option maxRecDepth 100000 in
set_option maxHeartbeats 4000000 in
theorem c_J0_charAt_5068e (l : Launch) (E : EE)   {w : Nat} {p1 : Int32} {post : Int32 → Prop} (h : s_J0_charAt_5068e w p1 post) : KI l E yJ0_charAt_5068e wsJ0_charAt_5068e rmJ0_charAt_5068e [.ref (E.2.2.2.2.1 w), .int p1] ([] : va_W) (S := Unit) (fun r (_ : Unit) => post r) (fun (_ : Unit) => ([] : va_W)) := by
  unfold s_J0_charAt_5068e at h
  refine KI.go (cc := cJ0_charAt_5068e) (ret := (some .char)) (maxL := 2) (own := RJ0) (by decide) rfl (Nat.le_of_ble_eq_true rfl) rfl (fun p e s m below meth c A ls C0 hw hl => ?_)
  have hx := C0.1
  have hb := C0.2.1
  replace hl : lv_has ls 2 [(0, .ref (E.2.2.2.2.1 w)), (1, .int p1)] := hl
  refine lv_aload_n hx hb dJ0_charAt_5068e_0 rfl (lv_at hl 0 rfl) ?_
  obtain ⟨hw7, h⟩ := h
  refine x_cVL (As := []) (rest := []) (F := ([] : va_W)) C0 hw (p_non _) hl.1 hw7 (c_J0_isLatin1_aae02 l E  h) 0 gJ0_charAt_5068e_J0_isLatin1_aae02 rfl ⟨rfl, rfl⟩ (by decide +kernel) ⟨Nat.le_of_ble_eq_true rfl, Nat.le_of_ble_eq_true rfl⟩ rfl rfl (Nat.le_of_ble_eq_true rfl) dJ0_charAt_5068e_1 ⟨Nat.zero_le _, Nat.zero_le _⟩ (fun r_1 _u H locs h (hw : mw E A s.heap H locs ([] : va_W)) => ?_)
  refine lv_if_eq (tgt := 16) hx hb dJ0_charAt_5068e_4 (by decide) (fun c_4 => ?_) (fun c_4 => ?_)
  · replace h := h.1 c_4
    exact False.elim h
  · replace h := h.2 c_4
    refine lv_aload_n hx hb dJ0_charAt_5068e_7 rfl (lv_at hl 0 rfl) ?_
    obtain ⟨hw7, h⟩ := h
    refine x_litv C0 hw hw7 1 rfl dJ0_charAt_5068e_8 ?_
    refine lv_iload_n hx hb dJ0_charAt_5068e_11 rfl (lv_at hl 1 rfl) ?_
    refine x_cS (As := [.ref (E.2.2.2.2.2 w), .int p1]) (rest := []) (F := ([] : va_W)) C0 hw (p_non _) hl.1 (c_J1_charAt_3b067 l E  h) 2 gJ0_charAt_5068e_J1_charAt_3b067 rfl ⟨rfl, rfl⟩ (by decide +kernel) ⟨Nat.le_of_ble_eq_true rfl, Nat.le_of_ble_eq_true rfl⟩ rfl rfl (Nat.le_of_ble_eq_true rfl) dJ0_charAt_5068e_12 ⟨Nat.zero_le _, Nat.zero_le _⟩ (fun r_2 _u H locs h (hw : mw E A s.heap H locs ([] : va_W)) => ?_)
    exact x_retz C0 h.1 () hw h.2 dJ0_charAt_5068e_15

abbrev rmX4_signAt : Room := { frames := 0, cells := 0, slots := 0, locals := 0 }
set_option maxRecDepth 100000 in
set_option maxHeartbeats 4000000 in
theorem c_X4_signAt (l : Launch) (E : EE) (aS : Nat → Nat) {v : V}  {p1 : Int32} {post : Int32 → V → Prop} (h : s_X4_signAt v p1 post) : KI l E yX4_signAt wsX4_signAt rmX4_signAt [.ref (aS 0), .int p1] (cS E aS v) post (fun u => cS E aS u) := by
  unfold s_X4_signAt at h
  refine KI.go (cc := cX4_signAt) (ret := (some .char)) (maxL := 2) (own := RX4) (by decide) rfl (Nat.le_of_ble_eq_true rfl) rfl (fun p e s m below meth c A ls C0 hw hl => ?_)
  have hx := C0.1
  have hb := C0.2.1
  have hiX4 : ∀ w ∈ wsX40, w ∈ wsX4_signAt := fun w h => List.mem_cons_of_mem _ (List.mem_append_right _ h)
  replace hl : lv_has ls 2 [(0, .ref (aS 0)), (1, .int p1)] := hl
  refine lv_iload_n hx hb dX4_signAt_0 rfl (lv_at hl 1 rfl) ?_
  refine lv_if_lt (tgt := 27) hx hb dX4_signAt_1 (by decide) (fun c_3 => ?_) (fun c_3 => ?_)
  · replace h := h.1 c_3
    refine lv_iconst (v := 0) hx hb dX4_signAt_27 (by decide) ?_
    exact x_retz C0 rfl v hw h dX4_signAt_28
  · replace h := h.2 c_3
    refine lv_iload_n hx hb dX4_signAt_4 rfl (lv_at hl 1 rfl) ?_
    refine lv_aload_n hx hb dX4_signAt_5 rfl (lv_at hl 0 rfl) ?_
    refine x_get C0 hw 4 hiX4 rfl 0 rfl 1 (by decide) 1 rfl rfl dX4_signAt_6 ?_
    refine lv_icmp_ge (tgt := 27) hx hb dX4_signAt_9 (by decide) (fun c_2 => ?_) (fun c_2 => ?_)
    · replace h := h.1 c_2
      refine lv_iconst (v := 0) hx hb dX4_signAt_27 (by decide) ?_
      exact x_retz C0 rfl v hw h dX4_signAt_28
    · replace h := h.2 c_2
      refine lv_iload_n hx hb dX4_signAt_12 rfl (lv_at hl 1 rfl) ?_
      refine lv_bipush (v := 60) hx hb dX4_signAt_13 (by decide) ?_
      refine lv_icmp_ge (tgt := 27) hx hb dX4_signAt_15 (by decide) (fun c_1 => ?_) (fun c_1 => ?_)
      · replace h := h.1 c_1
        refine lv_iconst (v := 0) hx hb dX4_signAt_27 (by decide) ?_
        exact x_retz C0 rfl v hw h dX4_signAt_28
      · replace h := h.2 c_1
        refine lv_aload_n hx hb dX4_signAt_18 rfl (lv_at hl 0 rfl) ?_
        refine x_get C0 hw 4 hiX4 rfl 0 rfl 0 (by decide) 2 rfl rfl dX4_signAt_19 ?_
        refine lv_iload_n hx hb dX4_signAt_22 rfl (lv_at hl 1 rfl) ?_
        obtain ⟨hin, h⟩ := h
        refine x_ald' C0 hw 1 rfl hin dX4_signAt_23 ?_
        refine lv_goto (tgt := 28) hx hb dX4_signAt_24 (by decide) ?_
        exact x_retz C0 h.1 v hw h.2 dX4_signAt_28

abbrev rmX4_isWordAt : Room := { frames := 4, cells := 0, slots := 0, locals := 85 }
set_option maxRecDepth 100000 in
set_option maxHeartbeats 4000000 in
theorem w_X4_isWordAt_2 {p : Program} {l : Launch} {e : Env} {s : State} {m : MethodId} {below : List Frame} {meth : Method} {c : Code} {E : EE} {A : Nat → Prop} {aS : Nat → Nat} {args : Array Value} (C0 : Cx E p s m args meth c A cX4_isWordAt 4 RX4 wsX4_isWordAt (some .boolean)) {post : Int32 → V → Prop} {w : Nat} {f1 : Int32} {k0 : Int32 → V → Prop} : ∀ (n : Nat) (x3 : Int32) (v : V), sl_X4_isWordAt_2 post w f1 k0 n x3 v → ∀ (H : Heap) (locs : List Loc) (ls : Array Slot), mw E A s.heap H locs (cS E aS v) → lv_has ls 4 [(0, .ref (aS 0)), (1, .int f1), (2, .ref (E.2.2.2.2.1 w)), (3, .int x3)] → (∀ (x3 : Int32) (v : V) (H : Heap) (locs : List Loc) (ls : Array Slot), k0 x3 v → mw E A s.heap H locs (cS E aS v) → lv_has ls 4 [(0, .ref (aS 0)), (1, .int f1), (2, .ref (E.2.2.2.2.1 w)), (3, .int x3)] → W p l e rmX4_isWordAt s m args below meth c H locs 0 0 (qI E A post (fun u => cS E aS u) below args s) (F0 m 33 ls [])) → W p l e rmX4_isWordAt s m args below meth c H locs 0 0 (qI E A post (fun u => cS E aS u) below args s) (F0 m 2 ls []) := by
  have hx := C0.1
  have hb := C0.2.1
  intro n
  induction n with
  | zero => intro x3 v h; exact False.elim h
  | succ n ih =>
    intro x3 v h H locs ls hw hl hk0
    replace h : sb_X4_isWordAt_2 post w f1 k0 (sl_X4_isWordAt_2 post w f1 k0 n) x3 v := h
    unfold sb_X4_isWordAt_2 at h
    refine lv_iload_n hx hb dX4_isWordAt_2 rfl (lv_at hl 3 rfl) ?_
    refine lv_aload_n hx hb dX4_isWordAt_3 rfl (lv_at hl 2 rfl) ?_
    obtain ⟨hw7, h⟩ := h
    refine x_cVL (As := []) (rest := [.int x3]) (F := (cS E aS v)) C0 hw (p_non _) hl.1 hw7 (c_J0_length_8abf5 l E  h) 0 gX4_isWordAt_J0_length_8abf5 rfl ⟨rfl, rfl⟩ (by decide +kernel) ⟨Nat.le_of_ble_eq_true rfl, Nat.le_of_ble_eq_true rfl⟩ rfl rfl (Nat.le_of_ble_eq_true rfl) dX4_isWordAt_4 ⟨Nat.zero_le _, Nat.zero_le _⟩ (fun r_1 _u H locs h (hw : mw E A s.heap H locs (cS E aS v)) => ?_)
    refine lv_icmp_ge (tgt := 33) hx hb dX4_isWordAt_7 (by decide) (fun c_7 => ?_) (fun c_7 => ?_)
    · replace h := h.1 c_7
      exact hk0 _ _ _ _ _ h hw (lv_sub hl [0, 1, 2, 3] rfl)
    · replace h := h.2 c_7
      refine lv_aload_n hx hb dX4_isWordAt_10 rfl (lv_at hl 0 rfl) ?_
      refine lv_iload_n hx hb dX4_isWordAt_11 rfl (lv_at hl 1 rfl) ?_
      refine lv_iload_n hx hb dX4_isWordAt_12 rfl (lv_at hl 3 rfl) ?_
      refine lv_iadd hx hb dX4_isWordAt_13 ?_
      refine x_cV (As := [.int (f1 + x3)]) (rest := []) (F := []) C0 hw (p_nil _) hl.1 0 4 rfl rfl (c_X4_signAt l E aS h) 1 gX4_isWordAt_X4_signAt rfl ⟨rfl, rfl⟩ (by decide +kernel) ⟨Nat.le_of_ble_eq_true rfl, Nat.le_of_ble_eq_true rfl⟩ rfl rfl (Nat.le_of_ble_eq_true rfl) dX4_isWordAt_14 ⟨Nat.zero_le _, Nat.zero_le _⟩ (fun r_2 v_3 H locs h (hw : mw E A s.heap H locs (cS E aS v_3)) => ?_)
      refine lv_aload_n hx hb dX4_isWordAt_17 rfl (lv_at hl 2 rfl) ?_
      refine lv_iload_n hx hb dX4_isWordAt_18 rfl (lv_at hl 3 rfl) ?_
      obtain ⟨hw7, h⟩ := h
      refine x_cVL (As := [.int x3]) (rest := [.int r_2]) (F := (cS E aS v_3)) C0 hw (p_non _) hl.1 hw7 (c_J0_charAt_5068e l E  h) 1 gX4_isWordAt_J0_charAt_5068e rfl ⟨rfl, rfl⟩ (by decide +kernel) ⟨Nat.le_of_ble_eq_true rfl, Nat.le_of_ble_eq_true rfl⟩ rfl rfl (Nat.le_of_ble_eq_true rfl) dX4_isWordAt_19 ⟨Nat.zero_le _, Nat.zero_le _⟩ (fun r_4 _u H locs h (hw : mw E A s.heap H locs (cS E aS v_3)) => ?_)
      refine lv_icmp_eq (tgt := 27) hx hb dX4_isWordAt_22 (by decide) (fun c_5 => ?_) (fun c_5 => ?_)
      · replace h := h.1 c_5
        refine lv_iinc (v := (x3 + 1)) (lv' := [(3, .int (x3 + 1)), (0, .ref (aS 0)), (1, .int f1), (2, .ref (E.2.2.2.2.1 w))]) hx hb dX4_isWordAt_27 hl (k := 3) rfl rfl (by decide) rfl (fun ls hl => ?_)
        refine lv_goto (tgt := 2) hx hb dX4_isWordAt_30 (by decide) ?_
        exact ih _ _ h _ _ _ hw (lv_sub hl [1, 2, 3, 0] rfl) hk0
      · replace h := h.2 c_5
        refine lv_iconst (v := 0) hx hb dX4_isWordAt_25 (by decide) ?_
        exact x_retz C0 rfl v_3 hw h dX4_isWordAt_26
set_option maxRecDepth 100000 in
set_option maxHeartbeats 4000000 in
theorem c_X4_isWordAt (l : Launch) (E : EE) (aS : Nat → Nat) {v : V} {w : Nat} {p1 : Int32} {post : Int32 → V → Prop} (h : s_X4_isWordAt v w p1 post) : KI l E yX4_isWordAt wsX4_isWordAt rmX4_isWordAt [.ref (aS 0), .int p1, .ref (E.2.2.2.2.1 w)] (cS E aS v) post (fun u => cS E aS u) := by
  unfold s_X4_isWordAt at h
  refine KI.go (cc := cX4_isWordAt) (ret := (some .boolean)) (maxL := 4) (own := RX4) (by decide) rfl (Nat.le_of_ble_eq_true rfl) rfl (fun p e s m below meth c A ls C0 hw hl => ?_)
  have hx := C0.1
  have hb := C0.2.1
  replace hl : lv_has ls 4 [(0, .ref (aS 0)), (1, .int p1), (2, .ref (E.2.2.2.2.1 w))] := hl
  refine lv_iconst (v := 0) hx hb dX4_isWordAt_0 (by decide) ?_
  refine lv_istore_n (lv' := [(3, .int 0), (0, .ref (aS 0)), (1, .int p1), (2, .ref (E.2.2.2.2.1 w))]) hx hb dX4_isWordAt_1 rfl hl (by decide) rfl (fun ls hl => ?_)
  obtain ⟨n_9, h⟩ := h
  refine w_X4_isWordAt_2 C0 _ _ _ h _ _ _ hw (lv_sub hl [1, 2, 3, 0] rfl) ?_
  · intro x3_10 v_11 H locs ls h hw hl
    refine lv_iconst (v := 1) hx hb dX4_isWordAt_33 (by decide) ?_
    exact x_retz C0 rfl v_11 hw h dX4_isWordAt_34

abbrev rmX4_isDigit : Room := { frames := 0, cells := 0, slots := 0, locals := 0 }
set_option maxRecDepth 100000 in
set_option maxHeartbeats 4000000 in
theorem c_X4_isDigit (l : Launch) (E : EE)    {p0 : Int32} {post : Int32 → Prop} (h : s_X4_isDigit p0 post) : KI l E yX4_isDigit wsX4_isDigit rmX4_isDigit [.int p0] ([] : va_W) (S := Unit) (fun r (_ : Unit) => post r) (fun (_ : Unit) => ([] : va_W)) := by
  unfold s_X4_isDigit at h
  refine KI.go (cc := cX4_isDigit) (ret := (some .boolean)) (maxL := 1) (own := RX4) (by decide) rfl (Nat.le_of_ble_eq_true rfl) rfl (fun p e s m below meth c A ls C0 hw hl => ?_)
  have hx := C0.1
  have hb := C0.2.1
  replace hl : lv_has ls 1 [(0, .int p0)] := hl
  refine lv_iload_n hx hb dX4_isDigit_0 rfl (lv_at hl 0 rfl) ?_
  refine lv_bipush (v := 48) hx hb dX4_isDigit_1 (by decide) ?_
  refine lv_icmp_lt (tgt := 16) hx hb dX4_isDigit_3 (by decide) (fun c_2 => ?_) (fun c_2 => ?_)
  · replace h := h.1 c_2
    refine lv_iconst (v := 0) hx hb dX4_isDigit_16 (by decide) ?_
    exact x_retz C0 rfl () hw h dX4_isDigit_17
  · replace h := h.2 c_2
    refine lv_iload_n hx hb dX4_isDigit_6 rfl (lv_at hl 0 rfl) ?_
    refine lv_bipush (v := 57) hx hb dX4_isDigit_7 (by decide) ?_
    refine lv_icmp_gt (tgt := 16) hx hb dX4_isDigit_9 (by decide) (fun c_1 => ?_) (fun c_1 => ?_)
    · replace h := h.1 c_1
      refine lv_iconst (v := 0) hx hb dX4_isDigit_16 (by decide) ?_
      exact x_retz C0 rfl () hw h dX4_isDigit_17
    · replace h := h.2 c_1
      refine lv_iconst (v := 1) hx hb dX4_isDigit_12 (by decide) ?_
      refine lv_goto (tgt := 17) hx hb dX4_isDigit_13 (by decide) ?_
      exact x_retz C0 rfl () hw h dX4_isDigit_17

abbrev rmX4_digitsAt : Room := { frames := 1, cells := 0, slots := 0, locals := 21 }
set_option maxRecDepth 100000 in
set_option maxHeartbeats 4000000 in
theorem w_X4_digitsAt_2 {p : Program} {l : Launch} {e : Env} {s : State} {m : MethodId} {below : List Frame} {meth : Method} {c : Code} {E : EE} {A : Nat → Prop} {aS : Nat → Nat} {args : Array Value} (C0 : Cx E p s m args meth c A cX4_digitsAt 3 RX4 wsX4_digitsAt (some .int)) {post : Int32 → V → Prop}  {f1 : Int32} {k0 : Int32 → V → Prop} : ∀ (n : Nat) (x2 : Int32) (v : V), sl_X4_digitsAt_2 post f1 k0 n x2 v → ∀ (H : Heap) (locs : List Loc) (ls : Array Slot), mw E A s.heap H locs (cS E aS v) → lv_has ls 3 [(0, .ref (aS 0)), (1, .int f1), (2, .int x2)] → (∀ (x2 : Int32) (v : V) (H : Heap) (locs : List Loc) (ls : Array Slot), k0 x2 v → mw E A s.heap H locs (cS E aS v) → lv_has ls 3 [(0, .ref (aS 0)), (1, .int f1), (2, .int x2)] → W p l e rmX4_digitsAt s m args below meth c H locs 0 0 (qI E A post (fun u => cS E aS u) below args s) (F0 m 26 ls [])) → W p l e rmX4_digitsAt s m args below meth c H locs 0 0 (qI E A post (fun u => cS E aS u) below args s) (F0 m 2 ls []) := by
  have hx := C0.1
  have hb := C0.2.1
  intro n
  induction n with
  | zero => intro x2 v h; exact False.elim h
  | succ n ih =>
    intro x2 v h H locs ls hw hl hk0
    replace h : sb_X4_digitsAt_2 post f1 k0 (sl_X4_digitsAt_2 post f1 k0 n) x2 v := h
    unfold sb_X4_digitsAt_2 at h
    refine lv_iload_n hx hb dX4_digitsAt_2 rfl (lv_at hl 2 rfl) ?_
    refine lv_iconst (v := 4) hx hb dX4_digitsAt_3 (by decide) ?_
    refine lv_icmp_ge (tgt := 26) hx hb dX4_digitsAt_4 (by decide) (fun c_6 => ?_) (fun c_6 => ?_)
    · replace h := h.1 c_6
      exact hk0 _ _ _ _ _ h hw (lv_sub hl [0, 1, 2] rfl)
    · replace h := h.2 c_6
      refine lv_aload_n hx hb dX4_digitsAt_7 rfl (lv_at hl 0 rfl) ?_
      refine lv_iload_n hx hb dX4_digitsAt_8 rfl (lv_at hl 1 rfl) ?_
      refine lv_iload_n hx hb dX4_digitsAt_9 rfl (lv_at hl 2 rfl) ?_
      refine lv_iadd hx hb dX4_digitsAt_10 ?_
      refine x_cV (As := [.int (f1 + x2)]) (rest := []) (F := []) C0 hw (p_nil _) hl.1 0 4 rfl rfl (c_X4_signAt l E aS h) 1 gX4_digitsAt_X4_signAt rfl ⟨rfl, rfl⟩ (by decide +kernel) ⟨Nat.le_of_ble_eq_true rfl, Nat.le_of_ble_eq_true rfl⟩ rfl rfl (Nat.le_of_ble_eq_true rfl) dX4_digitsAt_11 ⟨Nat.zero_le _, Nat.zero_le _⟩ (fun r_1 v_2 H locs h (hw : mw E A s.heap H locs (cS E aS v_2)) => ?_)
      refine x_cS (As := [.int r_1]) (rest := []) (F := (cS E aS v_2)) C0 hw (p_non _) hl.1 (c_X4_isDigit l E  h) 1 gX4_digitsAt_X4_isDigit rfl ⟨rfl, rfl⟩ (by decide +kernel) ⟨Nat.le_of_ble_eq_true rfl, Nat.le_of_ble_eq_true rfl⟩ rfl rfl (Nat.le_of_ble_eq_true rfl) dX4_digitsAt_14 ⟨Nat.zero_le _, Nat.zero_le _⟩ (fun r_3 _u H locs h (hw : mw E A s.heap H locs (cS E aS v_2)) => ?_)
      refine lv_if_eq (tgt := 26) hx hb dX4_digitsAt_17 (by decide) (fun c_4 => ?_) (fun c_4 => ?_)
      · replace h := h.1 c_4
        exact hk0 _ _ _ _ _ h hw (lv_sub hl [0, 1, 2] rfl)
      · replace h := h.2 c_4
        refine lv_iinc (v := (x2 + 1)) (lv' := [(2, .int (x2 + 1)), (0, .ref (aS 0)), (1, .int f1)]) hx hb dX4_digitsAt_20 hl (k := 2) rfl rfl (by decide) rfl (fun ls hl => ?_)
        refine lv_goto (tgt := 2) hx hb dX4_digitsAt_23 (by decide) ?_
        exact ih _ _ h _ _ _ hw (lv_sub hl [1, 2, 0] rfl) hk0
set_option maxRecDepth 100000 in
set_option maxHeartbeats 4000000 in
theorem c_X4_digitsAt (l : Launch) (E : EE) (aS : Nat → Nat) {v : V}  {p1 : Int32} {post : Int32 → V → Prop} (h : s_X4_digitsAt v p1 post) : KI l E yX4_digitsAt wsX4_digitsAt rmX4_digitsAt [.ref (aS 0), .int p1] (cS E aS v) post (fun u => cS E aS u) := by
  unfold s_X4_digitsAt at h
  refine KI.go (cc := cX4_digitsAt) (ret := (some .int)) (maxL := 3) (own := RX4) (by decide) rfl (Nat.le_of_ble_eq_true rfl) rfl (fun p e s m below meth c A ls C0 hw hl => ?_)
  have hx := C0.1
  have hb := C0.2.1
  replace hl : lv_has ls 3 [(0, .ref (aS 0)), (1, .int p1)] := hl
  refine lv_iconst (v := 0) hx hb dX4_digitsAt_0 (by decide) ?_
  refine lv_istore_n (lv' := [(2, .int 0), (0, .ref (aS 0)), (1, .int p1)]) hx hb dX4_digitsAt_1 rfl hl (by decide) rfl (fun ls hl => ?_)
  obtain ⟨n_7, h⟩ := h
  refine w_X4_digitsAt_2 C0 _ _ _ h _ _ _ hw (lv_sub hl [1, 2, 0] rfl) ?_
  · intro x2_8 v_9 H locs ls h hw hl
    refine lv_iload_n hx hb dX4_digitsAt_26 rfl (lv_at hl 2 rfl) ?_
    exact x_ret C0 v_9 hw h dX4_digitsAt_27

abbrev rmX4_valueAt : Room := { frames := 1, cells := 0, slots := 0, locals := 21 }
set_option maxRecDepth 100000 in
set_option maxHeartbeats 4000000 in
theorem w_X4_valueAt_5 {p : Program} {l : Launch} {e : Env} {s : State} {m : MethodId} {below : List Frame} {meth : Method} {c : Code} {E : EE} {A : Nat → Prop} {aS : Nat → Nat} {args : Array Value} (C0 : Cx E p s m args meth c A cX4_valueAt 5 RX4 wsX4_valueAt (some .int)) {post : Int32 → V → Prop}  {f1 : Int32} {f2 : Int32} {k0 : Int32 → Int32 → V → Prop} : ∀ (n : Nat) (x3 : Int32) (x4 : Int32) (v : V), sl_X4_valueAt_5 post f1 f2 k0 n x3 x4 v → ∀ (H : Heap) (locs : List Loc) (ls : Array Slot), mw E A s.heap H locs (cS E aS v) → lv_has ls 5 [(0, .ref (aS 0)), (1, .int f1), (2, .int f2), (3, .int x3), (4, .int x4)] → (∀ (x3 : Int32) (x4 : Int32) (v : V) (H : Heap) (locs : List Loc) (ls : Array Slot), k0 x3 x4 v → mw E A s.heap H locs (cS E aS v) → lv_has ls 5 [(0, .ref (aS 0)), (1, .int f1), (2, .int f2), (3, .int x3), (4, .int x4)] → W p l e rmX4_valueAt s m args below meth c H locs 0 0 (qI E A post (fun u => cS E aS u) below args s) (F0 m 34 ls [])) → W p l e rmX4_valueAt s m args below meth c H locs 0 0 (qI E A post (fun u => cS E aS u) below args s) (F0 m 5 ls []) := by
  have hx := C0.1
  have hb := C0.2.1
  intro n
  induction n with
  | zero => intro x3 x4 v h; exact False.elim h
  | succ n ih =>
    intro x3 x4 v h H locs ls hw hl hk0
    replace h : sb_X4_valueAt_5 post f1 f2 k0 (sl_X4_valueAt_5 post f1 f2 k0 n) x3 x4 v := h
    unfold sb_X4_valueAt_5 at h
    refine lv_iload hx hb dX4_valueAt_5 (lv_at hl 4 rfl) ?_
    refine lv_iload_n hx hb dX4_valueAt_7 rfl (lv_at hl 2 rfl) ?_
    refine lv_icmp_ge (tgt := 34) hx hb dX4_valueAt_8 (by decide) (fun c_3 => ?_) (fun c_3 => ?_)
    · replace h := h.1 c_3
      exact hk0 _ _ _ _ _ _ h hw (lv_sub hl [0, 1, 2, 3, 4] rfl)
    · replace h := h.2 c_3
      refine lv_bipush (v := 10) hx hb dX4_valueAt_11 (by decide) ?_
      refine lv_iload_n hx hb dX4_valueAt_13 rfl (lv_at hl 3 rfl) ?_
      refine lv_imul hx hb dX4_valueAt_14 ?_
      refine lv_aload_n hx hb dX4_valueAt_15 rfl (lv_at hl 0 rfl) ?_
      refine lv_iload_n hx hb dX4_valueAt_16 rfl (lv_at hl 1 rfl) ?_
      refine lv_iload hx hb dX4_valueAt_17 (lv_at hl 4 rfl) ?_
      refine lv_iadd hx hb dX4_valueAt_19 ?_
      refine x_cV (As := [.int (f1 + x4)]) (rest := [.int (10 * x3)]) (F := []) C0 hw (p_nil _) hl.1 0 4 rfl rfl (c_X4_signAt l E aS h) 1 gX4_valueAt_X4_signAt rfl ⟨rfl, rfl⟩ (by decide +kernel) ⟨Nat.le_of_ble_eq_true rfl, Nat.le_of_ble_eq_true rfl⟩ rfl rfl (Nat.le_of_ble_eq_true rfl) dX4_valueAt_20 ⟨Nat.zero_le _, Nat.zero_le _⟩ (fun r_1 v_2 H locs h (hw : mw E A s.heap H locs (cS E aS v_2)) => ?_)
      refine lv_iadd hx hb dX4_valueAt_23 ?_
      refine lv_bipush (v := 48) hx hb dX4_valueAt_24 (by decide) ?_
      refine lv_isub hx hb dX4_valueAt_26 ?_
      refine lv_istore_n (lv' := [(3, .int (((10 * x3) + r_1) - 48)), (0, .ref (aS 0)), (1, .int f1), (2, .int f2), (4, .int x4)]) hx hb dX4_valueAt_27 rfl hl (by decide) rfl (fun ls hl => ?_)
      refine lv_iinc (v := (x4 + 1)) (lv' := [(4, .int (x4 + 1)), (3, .int (((10 * x3) + r_1) - 48)), (0, .ref (aS 0)), (1, .int f1), (2, .int f2)]) hx hb dX4_valueAt_28 hl (k := 4) rfl rfl (by decide) rfl (fun ls hl => ?_)
      refine lv_goto (tgt := 5) hx hb dX4_valueAt_31 (by decide) ?_
      exact ih _ _ _ h _ _ _ hw (lv_sub hl [2, 3, 4, 1, 0] rfl) hk0
set_option maxRecDepth 100000 in
set_option maxHeartbeats 4000000 in
theorem c_X4_valueAt (l : Launch) (E : EE) (aS : Nat → Nat) {v : V}  {p1 : Int32} {p2 : Int32} {post : Int32 → V → Prop} (h : s_X4_valueAt v p1 p2 post) : KI l E yX4_valueAt wsX4_valueAt rmX4_valueAt [.ref (aS 0), .int p1, .int p2] (cS E aS v) post (fun u => cS E aS u) := by
  unfold s_X4_valueAt at h
  refine KI.go (cc := cX4_valueAt) (ret := (some .int)) (maxL := 5) (own := RX4) (by decide) rfl (Nat.le_of_ble_eq_true rfl) rfl (fun p e s m below meth c A ls C0 hw hl => ?_)
  have hx := C0.1
  have hb := C0.2.1
  replace hl : lv_has ls 5 [(0, .ref (aS 0)), (1, .int p1), (2, .int p2)] := hl
  refine lv_iconst (v := 0) hx hb dX4_valueAt_0 (by decide) ?_
  refine lv_istore_n (lv' := [(3, .int 0), (0, .ref (aS 0)), (1, .int p1), (2, .int p2)]) hx hb dX4_valueAt_1 rfl hl (by decide) rfl (fun ls hl => ?_)
  refine lv_iconst (v := 0) hx hb dX4_valueAt_2 (by decide) ?_
  refine lv_istore (lv' := [(4, .int 0), (3, .int 0), (0, .ref (aS 0)), (1, .int p1), (2, .int p2)]) hx hb dX4_valueAt_3 hl (by decide) rfl (fun ls hl => ?_)
  obtain ⟨n_4, h⟩ := h
  refine w_X4_valueAt_5 C0 _ _ _ _ h _ _ _ hw (lv_sub hl [2, 3, 4, 1, 0] rfl) ?_
  · intro x3_5 x4_6 v_7 H locs ls h hw hl
    refine lv_iload_n hx hb dX4_valueAt_34 rfl (lv_at hl 3 rfl) ?_
    exact x_ret C0 v_7 hw h dX4_valueAt_35

abbrev rmX4_readNumbers : Room := { frames := 2, cells := 0, slots := 0, locals := 45 }
set_option maxRecDepth 100000 in
set_option maxHeartbeats 4000000 in
theorem w_X4_readNumbers_5 {p : Program} {l : Launch} {e : Env} {s : State} {m : MethodId} {below : List Frame} {meth : Method} {c : Code} {E : EE} {A : Nat → Prop} {aS : Nat → Nat} {args : Array Value} (C0 : Cx E p s m args meth c A cX4_readNumbers 6 RX4 wsX4_readNumbers (some .boolean)) {post : Int32 → V → Prop}  {f2 : Int32} {k0 : Int32 → Int32 → V → Prop} : ∀ (n : Nat) (x3 : Int32) (x4 : Int32) (v : V), sl_X4_readNumbers_5 post f2 k0 n x3 x4 v → ∀ (H : Heap) (locs : List Loc) (ls : Array Slot), mw E A s.heap H locs (cS E aS v) → lv_has ls 6 [(0, .ref (aS 0)), (2, .int f2), (3, .int x3), (4, .int x4)] → (∀ (x3 : Int32) (x4 : Int32) (v : V) (H : Heap) (locs : List Loc) (ls : Array Slot), k0 x3 x4 v → mw E A s.heap H locs (cS E aS v) → lv_has ls 6 [(0, .ref (aS 0)), (2, .int f2), (3, .int x3), (4, .int x4)] → W p l e rmX4_readNumbers s m args below meth c H locs 0 0 (qI E A post (fun u => cS E aS u) below args s) (F0 m 76 ls [])) → W p l e rmX4_readNumbers s m args below meth c H locs 0 0 (qI E A post (fun u => cS E aS u) below args s) (F0 m 5 ls []) := by
  have hx := C0.1
  have hb := C0.2.1
  have hiX4 : ∀ w ∈ wsX40, w ∈ wsX4_readNumbers := fun w h => List.mem_cons_of_mem _ (List.mem_append_right _ h)
  intro n
  induction n with
  | zero => intro x3 x4 v h; exact False.elim h
  | succ n ih =>
    intro x3 x4 v h H locs ls hw hl hk0
    replace h : sb_X4_readNumbers_5 post f2 k0 (sl_X4_readNumbers_5 post f2 k0 n) x3 x4 v := h
    unfold sb_X4_readNumbers_5 at h
    refine lv_iload hx hb dX4_readNumbers_5 (lv_at hl 3 rfl) ?_
    refine lv_iload_n hx hb dX4_readNumbers_7 rfl (lv_at hl 1 rfl) ?_
    refine lv_icmp_ge (tgt := 76) hx hb dX4_readNumbers_8 (by decide) (fun c_11 => ?_) (fun c_11 => ?_)
    · replace h := h.1 c_11
      exact hk0 _ _ _ _ _ _ h hw (lv_sub hl [0, 1, 2, 3] rfl)
    · replace h := h.2 c_11
      refine lv_iload hx hb dX4_readNumbers_11 (lv_at hl 3 rfl) ?_
      refine lv_aload_n hx hb dX4_readNumbers_13 rfl (lv_at hl 0 rfl) ?_
      refine x_get C0 hw 4 hiX4 rfl 0 rfl 3 (by decide) 1 rfl rfl dX4_readNumbers_14 ?_
      refine x_alen (v := 4) C0 hw 2 rfl (by decide) dX4_readNumbers_17 ?_
      refine lv_icmp_ge (tgt := 76) hx hb dX4_readNumbers_18 (by decide) (fun c_10 => ?_) (fun c_10 => ?_)
      · replace h := h.1 c_10
        exact hk0 _ _ _ _ _ _ h hw (lv_sub hl [0, 1, 2, 3] rfl)
      · replace h := h.2 c_10
        refine lv_aload_n hx hb dX4_readNumbers_21 rfl (lv_at hl 0 rfl) ?_
        refine lv_iload_n hx hb dX4_readNumbers_22 rfl (lv_at hl 2 rfl) ?_
        refine lv_iconst (v := 1) hx hb dX4_readNumbers_23 (by decide) ?_
        refine lv_iadd hx hb dX4_readNumbers_24 ?_
        refine x_cV (As := [.int (x3 + 1)]) (rest := []) (F := []) C0 hw (p_nil _) hl.1 0 4 rfl rfl (c_X4_digitsAt l E aS h) 1 gX4_readNumbers_X4_digitsAt rfl ⟨rfl, rfl⟩ (by decide +kernel) ⟨Nat.le_of_ble_eq_true rfl, Nat.le_of_ble_eq_true rfl⟩ rfl rfl (Nat.le_of_ble_eq_true rfl) dX4_readNumbers_25 ⟨Nat.zero_le _, Nat.zero_le _⟩ (fun r_1 v_2 H locs h (hw : mw E A s.heap H locs (cS E aS v_2)) => ?_)
        refine lv_istore (lv' := [(5, .int r_1), (0, .ref (aS 0)), (2, .int f2), (3, .int x3), (4, .int x4)]) hx hb dX4_readNumbers_28 hl (by decide) rfl (fun ls hl => ?_)
        refine lv_aload_n hx hb dX4_readNumbers_30 rfl (lv_at hl 1 rfl) ?_
        refine lv_iload_n hx hb dX4_readNumbers_31 rfl (lv_at hl 3 rfl) ?_
        refine x_cV (As := [.int x3]) (rest := []) (F := []) C0 hw (p_nil _) hl.1 0 4 rfl rfl (c_X4_signAt l E aS h) 1 gX4_readNumbers_X4_signAt rfl ⟨rfl, rfl⟩ (by decide +kernel) ⟨Nat.le_of_ble_eq_true rfl, Nat.le_of_ble_eq_true rfl⟩ rfl rfl (Nat.le_of_ble_eq_true rfl) dX4_readNumbers_32 ⟨Nat.zero_le _, Nat.zero_le _⟩ (fun r_3 v_4 H locs h (hw : mw E A s.heap H locs (cS E aS v_4)) => ?_)
        refine lv_bipush (v := 32) hx hb dX4_readNumbers_35 (by decide) ?_
        refine lv_icmp_ne (tgt := 45) hx hb dX4_readNumbers_37 (by decide) (fun c_9 => ?_) (fun c_9 => ?_)
        · replace h := h.1 c_9
          refine lv_iconst (v := 0) hx hb dX4_readNumbers_45 (by decide) ?_
          exact x_retz C0 rfl v_4 hw h dX4_readNumbers_46
        · replace h := h.2 c_9
          refine lv_iload hx hb dX4_readNumbers_40 (lv_at hl 0 rfl) ?_
          refine lv_if_ne (tgt := 47) hx hb dX4_readNumbers_42 (by decide) (fun c_8 => ?_) (fun c_8 => ?_)
          · replace h := h.1 c_8
            refine lv_aload_n hx hb dX4_readNumbers_47 rfl (lv_at hl 1 rfl) ?_
            refine x_get C0 hw 4 hiX4 rfl 0 rfl 3 (by decide) 1 rfl rfl dX4_readNumbers_48 ?_
            refine lv_iload hx hb dX4_readNumbers_51 (lv_at hl 4 rfl) ?_
            refine lv_aload_n hx hb dX4_readNumbers_53 rfl (lv_at hl 1 rfl) ?_
            refine lv_iload_n hx hb dX4_readNumbers_54 rfl (lv_at hl 3 rfl) ?_
            refine lv_iconst (v := 1) hx hb dX4_readNumbers_55 (by decide) ?_
            refine lv_iadd hx hb dX4_readNumbers_56 ?_
            refine lv_iload hx hb dX4_readNumbers_57 (lv_at hl 0 rfl) ?_
            refine x_cV (As := [.int (x3 + 1), .int r_1]) (rest := [.int x4, .ref (aS 2)]) (F := []) C0 hw (p_nil _) hl.1 0 4 rfl rfl (c_X4_valueAt l E aS h) 2 gX4_readNumbers_X4_valueAt rfl ⟨rfl, rfl⟩ (by decide +kernel) ⟨Nat.le_of_ble_eq_true rfl, Nat.le_of_ble_eq_true rfl⟩ rfl rfl (Nat.le_of_ble_eq_true rfl) dX4_readNumbers_59 ⟨Nat.zero_le _, Nat.zero_le _⟩ (fun r_5 v_6 H locs h (hw : mw E A s.heap H locs (cS E aS v_6)) => ?_)
            obtain ⟨hin, h⟩ := h
            refine x_ast (ws' := (cS E aS ((st v_6 2 (tn x4) r_5)))) C0 hw 2 rfl hin rfl dX4_readNumbers_62 (fun H locs hw => ?_)
            obtain ⟨v_7, e_v_7⟩ : ∃ z, z = st v_6 2 (tn x4) r_5 := ⟨_, rfl⟩
            rw [← e_v_7] at hw
            replace h := h v_7 e_v_7
            refine lv_iload_n hx hb dX4_readNumbers_63 rfl (lv_at hl 3 rfl) ?_
            refine lv_iconst (v := 1) hx hb dX4_readNumbers_64 (by decide) ?_
            refine lv_iload hx hb dX4_readNumbers_65 (lv_at hl 0 rfl) ?_
            refine lv_iadd hx hb dX4_readNumbers_67 ?_
            refine lv_iadd hx hb dX4_readNumbers_68 ?_
            refine lv_istore_n (lv' := [(3, .int (x3 + (1 + r_1))), (5, .int r_1), (0, .ref (aS 0)), (2, .int f2), (4, .int x4)]) hx hb dX4_readNumbers_69 rfl hl (by decide) rfl (fun ls hl => ?_)
            refine lv_iinc (v := (x4 + 1)) (lv' := [(4, .int (x4 + 1)), (3, .int (x3 + (1 + r_1))), (5, .int r_1), (0, .ref (aS 0)), (2, .int f2)]) hx hb dX4_readNumbers_70 hl (k := 4) rfl rfl (by decide) rfl (fun ls hl => ?_)
            refine lv_goto (tgt := 5) hx hb dX4_readNumbers_73 (by decide) ?_
            exact ih _ _ _ h _ _ _ hw (lv_sub hl [3, 4, 1, 0] rfl) hk0
          · replace h := h.2 c_8
            refine lv_iconst (v := 0) hx hb dX4_readNumbers_45 (by decide) ?_
            exact x_retz C0 rfl v_4 hw h dX4_readNumbers_46
set_option maxRecDepth 100000 in
set_option maxHeartbeats 4000000 in
theorem c_X4_readNumbers (l : Launch) (E : EE) (aS : Nat → Nat) {v : V}  {p1 : Int32} {p2 : Int32} {post : Int32 → V → Prop} (h : s_X4_readNumbers v p1 p2 post) : KI l E yX4_readNumbers wsX4_readNumbers rmX4_readNumbers [.ref (aS 0), .int p1, .int p2] (cS E aS v) post (fun u => cS E aS u) := by
  unfold s_X4_readNumbers at h
  refine KI.go (cc := cX4_readNumbers) (ret := (some .boolean)) (maxL := 6) (own := RX4) (by decide) rfl (Nat.le_of_ble_eq_true rfl) rfl (fun p e s m below meth c A ls C0 hw hl => ?_)
  have hx := C0.1
  have hb := C0.2.1
  have hiX4 : ∀ w ∈ wsX40, w ∈ wsX4_readNumbers := fun w h => List.mem_cons_of_mem _ (List.mem_append_right _ h)
  replace hl : lv_has ls 6 [(0, .ref (aS 0)), (1, .int p1), (2, .int p2)] := hl
  refine lv_iload_n hx hb dX4_readNumbers_0 rfl (lv_at hl 1 rfl) ?_
  refine lv_istore_n (lv' := [(3, .int p1), (0, .ref (aS 0)), (1, .int p1), (2, .int p2)]) hx hb dX4_readNumbers_1 rfl hl (by decide) rfl (fun ls hl => ?_)
  refine lv_iconst (v := 0) hx hb dX4_readNumbers_2 (by decide) ?_
  refine lv_istore (lv' := [(4, .int 0), (3, .int p1), (0, .ref (aS 0)), (1, .int p1), (2, .int p2)]) hx hb dX4_readNumbers_3 hl (by decide) rfl (fun ls hl => ?_)
  obtain ⟨n_12, h⟩ := h
  refine w_X4_readNumbers_5 C0 _ _ _ _ h _ _ _ hw (lv_sub hl [2, 4, 1, 0] rfl) ?_
  · intro x3_13 x4_14 v_15 H locs ls h hw hl
    refine lv_aload_n hx hb dX4_readNumbers_76 rfl (lv_at hl 0 rfl) ?_
    refine lv_iload_n hx hb dX4_readNumbers_77 rfl (lv_at hl 2 rfl) ?_
    refine lv_iconst (v := 1) hx hb dX4_readNumbers_78 (by decide) ?_
    refine lv_iadd hx hb dX4_readNumbers_79 ?_
    refine x_put (ws' := (cS E aS ((sc v_15 0 4 (x3_13 + 1))))) C0 hw 4 hiX4 rfl tyX4 tyX4_ok nmX4 0 rfl 4 (by decide) 2 rfl rfl rfl rfl (Nat.le_of_ble_eq_true rfl) rfl dX4_readNumbers_80 (fun H locs hw => ?_)
    obtain ⟨v_16, e_v_16⟩ : ∃ z, z = sc v_15 0 4 (x3_13 + 1) := ⟨_, rfl⟩
    rw [← e_v_16] at hw
    replace h := h v_16 e_v_16
    refine lv_aload_n hx hb dX4_readNumbers_83 rfl (lv_at hl 0 rfl) ?_
    refine lv_iload_n hx hb dX4_readNumbers_84 rfl (lv_at hl 2 rfl) ?_
    refine x_cV (As := [.int x3_13]) (rest := []) (F := []) C0 hw (p_nil _) hl.1 0 4 rfl rfl (c_X4_signAt l E aS h) 1 gX4_readNumbers_X4_signAt rfl ⟨rfl, rfl⟩ (by decide +kernel) ⟨Nat.le_of_ble_eq_true rfl, Nat.le_of_ble_eq_true rfl⟩ rfl rfl (Nat.le_of_ble_eq_true rfl) dX4_readNumbers_85 ⟨Nat.zero_le _, Nat.zero_le _⟩ (fun r_17 v_18 H locs h (hw : mw E A s.heap H locs (cS E aS v_18)) => ?_)
    refine lv_bipush (v := 59) hx hb dX4_readNumbers_88 (by decide) ?_
    refine lv_icmp_ne (tgt := 97) hx hb dX4_readNumbers_90 (by decide) (fun c_19 => ?_) (fun c_19 => ?_)
    · replace h := h.1 c_19
      refine lv_iconst (v := 0) hx hb dX4_readNumbers_97 (by decide) ?_
      exact x_retz C0 rfl v_18 hw h dX4_readNumbers_98
    · replace h := h.2 c_19
      refine lv_iconst (v := 1) hx hb dX4_readNumbers_93 (by decide) ?_
      refine lv_goto (tgt := 98) hx hb dX4_readNumbers_94 (by decide) ?_
      exact x_retz C0 rfl v_18 hw h dX4_readNumbers_98

abbrev rmX4_wordOf : Room := { frames := 0, cells := 0, slots := 0, locals := 0 }
set_option maxRecDepth 100000 in
set_option maxHeartbeats 4000000 in
theorem c_X4_wordOf (l : Launch) (E : EE)    {p0 : Int32} {post : Nat → Prop} (h : s_X4_wordOf p0 post) : KL l E yX4_wordOf wsX4_wordOf rmX4_wordOf [.int p0] ([] : va_W) post  := by
  unfold s_X4_wordOf at h
  refine KL.go (cc := cX4_wordOf) (ret := (some (.object "java/lang/String"))) (maxL := 1) (own := RX4) (by decide) rfl (Nat.le_of_ble_eq_true rfl) rfl (fun p e s m below meth c A ls C0 hw hl => ?_)
  have hx := C0.1
  have hb := C0.2.1
  replace hl : lv_has ls 1 [(0, .int p0)] := hl
  refine lv_iload_n hx hb dX4_wordOf_0 rfl (lv_at hl 0 rfl) ?_
  by_cases c_1 : p0 = 0
  · replace h := h.1 c_1
    refine x_tabIn (tgt := 44) C0 0 c_1 dX4_wordOf_1 (by decide) (by decide) rfl (by decide) ?_
    refine x_ldcS C0 0 (by decide) rfl dX4_wordOf_44 ?_
    exact x_retL C0 0 hw h dX4_wordOf_46
  replace h := h.2
  by_cases c_2 : p0 = 1
  · replace h := h.1 c_2
    refine x_tabIn (tgt := 47) C0 1 c_2 dX4_wordOf_1 (by decide) (by decide) rfl (by decide) ?_
    refine x_ldcS C0 1 (by decide) rfl dX4_wordOf_47 ?_
    exact x_retL C0 1 hw h dX4_wordOf_49
  replace h := h.2
  by_cases c_3 : p0 = 2
  · replace h := h.1 c_3
    refine x_tabIn (tgt := 50) C0 2 c_3 dX4_wordOf_1 (by decide) (by decide) rfl (by decide) ?_
    refine x_ldcS C0 2 (by decide) rfl dX4_wordOf_50 ?_
    exact x_retL C0 2 hw h dX4_wordOf_52
  replace h := h.2
  by_cases c_4 : p0 = 3
  · replace h := h.1 c_4
    refine x_tabIn (tgt := 53) C0 3 c_4 dX4_wordOf_1 (by decide) (by decide) rfl (by decide) ?_
    refine x_ldcS C0 3 (by decide) rfl dX4_wordOf_53 ?_
    exact x_retL C0 3 hw h dX4_wordOf_55
  replace h := h.2
  by_cases c_5 : p0 = 4
  · replace h := h.1 c_5
    refine x_tabIn (tgt := 56) C0 4 c_5 dX4_wordOf_1 (by decide) (by decide) rfl (by decide) ?_
    refine x_ldcS C0 4 (by decide) rfl dX4_wordOf_56 ?_
    exact x_retL C0 4 hw h dX4_wordOf_58
  replace h := h.2
  by_cases c_6 : p0 = 5
  · replace h := h.1 c_6
    refine x_tabIn (tgt := 59) C0 5 c_6 dX4_wordOf_1 (by decide) (by decide) rfl (by decide) ?_
    refine x_ldcS C0 5 (by decide) rfl dX4_wordOf_59 ?_
    exact x_retL C0 5 hw h dX4_wordOf_61
  replace h := h.2
  by_cases c_7 : p0 = 6
  · replace h := h.1 c_7
    refine x_tabIn (tgt := 62) C0 6 c_7 dX4_wordOf_1 (by decide) (by decide) rfl (by decide) ?_
    refine x_ldcS C0 6 (by decide) rfl dX4_wordOf_62 ?_
    exact x_retL C0 6 hw h dX4_wordOf_64
  replace h := h.2
  have cD : p0.toInt < 0 ∨ 6 < p0.toInt := by
    have := ne_toInt (z := 0) (by decide) c_1
    have := ne_toInt (z := 1) (by decide) c_2
    have := ne_toInt (z := 2) (by decide) c_3
    have := ne_toInt (z := 3) (by decide) c_4
    have := ne_toInt (z := 4) (by decide) c_5
    have := ne_toInt (z := 5) (by decide) c_6
    have := ne_toInt (z := 6) (by decide) c_7
    omega
  replace h := h cD
  refine lv_tableOut (tgt := 62) hx hb dX4_wordOf_1 cD (by decide) ?_
  refine x_ldcS C0 6 (by decide) rfl dX4_wordOf_62 ?_
  exact x_retL C0 6 hw h dX4_wordOf_64

abbrev rmX4_readCommand : Room := { frames := 5, cells := 0, slots := 0, locals := 108 }
set_option maxRecDepth 100000 in
set_option maxHeartbeats 4000000 in
theorem w_X4_readCommand_2 {p : Program} {l : Launch} {e : Env} {s : State} {m : MethodId} {below : List Frame} {meth : Method} {c : Code} {E : EE} {A : Nat → Prop} {aS : Nat → Nat} {args : Array Value} (C0 : Cx E p s m args meth c A cX4_readCommand 4 RX4 wsX4_readCommand (some .boolean)) {post : Int32 → V → Prop}  {f1 : Int32} {k0 : Int32 → V → Prop} : ∀ (n : Nat) (x2 : Int32) (v : V), sl_X4_readCommand_2 post f1 k0 n x2 v → ∀ (H : Heap) (locs : List Loc) (ls : Array Slot), mw E A s.heap H locs (cS E aS v) → lv_has ls 4 [(0, .ref (aS 0)), (1, .int f1), (2, .int x2)] → (∀ (x2 : Int32) (v : V) (H : Heap) (locs : List Loc) (ls : Array Slot), k0 x2 v → mw E A s.heap H locs (cS E aS v) → lv_has ls 4 [(0, .ref (aS 0)), (1, .int f1), (2, .int x2)] → W p l e rmX4_readCommand s m args below meth c H locs 0 0 (qI E A post (fun u => cS E aS u) below args s) (F0 m 48 ls [])) → W p l e rmX4_readCommand s m args below meth c H locs 0 0 (qI E A post (fun u => cS E aS u) below args s) (F0 m 2 ls []) := by
  have hx := C0.1
  have hb := C0.2.1
  have hiX4 : ∀ w ∈ wsX40, w ∈ wsX4_readCommand := fun w h => List.mem_cons_of_mem _ (List.mem_append_right _ h)
  intro n
  induction n with
  | zero => intro x2 v h; exact False.elim h
  | succ n ih =>
    intro x2 v h H locs ls hw hl hk0
    replace h : sb_X4_readCommand_2 post f1 k0 (sl_X4_readCommand_2 post f1 k0 n) x2 v := h
    unfold sb_X4_readCommand_2 at h
    refine lv_iload_n hx hb dX4_readCommand_2 rfl (lv_at hl 2 rfl) ?_
    refine lv_bipush (v := 7) hx hb dX4_readCommand_3 (by decide) ?_
    refine lv_icmp_ge (tgt := 48) hx hb dX4_readCommand_5 (by decide) (fun c_13 => ?_) (fun c_13 => ?_)
    · replace h := h.1 c_13
      exact hk0 _ _ _ _ _ h hw (lv_sub hl [0, 1, 2] rfl)
    · replace h := h.2 c_13
      refine lv_iload_n hx hb dX4_readCommand_8 rfl (lv_at hl 2 rfl) ?_
      refine x_cSL (As := [.int x2]) (rest := []) (F := (cS E aS v)) C0 hw (p_non _) hl.1 (c_X4_wordOf l E  h) 1 gX4_readCommand_X4_wordOf rfl ⟨rfl, rfl⟩ (by decide +kernel) ⟨Nat.le_of_ble_eq_true rfl, Nat.le_of_ble_eq_true rfl⟩ rfl rfl (Nat.le_of_ble_eq_true rfl) dX4_readCommand_9 ⟨Nat.zero_le _, Nat.zero_le _⟩ (fun r_1 H locs h (hw : mw E A s.heap H locs (cS E aS v)) => ?_)
      refine lv_astore_n (lv' := [(3, .ref (E.2.2.2.2.1 r_1)), (0, .ref (aS 0)), (1, .int f1), (2, .int x2)]) hx hb dX4_readCommand_12 rfl hl (by decide) rfl (fun ls hl => ?_)
      refine lv_aload_n hx hb dX4_readCommand_13 rfl (lv_at hl 1 rfl) ?_
      refine lv_iload_n hx hb dX4_readCommand_14 rfl (lv_at hl 2 rfl) ?_
      refine lv_aload_n hx hb dX4_readCommand_15 rfl (lv_at hl 0 rfl) ?_
      refine x_cV (As := [.int f1, .ref (E.2.2.2.2.1 r_1)]) (rest := []) (F := []) C0 hw (p_nil _) hl.1 0 4 rfl rfl (c_X4_isWordAt l E aS h) 2 gX4_readCommand_X4_isWordAt rfl ⟨rfl, rfl⟩ (by decide +kernel) ⟨Nat.le_of_ble_eq_true rfl, Nat.le_of_ble_eq_true rfl⟩ rfl rfl (Nat.le_of_ble_eq_true rfl) dX4_readCommand_16 ⟨Nat.zero_le _, Nat.zero_le _⟩ (fun r_2 v_3 H locs h (hw : mw E A s.heap H locs (cS E aS v_3)) => ?_)
      refine lv_if_eq (tgt := 42) hx hb dX4_readCommand_19 (by decide) (fun c_11 => ?_) (fun c_11 => ?_)
      · replace h := h.1 c_11
        refine lv_iinc (v := (x2 + 1)) (lv' := [(2, .int (x2 + 1)), (3, .ref (E.2.2.2.2.1 r_1)), (0, .ref (aS 0)), (1, .int f1)]) hx hb dX4_readCommand_42 hl (k := 3) rfl rfl (by decide) rfl (fun ls hl => ?_)
        refine lv_goto (tgt := 2) hx hb dX4_readCommand_45 (by decide) ?_
        exact ih _ _ h _ _ _ hw (lv_sub hl [2, 3, 0] rfl) hk0
      · replace h := h.2 c_11
        refine lv_aload_n hx hb dX4_readCommand_22 rfl (lv_at hl 1 rfl) ?_
        refine lv_iload_n hx hb dX4_readCommand_23 rfl (lv_at hl 3 rfl) ?_
        refine x_put (ws' := (cS E aS ((sc v_3 0 2 x2)))) C0 hw 4 hiX4 rfl tyX4 tyX4_ok nmX4 0 rfl 2 (by decide) 1 rfl rfl rfl rfl (Nat.le_of_ble_eq_true rfl) rfl dX4_readCommand_24 (fun H locs hw => ?_)
        obtain ⟨v_4, e_v_4⟩ : ∃ z, z = sc v_3 0 2 x2 := ⟨_, rfl⟩
        rw [← e_v_4] at hw
        replace h := h v_4 e_v_4
        refine lv_aload_n hx hb dX4_readCommand_27 rfl (lv_at hl 1 rfl) ?_
        refine lv_iload_n hx hb dX4_readCommand_28 rfl (lv_at hl 2 rfl) ?_
        refine lv_aload_n hx hb dX4_readCommand_29 rfl (lv_at hl 0 rfl) ?_
        obtain ⟨hw7, h⟩ := h
        refine x_cVL (As := []) (rest := [.int f1, .ref (aS 0)]) (F := (cS E aS v_4)) C0 hw (p_non _) hl.1 hw7 (c_J0_length_8abf5 l E  h) 0 gX4_readCommand_J0_length_8abf5 rfl ⟨rfl, rfl⟩ (by decide +kernel) ⟨Nat.le_of_ble_eq_true rfl, Nat.le_of_ble_eq_true rfl⟩ rfl rfl (Nat.le_of_ble_eq_true rfl) dX4_readCommand_30 ⟨Nat.zero_le _, Nat.zero_le _⟩ (fun r_5 _u H locs h (hw : mw E A s.heap H locs (cS E aS v_4)) => ?_)
        refine lv_iadd hx hb dX4_readCommand_33 ?_
        refine lv_iload_n hx hb dX4_readCommand_34 rfl (lv_at hl 3 rfl) ?_
        refine x_cS (As := [.int x2]) (rest := [.int (f1 + r_5), .ref (aS 0)]) (F := (cS E aS v_4)) C0 hw (p_non _) hl.1 (c_X4_howManyNumbers l E  h) 1 gX4_readCommand_X4_howManyNumbers rfl ⟨rfl, rfl⟩ (by decide +kernel) ⟨Nat.le_of_ble_eq_true rfl, Nat.le_of_ble_eq_true rfl⟩ rfl rfl (Nat.le_of_ble_eq_true rfl) dX4_readCommand_35 ⟨Nat.zero_le _, Nat.zero_le _⟩ (fun r_6 _u H locs h (hw : mw E A s.heap H locs (cS E aS v_4)) => ?_)
        refine x_cV (As := [.int (f1 + r_5), .int r_6]) (rest := []) (F := []) C0 hw (p_nil _) hl.1 0 4 rfl rfl (c_X4_readNumbers l E aS h) 2 gX4_readCommand_X4_readNumbers rfl ⟨rfl, rfl⟩ (by decide +kernel) ⟨Nat.le_of_ble_eq_true rfl, Nat.le_of_ble_eq_true rfl⟩ rfl rfl (Nat.le_of_ble_eq_true rfl) dX4_readCommand_38 ⟨Nat.zero_le _, Nat.zero_le _⟩ (fun r_7 v_8 H locs h (hw : mw E A s.heap H locs (cS E aS v_8)) => ?_)
        exact x_retz C0 h.1 v_8 hw h.2 dX4_readCommand_41
set_option maxRecDepth 100000 in
set_option maxHeartbeats 4000000 in
theorem c_X4_readCommand (l : Launch) (E : EE) (aS : Nat → Nat) {v : V}  {p1 : Int32} {post : Int32 → V → Prop} (h : s_X4_readCommand v p1 post) : KI l E yX4_readCommand wsX4_readCommand rmX4_readCommand [.ref (aS 0), .int p1] (cS E aS v) post (fun u => cS E aS u) := by
  unfold s_X4_readCommand at h
  refine KI.go (cc := cX4_readCommand) (ret := (some .boolean)) (maxL := 4) (own := RX4) (by decide) rfl (Nat.le_of_ble_eq_true rfl) rfl (fun p e s m below meth c A ls C0 hw hl => ?_)
  have hx := C0.1
  have hb := C0.2.1
  have hiX4 : ∀ w ∈ wsX40, w ∈ wsX4_readCommand := fun w h => List.mem_cons_of_mem _ (List.mem_append_right _ h)
  replace hl : lv_has ls 4 [(0, .ref (aS 0)), (1, .int p1)] := hl
  refine lv_iconst (v := 0) hx hb dX4_readCommand_0 (by decide) ?_
  refine lv_istore_n (lv' := [(2, .int 0), (0, .ref (aS 0)), (1, .int p1)]) hx hb dX4_readCommand_1 rfl hl (by decide) rfl (fun ls hl => ?_)
  obtain ⟨n_14, h⟩ := h
  refine w_X4_readCommand_2 C0 _ _ _ h _ _ _ hw (lv_sub hl [1, 2, 0] rfl) ?_
  · intro x2_15 v_16 H locs ls h hw hl
    refine lv_iconst (v := 0) hx hb dX4_readCommand_48 (by decide) ?_
    exact x_retz C0 rfl v_16 hw h dX4_readCommand_49

abbrev rmX4_runOn : Room := { frames := 6, cells := 0, slots := 0, locals := 131 }
set_option maxRecDepth 100000 in
set_option maxHeartbeats 4000000 in
theorem w_X4_runOn_9 {p : Program} {l : Launch} {e : Env} {s : State} {m : MethodId} {below : List Frame} {meth : Method} {c : Code} {E : EE} {A : Nat → Prop} {aS : Nat → Nat} {a : Nat → Nat} {args : Array Value} (C0 : Cx E p s m args meth c A cX4_runOn 5 RX4 wsX4_runOn (some .int)) {post : Int32 → V → V → Prop}   {k0 : Int32 → Int32 → V → V → Prop} : ∀ (n : Nat) (x2 : Int32) (x3 : Int32) (v0 : V) (v1 : V), sl_X4_runOn_9 post k0 n x2 x3 v0 v1 → ∀ (H : Heap) (locs : List Loc) (ls : Array Slot), mw E A s.heap H locs (List.flatten [cS E aS v0, cM E a v1]) → lv_has ls 5 [(0, .ref (aS 0)), (1, .ref (a 0)), (2, .int x2), (3, .int x3)] → (∀ (x2 : Int32) (x3 : Int32) (v0 : V) (v1 : V) (H : Heap) (locs : List Loc) (ls : Array Slot), k0 x2 x3 v0 v1 → mw E A s.heap H locs (List.flatten [cS E aS v0, cM E a v1]) → lv_has ls 5 [(0, .ref (aS 0)), (1, .ref (a 0)), (2, .int x2), (3, .int x3)] → W p l e rmX4_runOn s m args below meth c H locs 0 0 (qI E A (fun r (u : V × V) => post r u.1 u.2) (fun (u : V × V) => (List.flatten [cS E aS u.1, cM E a u.2])) below args s) (F0 m 74 ls [])) → W p l e rmX4_runOn s m args below meth c H locs 0 0 (qI E A (fun r (u : V × V) => post r u.1 u.2) (fun (u : V × V) => (List.flatten [cS E aS u.1, cM E a u.2])) below args s) (F0 m 9 ls []) := by
  have hx := C0.1
  have hb := C0.2.1
  have hiX4 : ∀ w ∈ wsX40, w ∈ wsX4_runOn := fun w h => List.mem_cons_of_mem _ (List.mem_append_left _ (List.mem_append_left _ (List.mem_append_left _ (List.mem_append_left _ (List.mem_append_right _ h)))))
  intro n
  induction n with
  | zero => intro x2 x3 v0 v1 h; exact False.elim h
  | succ n ih =>
    intro x2 x3 v0 v1 h H locs ls hw hl hk0
    replace h : sb_X4_runOn_9 post k0 (sl_X4_runOn_9 post k0 n) x2 x3 v0 v1 := h
    unfold sb_X4_runOn_9 at h
    refine lv_iload_n hx hb dX4_runOn_9 rfl (lv_at hl 2 rfl) ?_
    refine lv_aload_n hx hb dX4_runOn_10 rfl (lv_at hl 0 rfl) ?_
    refine x_get C0 hw 4 hiX4 rfl 0 rfl 1 (by decide) 2 rfl rfl dX4_runOn_11 ?_
    refine lv_icmp_ge (tgt := 74) hx hb dX4_runOn_14 (by decide) (fun c_13 => ?_) (fun c_13 => ?_)
    · replace h := h.1 c_13
      exact hk0 _ _ _ _ _ _ _ h hw (lv_sub hl [0, 1, 2, 3] rfl)
    · replace h := h.2 c_13
      refine lv_iload_n hx hb dX4_runOn_17 rfl (lv_at hl 3 rfl) ?_
      refine lv_bipush (v := 60) hx hb dX4_runOn_18 (by decide) ?_
      refine lv_icmp_ge (tgt := 74) hx hb dX4_runOn_20 (by decide) (fun c_12 => ?_) (fun c_12 => ?_)
      · replace h := h.1 c_12
        exact hk0 _ _ _ _ _ _ _ h hw (lv_sub hl [0, 1, 2, 3] rfl)
      · replace h := h.2 c_12
        refine lv_aload_n hx hb dX4_runOn_23 rfl (lv_at hl 0 rfl) ?_
        refine lv_iload_n hx hb dX4_runOn_24 rfl (lv_at hl 2 rfl) ?_
        refine x_cV (As := [.int x2]) (rest := []) (F := (List.flatten [cM E a v1])) C0 hw (p_fl1 (List.Perm.refl _)) hl.1 0 4 rfl rfl (c_X4_readCommand l E aS h) 1 gX4_runOn_X4_readCommand rfl ⟨rfl, rfl⟩ (by decide +kernel) ⟨Nat.le_of_ble_eq_true rfl, Nat.le_of_ble_eq_true rfl⟩ rfl rfl (Nat.le_of_ble_eq_true rfl) dX4_runOn_25 ⟨Nat.zero_le _, Nat.zero_le _⟩ (fun r_2 v_3 H locs h hw => ?_)
        replace hw : mw E A s.heap H locs (List.flatten [cS E aS v_3, cM E a v1]) := hw.perm (p_bk1 (List.Perm.refl _))
        refine lv_if_ne (tgt := 41) hx hb dX4_runOn_28 (by decide) (fun c_11 => ?_) (fun c_11 => ?_)
        · replace h := h.1 c_11
          refine lv_aload_n hx hb dX4_runOn_41 rfl (lv_at hl 0 rfl) ?_
          refine lv_aload_n hx hb dX4_runOn_42 rfl (lv_at hl 1 rfl) ?_
          refine x_cV (As := [.ref (a 0)]) (rest := []) (F := []) C0 hw (p_nil _) hl.1 0 4 rfl rfl (c_X4_perform l E aS a h) 1 gX4_runOn_X4_perform rfl ⟨rfl, rfl⟩ (by decide +kernel) ⟨Nat.le_of_ble_eq_true rfl, Nat.le_of_ble_eq_true rfl⟩ rfl rfl (Nat.le_of_ble_eq_true rfl) dX4_runOn_43 ⟨Nat.zero_le _, Nat.zero_le _⟩ (fun r_4 u_9 H locs h hw => ?_)
          obtain ⟨v_5, v_6⟩ := u_9
          replace hw : mw E A s.heap H locs (List.flatten [cS E aS v_5, cM E a v_6]) := hw.perm (p_nil _).symm
          refine lv_istore (lv' := [(4, .int r_4), (0, .ref (aS 0)), (1, .ref (a 0)), (2, .int x2), (3, .int x3)]) hx hb dX4_runOn_46 hl (by decide) rfl (fun ls hl => ?_)
          refine lv_iload hx hb dX4_runOn_48 (lv_at hl 0 rfl) ?_
          refine lv_if_ge (tgt := 63) hx hb dX4_runOn_50 (by decide) (fun c_8 => ?_) (fun c_8 => ?_)
          · replace h := h.1 c_8
            refine lv_aload_n hx hb dX4_runOn_63 rfl (lv_at hl 1 rfl) ?_
            refine x_get C0 hw 4 hiX4 rfl 0 rfl 4 (by decide) 4 rfl rfl dX4_runOn_64 ?_
            refine lv_istore_n (lv' := [(2, .int (v_5 0 4)), (4, .int r_4), (0, .ref (aS 0)), (1, .ref (a 0)), (3, .int x3)]) hx hb dX4_runOn_67 rfl hl (by decide) rfl (fun ls hl => ?_)
            refine lv_iinc (v := (x3 + 1)) (lv' := [(3, .int (x3 + 1)), (2, .int (v_5 0 4)), (4, .int r_4), (0, .ref (aS 0)), (1, .ref (a 0))]) hx hb dX4_runOn_68 hl (k := 4) rfl rfl (by decide) rfl (fun ls hl => ?_)
            refine lv_goto (tgt := 9) hx hb dX4_runOn_71 (by decide) ?_
            exact ih _ _ _ _ h _ _ _ hw (lv_sub hl [3, 4, 1, 0] rfl) hk0
          · replace h := h.2 c_8
            refine lv_aload_n hx hb dX4_runOn_53 rfl (lv_at hl 1 rfl) ?_
            refine lv_iload_n hx hb dX4_runOn_54 rfl (lv_at hl 3 rfl) ?_
            refine lv_iconst (v := 2) hx hb dX4_runOn_55 (by decide) ?_
            refine lv_iload hx hb dX4_runOn_56 (lv_at hl 0 rfl) ?_
            refine x_cVv (As := [.int x2, .int 2, .int r_4]) (rest := []) (F := (List.flatten [cM E a v_6])) C0 hw (p_fl1 (List.Perm.refl _)) hl.1 0 4 rfl rfl (c_X4_putFault l E aS h) 3 gX4_runOn_X4_putFault rfl ⟨rfl, rfl⟩ (by decide +kernel) ⟨Nat.le_of_ble_eq_true rfl, Nat.le_of_ble_eq_true rfl⟩ rfl rfl (Nat.le_of_ble_eq_true rfl) dX4_runOn_58 ⟨Nat.zero_le _, Nat.zero_le _⟩ (fun v_7 H locs h hw => ?_)
            replace hw : mw E A s.heap H locs (List.flatten [cS E aS v_7, cM E a v_6]) := hw.perm (p_bk1 (List.Perm.refl _))
            refine lv_iload_n hx hb dX4_runOn_61 rfl (lv_at hl 4 rfl) ?_
            exact x_ret C0 ⟨v_7, v_6⟩ hw h dX4_runOn_62
        · replace h := h.2 c_11
          refine lv_aload_n hx hb dX4_runOn_31 rfl (lv_at hl 0 rfl) ?_
          refine lv_iload_n hx hb dX4_runOn_32 rfl (lv_at hl 2 rfl) ?_
          refine lv_iconst (v := 1) hx hb dX4_runOn_33 (by decide) ?_
          refine x_ldc (v := (-10000004)) C0 3 rfl dX4_runOn_34 ?_
          refine x_cVv (As := [.int x2, .int 1, .int (-10000004)]) (rest := []) (F := (List.flatten [cM E a v1])) C0 hw (p_fl1 (List.Perm.refl _)) hl.1 0 4 rfl rfl (c_X4_putFault l E aS h) 3 gX4_runOn_X4_putFault rfl ⟨rfl, rfl⟩ (by decide +kernel) ⟨Nat.le_of_ble_eq_true rfl, Nat.le_of_ble_eq_true rfl⟩ rfl rfl (Nat.le_of_ble_eq_true rfl) dX4_runOn_36 ⟨Nat.zero_le _, Nat.zero_le _⟩ (fun v_10 H locs h hw => ?_)
          replace hw : mw E A s.heap H locs (List.flatten [cS E aS v_10, cM E a v1]) := hw.perm (p_bk1 (List.Perm.refl _))
          refine lv_iload_n hx hb dX4_runOn_39 rfl (lv_at hl 3 rfl) ?_
          exact x_ret C0 ⟨v_10, v1⟩ hw h dX4_runOn_40
set_option maxRecDepth 100000 in
set_option maxHeartbeats 4000000 in
theorem c_X4_runOn (l : Launch) (E : EE) (aS : Nat → Nat) (a : Nat → Nat) {v0 : V} {v1 : V}   {post : Int32 → V → V → Prop} (h : s_X4_runOn v0 v1 post) : KI l E yX4_runOn wsX4_runOn rmX4_runOn [.ref (aS 0), .ref (a 0)] (List.flatten [cS E aS v0, cM E a v1]) (S := V × V) (fun r (u : V × V) => post r u.1 u.2) (fun (u : V × V) => (List.flatten [cS E aS u.1, cM E a u.2])) := by
  unfold s_X4_runOn at h
  refine KI.go (cc := cX4_runOn) (ret := (some .int)) (maxL := 5) (own := RX4) (by decide) rfl (Nat.le_of_ble_eq_true rfl) rfl (fun p e s m below meth c A ls C0 hw hl => ?_)
  have hx := C0.1
  have hb := C0.2.1
  have hiX4 : ∀ w ∈ wsX40, w ∈ wsX4_runOn := fun w h => List.mem_cons_of_mem _ (List.mem_append_left _ (List.mem_append_left _ (List.mem_append_left _ (List.mem_append_left _ (List.mem_append_right _ h)))))
  replace hl : lv_has ls 5 [(0, .ref (aS 0)), (1, .ref (a 0))] := hl
  refine lv_aload_n hx hb dX4_runOn_0 rfl (lv_at hl 0 rfl) ?_
  refine lv_iconst (v := (-1)) hx hb dX4_runOn_1 (by decide) ?_
  refine x_put (ws' := (List.flatten [cS E aS ((sc v0 0 5 (-1))), cM E a v1])) C0 hw 4 hiX4 rfl tyX4 tyX4_ok nmX4 0 rfl 5 (by decide) 1 rfl rfl rfl rfl (Nat.le_of_ble_eq_true rfl) rfl dX4_runOn_2 (fun H locs hw => ?_)
  obtain ⟨v_1, e_v_1⟩ : ∃ z, z = sc v0 0 5 (-1) := ⟨_, rfl⟩
  rw [← e_v_1] at hw
  replace h := h v_1 e_v_1
  refine lv_iconst (v := 0) hx hb dX4_runOn_5 (by decide) ?_
  refine lv_istore_n (lv' := [(2, .int 0), (0, .ref (aS 0)), (1, .ref (a 0))]) hx hb dX4_runOn_6 rfl hl (by decide) rfl (fun ls hl => ?_)
  refine lv_iconst (v := 0) hx hb dX4_runOn_7 (by decide) ?_
  refine lv_istore_n (lv' := [(3, .int 0), (2, .int 0), (0, .ref (aS 0)), (1, .ref (a 0))]) hx hb dX4_runOn_8 rfl hl (by decide) rfl (fun ls hl => ?_)
  obtain ⟨n_14, h⟩ := h
  refine w_X4_runOn_9 C0 _ _ _ _ _ h _ _ _ hw (lv_sub hl [2, 3, 1, 0] rfl) ?_
  · intro x2_15 x3_16 v_17 v_18 H locs ls h hw hl
    refine lv_iload_n hx hb dX4_runOn_74 rfl (lv_at hl 3 rfl) ?_
    exact x_ret C0 ⟨v_17, v_18⟩ hw h dX4_runOn_75

abbrev rmX5_sameGrade : Room := { frames := 1, cells := 0, slots := 0, locals := 22 }
set_option maxRecDepth 100000 in
set_option maxHeartbeats 4000000 in
theorem c_X5_sameGrade (l : Launch) (E : EE) (a : Nat → Nat) {v : V}  {p1 : Int32} {p2 : Int32} {post : Int32 → V → Prop} (h : s_X5_sameGrade v p1 p2 post) : KI l E yX5_sameGrade wsX5_sameGrade rmX5_sameGrade [.ref (a 6), .int p1, .int p2] (cM E a v) post (fun u => cM E a u) := by
  unfold s_X5_sameGrade at h
  refine KI.go (cc := cX5_sameGrade) (ret := (some .boolean)) (maxL := 3) (own := RX5) (by decide) rfl (Nat.le_of_ble_eq_true rfl) rfl (fun p e s m below meth c A ls C0 hw hl => ?_)
  have hx := C0.1
  have hb := C0.2.1
  have hiX5 : ∀ w ∈ wsX50, w ∈ wsX5_sameGrade := fun w h => List.mem_cons_of_mem _ (List.mem_append_right _ h)
  replace hl : lv_has ls 3 [(0, .ref (a 6)), (1, .int p1), (2, .int p2)] := hl
  refine lv_aload_n hx hb dX5_sameGrade_0 rfl (lv_at hl 0 rfl) ?_
  refine lv_iload_n hx hb dX5_sameGrade_1 rfl (lv_at hl 1 rfl) ?_
  refine x_cV (As := [.int p1]) (rest := []) (F := []) C0 hw (p_nil _) hl.1 6 5 rfl rfl (c_X5_sieveOf l E a h) 1 gX5_sameGrade_X5_sieveOf rfl ⟨rfl, rfl⟩ (by decide +kernel) ⟨Nat.le_of_ble_eq_true rfl, Nat.le_of_ble_eq_true rfl⟩ rfl rfl (Nat.le_of_ble_eq_true rfl) dX5_sameGrade_2 ⟨Nat.zero_le _, Nat.zero_le _⟩ (fun r_1 v_2 H locs h (hw : mw E A s.heap H locs (cM E a v_2)) => ?_)
  refine lv_aload_n hx hb dX5_sameGrade_5 rfl (lv_at hl 0 rfl) ?_
  refine lv_iload_n hx hb dX5_sameGrade_6 rfl (lv_at hl 2 rfl) ?_
  refine x_cV (As := [.int p2]) (rest := [.int r_1]) (F := []) C0 hw (p_nil _) hl.1 6 5 rfl rfl (c_X5_sieveOf l E a h) 1 gX5_sameGrade_X5_sieveOf rfl ⟨rfl, rfl⟩ (by decide +kernel) ⟨Nat.le_of_ble_eq_true rfl, Nat.le_of_ble_eq_true rfl⟩ rfl rfl (Nat.le_of_ble_eq_true rfl) dX5_sameGrade_7 ⟨Nat.zero_le _, Nat.zero_le _⟩ (fun r_3 v_4 H locs h (hw : mw E A s.heap H locs (cM E a v_4)) => ?_)
  refine lv_icmp_ne (tgt := 47) hx hb dX5_sameGrade_10 (by decide) (fun c_7 => ?_) (fun c_7 => ?_)
  · replace h := h.1 c_7
    refine lv_iconst (v := 0) hx hb dX5_sameGrade_47 (by decide) ?_
    exact x_retz C0 rfl v_4 hw h dX5_sameGrade_48
  · replace h := h.2 c_7
    refine lv_aload_n hx hb dX5_sameGrade_13 rfl (lv_at hl 0 rfl) ?_
    refine x_get C0 hw 5 hiX5 rfl 6 rfl 2 (by decide) 1 rfl rfl dX5_sameGrade_14 ?_
    refine lv_iload_n hx hb dX5_sameGrade_17 rfl (lv_at hl 1 rfl) ?_
    obtain ⟨hin, h⟩ := h
    refine x_ald C0 hw 8 rfl hin dX5_sameGrade_18 ?_
    refine lv_aload_n hx hb dX5_sameGrade_19 rfl (lv_at hl 0 rfl) ?_
    refine x_get C0 hw 5 hiX5 rfl 6 rfl 2 (by decide) 1 rfl rfl dX5_sameGrade_20 ?_
    refine lv_iload_n hx hb dX5_sameGrade_23 rfl (lv_at hl 2 rfl) ?_
    obtain ⟨hin, h⟩ := h
    refine x_ald C0 hw 8 rfl hin dX5_sameGrade_24 ?_
    refine lv_icmp_ne (tgt := 47) hx hb dX5_sameGrade_25 (by decide) (fun c_6 => ?_) (fun c_6 => ?_)
    · replace h := h.1 c_6
      refine lv_iconst (v := 0) hx hb dX5_sameGrade_47 (by decide) ?_
      exact x_retz C0 rfl v_4 hw h dX5_sameGrade_48
    · replace h := h.2 c_6
      refine lv_aload_n hx hb dX5_sameGrade_28 rfl (lv_at hl 0 rfl) ?_
      refine x_get C0 hw 5 hiX5 rfl 6 rfl 3 (by decide) 2 rfl rfl dX5_sameGrade_29 ?_
      refine lv_iload_n hx hb dX5_sameGrade_32 rfl (lv_at hl 1 rfl) ?_
      obtain ⟨hin, h⟩ := h
      refine x_ald C0 hw 9 rfl hin dX5_sameGrade_33 ?_
      refine lv_aload_n hx hb dX5_sameGrade_34 rfl (lv_at hl 0 rfl) ?_
      refine x_get C0 hw 5 hiX5 rfl 6 rfl 3 (by decide) 2 rfl rfl dX5_sameGrade_35 ?_
      refine lv_iload_n hx hb dX5_sameGrade_38 rfl (lv_at hl 2 rfl) ?_
      obtain ⟨hin, h⟩ := h
      refine x_ald C0 hw 9 rfl hin dX5_sameGrade_39 ?_
      refine lv_icmp_ne (tgt := 47) hx hb dX5_sameGrade_40 (by decide) (fun c_5 => ?_) (fun c_5 => ?_)
      · replace h := h.1 c_5
        refine lv_iconst (v := 0) hx hb dX5_sameGrade_47 (by decide) ?_
        exact x_retz C0 rfl v_4 hw h dX5_sameGrade_48
      · replace h := h.2 c_5
        refine lv_iconst (v := 1) hx hb dX5_sameGrade_43 (by decide) ?_
        refine lv_goto (tgt := 48) hx hb dX5_sameGrade_44 (by decide) ?_
        exact x_retz C0 rfl v_4 hw h dX5_sameGrade_48

abbrev rmX5_hasLikeBefore : Room := { frames := 2, cells := 0, slots := 0, locals := 44 }
set_option maxRecDepth 100000 in
set_option maxHeartbeats 4000000 in
theorem w_X5_hasLikeBefore_2 {p : Program} {l : Launch} {e : Env} {s : State} {m : MethodId} {below : List Frame} {meth : Method} {c : Code} {E : EE} {A : Nat → Prop} {a : Nat → Nat} {args : Array Value} (C0 : Cx E p s m args meth c A cX5_hasLikeBefore 4 RX5 wsX5_hasLikeBefore (some .boolean)) {post : Int32 → V → Prop}  {f1 : Int32} {f2 : Int32} {k0 : Int32 → V → Prop} : ∀ (n : Nat) (x3 : Int32) (v : V), sl_X5_hasLikeBefore_2 post f1 f2 k0 n x3 v → ∀ (H : Heap) (locs : List Loc) (ls : Array Slot), mw E A s.heap H locs (cM E a v) → lv_has ls 4 [(0, .ref (a 6)), (1, .int f1), (2, .int f2), (3, .int x3)] → (∀ (x3 : Int32) (v : V) (H : Heap) (locs : List Loc) (ls : Array Slot), k0 x3 v → mw E A s.heap H locs (cM E a v) → lv_has ls 4 [(0, .ref (a 6)), (1, .int f1), (2, .int f2), (3, .int x3)] → W p l e rmX5_hasLikeBefore s m args below meth c H locs 0 0 (qI E A post (fun u => cM E a u) below args s) (F0 m 34 ls [])) → W p l e rmX5_hasLikeBefore s m args below meth c H locs 0 0 (qI E A post (fun u => cM E a u) below args s) (F0 m 2 ls []) := by
  have hx := C0.1
  have hb := C0.2.1
  have hiX5 : ∀ w ∈ wsX50, w ∈ wsX5_hasLikeBefore := fun w h => List.mem_cons_of_mem _ (List.mem_append_right _ h)
  intro n
  induction n with
  | zero => intro x3 v h; exact False.elim h
  | succ n ih =>
    intro x3 v h H locs ls hw hl hk0
    replace h : sb_X5_hasLikeBefore_2 post f1 f2 k0 (sl_X5_hasLikeBefore_2 post f1 f2 k0 n) x3 v := h
    unfold sb_X5_hasLikeBefore_2 at h
    refine lv_iload_n hx hb dX5_hasLikeBefore_2 rfl (lv_at hl 3 rfl) ?_
    refine lv_iload_n hx hb dX5_hasLikeBefore_3 rfl (lv_at hl 1 rfl) ?_
    refine lv_icmp_ge (tgt := 34) hx hb dX5_hasLikeBefore_4 (by decide) (fun c_5 => ?_) (fun c_5 => ?_)
    · replace h := h.1 c_5
      exact hk0 _ _ _ _ _ h hw (lv_sub hl [0, 1, 2, 3] rfl)
    · replace h := h.2 c_5
      refine lv_aload_n hx hb dX5_hasLikeBefore_7 rfl (lv_at hl 0 rfl) ?_
      refine x_get C0 hw 5 hiX5 rfl 6 rfl 5 (by decide) 1 rfl rfl dX5_hasLikeBefore_8 ?_
      refine lv_iload_n hx hb dX5_hasLikeBefore_11 rfl (lv_at hl 3 rfl) ?_
      obtain ⟨hin, h⟩ := h
      refine x_ald C0 hw 11 rfl hin dX5_hasLikeBefore_12 ?_
      refine lv_iload_n hx hb dX5_hasLikeBefore_13 rfl (lv_at hl 2 rfl) ?_
      refine lv_icmp_ne (tgt := 28) hx hb dX5_hasLikeBefore_14 (by decide) (fun c_4 => ?_) (fun c_4 => ?_)
      · replace h := h.1 c_4
        refine lv_iinc (v := (x3 + 1)) (lv' := [(3, .int (x3 + 1)), (0, .ref (a 6)), (1, .int f1), (2, .int f2)]) hx hb dX5_hasLikeBefore_28 hl (k := 3) rfl rfl (by decide) rfl (fun ls hl => ?_)
        refine lv_goto (tgt := 2) hx hb dX5_hasLikeBefore_31 (by decide) ?_
        exact ih _ _ h _ _ _ hw (lv_sub hl [1, 2, 3, 0] rfl) hk0
      · replace h := h.2 c_4
        refine lv_aload_n hx hb dX5_hasLikeBefore_17 rfl (lv_at hl 0 rfl) ?_
        refine lv_iload_n hx hb dX5_hasLikeBefore_18 rfl (lv_at hl 3 rfl) ?_
        refine lv_iload_n hx hb dX5_hasLikeBefore_19 rfl (lv_at hl 1 rfl) ?_
        refine x_cV (As := [.int x3, .int f1]) (rest := []) (F := []) C0 hw (p_nil _) hl.1 6 5 rfl rfl (c_X5_sameGrade l E a h) 2 gX5_hasLikeBefore_X5_sameGrade rfl ⟨rfl, rfl⟩ (by decide +kernel) ⟨Nat.le_of_ble_eq_true rfl, Nat.le_of_ble_eq_true rfl⟩ rfl rfl (Nat.le_of_ble_eq_true rfl) dX5_hasLikeBefore_20 ⟨Nat.zero_le _, Nat.zero_le _⟩ (fun r_1 v_2 H locs h (hw : mw E A s.heap H locs (cM E a v_2)) => ?_)
        refine lv_if_eq (tgt := 28) hx hb dX5_hasLikeBefore_23 (by decide) (fun c_3 => ?_) (fun c_3 => ?_)
        · replace h := h.1 c_3
          refine lv_iinc (v := (x3 + 1)) (lv' := [(3, .int (x3 + 1)), (0, .ref (a 6)), (1, .int f1), (2, .int f2)]) hx hb dX5_hasLikeBefore_28 hl (k := 3) rfl rfl (by decide) rfl (fun ls hl => ?_)
          refine lv_goto (tgt := 2) hx hb dX5_hasLikeBefore_31 (by decide) ?_
          exact ih _ _ h _ _ _ hw (lv_sub hl [1, 2, 3, 0] rfl) hk0
        · replace h := h.2 c_3
          refine lv_iconst (v := 1) hx hb dX5_hasLikeBefore_26 (by decide) ?_
          exact x_retz C0 rfl v_2 hw h dX5_hasLikeBefore_27
set_option maxRecDepth 100000 in
set_option maxHeartbeats 4000000 in
theorem c_X5_hasLikeBefore (l : Launch) (E : EE) (a : Nat → Nat) {v : V}  {p1 : Int32} {p2 : Int32} {post : Int32 → V → Prop} (h : s_X5_hasLikeBefore v p1 p2 post) : KI l E yX5_hasLikeBefore wsX5_hasLikeBefore rmX5_hasLikeBefore [.ref (a 6), .int p1, .int p2] (cM E a v) post (fun u => cM E a u) := by
  unfold s_X5_hasLikeBefore at h
  refine KI.go (cc := cX5_hasLikeBefore) (ret := (some .boolean)) (maxL := 4) (own := RX5) (by decide) rfl (Nat.le_of_ble_eq_true rfl) rfl (fun p e s m below meth c A ls C0 hw hl => ?_)
  have hx := C0.1
  have hb := C0.2.1
  have hiX5 : ∀ w ∈ wsX50, w ∈ wsX5_hasLikeBefore := fun w h => List.mem_cons_of_mem _ (List.mem_append_right _ h)
  replace hl : lv_has ls 4 [(0, .ref (a 6)), (1, .int p1), (2, .int p2)] := hl
  refine lv_iconst (v := 0) hx hb dX5_hasLikeBefore_0 (by decide) ?_
  refine lv_istore_n (lv' := [(3, .int 0), (0, .ref (a 6)), (1, .int p1), (2, .int p2)]) hx hb dX5_hasLikeBefore_1 rfl hl (by decide) rfl (fun ls hl => ?_)
  obtain ⟨n_6, h⟩ := h
  refine w_X5_hasLikeBefore_2 C0 _ _ _ h _ _ _ hw (lv_sub hl [1, 2, 3, 0] rfl) ?_
  · intro x3_7 v_8 H locs ls h hw hl
    refine lv_iconst (v := 0) hx hb dX5_hasLikeBefore_34 (by decide) ?_
    exact x_retz C0 rfl v_8 hw h dX5_hasLikeBefore_35

abbrev rmX5_unlikeGrades : Room := { frames := 3, cells := 0, slots := 0, locals := 67 }
set_option maxRecDepth 100000 in
set_option maxHeartbeats 4000000 in
theorem w_X5_unlikeGrades_4 {p : Program} {l : Launch} {e : Env} {s : State} {m : MethodId} {below : List Frame} {meth : Method} {c : Code} {E : EE} {A : Nat → Prop} {a : Nat → Nat} {args : Array Value} (C0 : Cx E p s m args meth c A cX5_unlikeGrades 4 RX5 wsX5_unlikeGrades (some .int)) {post : Int32 → V → Prop}  {f1 : Int32} {k0 : Int32 → Int32 → V → Prop} : ∀ (n : Nat) (x2 : Int32) (x3 : Int32) (v : V), sl_X5_unlikeGrades_4 post f1 k0 n x2 x3 v → ∀ (H : Heap) (locs : List Loc) (ls : Array Slot), mw E A s.heap H locs (cM E a v) → lv_has ls 4 [(0, .ref (a 6)), (1, .int f1), (2, .int x2), (3, .int x3)] → (∀ (x2 : Int32) (x3 : Int32) (v : V) (H : Heap) (locs : List Loc) (ls : Array Slot), k0 x2 x3 v → mw E A s.heap H locs (cM E a v) → lv_has ls 4 [(0, .ref (a 6)), (1, .int f1), (2, .int x2), (3, .int x3)] → W p l e rmX5_unlikeGrades s m args below meth c H locs 0 0 (qI E A post (fun u => cM E a u) below args s) (F0 m 40 ls [])) → W p l e rmX5_unlikeGrades s m args below meth c H locs 0 0 (qI E A post (fun u => cM E a u) below args s) (F0 m 4 ls []) := by
  have hx := C0.1
  have hb := C0.2.1
  have hiX5 : ∀ w ∈ wsX50, w ∈ wsX5_unlikeGrades := fun w h => List.mem_cons_of_mem _ (List.mem_append_right _ h)
  intro n
  induction n with
  | zero => intro x2 x3 v h; exact False.elim h
  | succ n ih =>
    intro x2 x3 v h H locs ls hw hl hk0
    replace h : sb_X5_unlikeGrades_4 post f1 k0 (sl_X5_unlikeGrades_4 post f1 k0 n) x2 x3 v := h
    unfold sb_X5_unlikeGrades_4 at h
    refine lv_iload_n hx hb dX5_unlikeGrades_4 rfl (lv_at hl 3 rfl) ?_
    refine lv_aload_n hx hb dX5_unlikeGrades_5 rfl (lv_at hl 0 rfl) ?_
    refine x_get C0 hw 5 hiX5 rfl 6 rfl 0 (by decide) 1 rfl rfl dX5_unlikeGrades_6 ?_
    refine lv_icmp_ge (tgt := 40) hx hb dX5_unlikeGrades_9 (by decide) (fun c_5 => ?_) (fun c_5 => ?_)
    · replace h := h.1 c_5
      exact hk0 _ _ _ _ _ _ h hw (lv_sub hl [0, 1, 2, 3] rfl)
    · replace h := h.2 c_5
      refine lv_aload_n hx hb dX5_unlikeGrades_12 rfl (lv_at hl 0 rfl) ?_
      refine x_get C0 hw 5 hiX5 rfl 6 rfl 5 (by decide) 2 rfl rfl dX5_unlikeGrades_13 ?_
      refine lv_iload_n hx hb dX5_unlikeGrades_16 rfl (lv_at hl 3 rfl) ?_
      obtain ⟨hin, h⟩ := h
      refine x_ald C0 hw 11 rfl hin dX5_unlikeGrades_17 ?_
      refine lv_iload_n hx hb dX5_unlikeGrades_18 rfl (lv_at hl 1 rfl) ?_
      refine lv_icmp_ne (tgt := 34) hx hb dX5_unlikeGrades_19 (by decide) (fun c_4 => ?_) (fun c_4 => ?_)
      · replace h := h.1 c_4
        refine lv_iinc (v := (x3 + 1)) (lv' := [(3, .int (x3 + 1)), (0, .ref (a 6)), (1, .int f1), (2, .int x2)]) hx hb dX5_unlikeGrades_34 hl (k := 3) rfl rfl (by decide) rfl (fun ls hl => ?_)
        refine lv_goto (tgt := 4) hx hb dX5_unlikeGrades_37 (by decide) ?_
        exact ih _ _ _ h _ _ _ hw (lv_sub hl [1, 2, 3, 0] rfl) hk0
      · replace h := h.2 c_4
        refine lv_aload_n hx hb dX5_unlikeGrades_22 rfl (lv_at hl 0 rfl) ?_
        refine lv_iload_n hx hb dX5_unlikeGrades_23 rfl (lv_at hl 3 rfl) ?_
        refine lv_iload_n hx hb dX5_unlikeGrades_24 rfl (lv_at hl 1 rfl) ?_
        refine x_cV (As := [.int x3, .int f1]) (rest := []) (F := []) C0 hw (p_nil _) hl.1 6 5 rfl rfl (c_X5_hasLikeBefore l E a h) 2 gX5_unlikeGrades_X5_hasLikeBefore rfl ⟨rfl, rfl⟩ (by decide +kernel) ⟨Nat.le_of_ble_eq_true rfl, Nat.le_of_ble_eq_true rfl⟩ rfl rfl (Nat.le_of_ble_eq_true rfl) dX5_unlikeGrades_25 ⟨Nat.zero_le _, Nat.zero_le _⟩ (fun r_1 v_2 H locs h (hw : mw E A s.heap H locs (cM E a v_2)) => ?_)
        refine lv_if_ne (tgt := 34) hx hb dX5_unlikeGrades_28 (by decide) (fun c_3 => ?_) (fun c_3 => ?_)
        · replace h := h.1 c_3
          refine lv_iinc (v := (x3 + 1)) (lv' := [(3, .int (x3 + 1)), (0, .ref (a 6)), (1, .int f1), (2, .int x2)]) hx hb dX5_unlikeGrades_34 hl (k := 3) rfl rfl (by decide) rfl (fun ls hl => ?_)
          refine lv_goto (tgt := 4) hx hb dX5_unlikeGrades_37 (by decide) ?_
          exact ih _ _ _ h _ _ _ hw (lv_sub hl [1, 2, 3, 0] rfl) hk0
        · replace h := h.2 c_3
          refine lv_iinc (v := (x2 + 1)) (lv' := [(2, .int (x2 + 1)), (0, .ref (a 6)), (1, .int f1), (3, .int x3)]) hx hb dX5_unlikeGrades_31 hl (k := 2) rfl rfl (by decide) rfl (fun ls hl => ?_)
          refine lv_iinc (v := (x3 + 1)) (lv' := [(3, .int (x3 + 1)), (2, .int (x2 + 1)), (0, .ref (a 6)), (1, .int f1)]) hx hb dX5_unlikeGrades_34 hl (k := 3) rfl rfl (by decide) rfl (fun ls hl => ?_)
          refine lv_goto (tgt := 4) hx hb dX5_unlikeGrades_37 (by decide) ?_
          exact ih _ _ _ h _ _ _ hw (lv_sub hl [2, 3, 1, 0] rfl) hk0
set_option maxRecDepth 100000 in
set_option maxHeartbeats 4000000 in
theorem c_X5_unlikeGrades (l : Launch) (E : EE) (a : Nat → Nat) {v : V}  {p1 : Int32} {post : Int32 → V → Prop} (h : s_X5_unlikeGrades v p1 post) : KI l E yX5_unlikeGrades wsX5_unlikeGrades rmX5_unlikeGrades [.ref (a 6), .int p1] (cM E a v) post (fun u => cM E a u) := by
  unfold s_X5_unlikeGrades at h
  refine KI.go (cc := cX5_unlikeGrades) (ret := (some .int)) (maxL := 4) (own := RX5) (by decide) rfl (Nat.le_of_ble_eq_true rfl) rfl (fun p e s m below meth c A ls C0 hw hl => ?_)
  have hx := C0.1
  have hb := C0.2.1
  have hiX5 : ∀ w ∈ wsX50, w ∈ wsX5_unlikeGrades := fun w h => List.mem_cons_of_mem _ (List.mem_append_right _ h)
  replace hl : lv_has ls 4 [(0, .ref (a 6)), (1, .int p1)] := hl
  refine lv_iconst (v := 0) hx hb dX5_unlikeGrades_0 (by decide) ?_
  refine lv_istore_n (lv' := [(2, .int 0), (0, .ref (a 6)), (1, .int p1)]) hx hb dX5_unlikeGrades_1 rfl hl (by decide) rfl (fun ls hl => ?_)
  refine lv_iconst (v := 0) hx hb dX5_unlikeGrades_2 (by decide) ?_
  refine lv_istore_n (lv' := [(3, .int 0), (2, .int 0), (0, .ref (a 6)), (1, .int p1)]) hx hb dX5_unlikeGrades_3 rfl hl (by decide) rfl (fun ls hl => ?_)
  obtain ⟨n_6, h⟩ := h
  refine w_X5_unlikeGrades_4 C0 _ _ _ _ h _ _ _ hw (lv_sub hl [2, 3, 1, 0] rfl) ?_
  · intro x2_7 x3_8 v_9 H locs ls h hw hl
    refine lv_iload_n hx hb dX5_unlikeGrades_40 rfl (lv_at hl 2 rfl) ?_
    exact x_ret C0 v_9 hw h dX5_unlikeGrades_41

abbrev rmX6_recorded : Room := { frames := 4, cells := 0, slots := 0, locals := 90 }
set_option maxRecDepth 100000 in
set_option maxHeartbeats 4000000 in
theorem c_X6_recorded (l : Launch) (E : EE) (aG : Nat → Nat) (a0 : Nat → Nat) (a1 : Nat → Nat) (a2 : Nat → Nat) (a3 : Nat → Nat) (aH : Nat → Nat) (h0 : Nat → Nat) (h1 : Nat → Nat) (h2 : Nat → Nat) (h3 : Nat → Nat) (aS : Nat → Nat) {v0 : V} {v1 : V} {v2 : V} {v3 : V} {v4 : V} {v5 : V} {v6 : V}  {p1 : Int32} {post : Int32 → V → V → V → V → V → V → V → Prop} (h : s_X6_recorded v0 v1 v2 v3 v4 v5 v6 p1 post) : KI l E yX6_recorded wsX6_recorded rmX6_recorded [.ref (aG 0), .int p1] (List.flatten [cG aG (a0 0) (a1 0) (a2 0) (a3 0) (aH 0) (aS 0) v0, cM E a1 v1, cH E aH (h0 0) (h1 0) (h2 0) (h3 0) v2, cM E h0 v3, cM E h1 v4, cM E h2 v5, cM E h3 v6]) (S := V × V × V × V × V × V × V) (fun r (u : V × V × V × V × V × V × V) => post r u.1 u.2.1 u.2.2.1 u.2.2.2.1 u.2.2.2.2.1 u.2.2.2.2.2.1 u.2.2.2.2.2.2) (fun (u : V × V × V × V × V × V × V) => (List.flatten [cG aG (a0 0) (a1 0) (a2 0) (a3 0) (aH 0) (aS 0) u.1, cM E a1 u.2.1, cH E aH (h0 0) (h1 0) (h2 0) (h3 0) u.2.2.1, cM E h0 u.2.2.2.1, cM E h1 u.2.2.2.2.1, cM E h2 u.2.2.2.2.2.1, cM E h3 u.2.2.2.2.2.2])) := by
  unfold s_X6_recorded at h
  refine KI.go (cc := cX6_recorded) (ret := (some .int)) (maxL := 2) (own := RX6) (by decide) rfl (Nat.le_of_ble_eq_true rfl) rfl (fun p e s m below meth c A ls C0 hw hl => ?_)
  have hx := C0.1
  have hb := C0.2.1
  have hiX6 : ∀ w ∈ wsX60, w ∈ wsX6_recorded := fun w h => List.mem_cons_of_mem _ (List.mem_append_left _ (List.mem_append_left _ (List.mem_append_left _ (List.mem_append_left _ (List.mem_append_left _ (List.mem_append_right _ h))))))
  replace hl : lv_has ls 2 [(0, .ref (aG 0)), (1, .int p1)] := hl
  refine lv_iload_n hx hb dX6_recorded_0 rfl (lv_at hl 1 rfl) ?_
  refine lv_if_lt (tgt := 15) hx hb dX6_recorded_1 (by decide) (fun c_8 => ?_) (fun c_8 => ?_)
  · replace h := h.1 c_8
    refine lv_iload_n hx hb dX6_recorded_15 rfl (lv_at hl 1 rfl) ?_
    exact x_ret C0 ⟨v0, v1, v2, v3, v4, v5, v6⟩ hw h dX6_recorded_16
  · replace h := h.2 c_8
    refine lv_aload_n hx hb dX6_recorded_4 rfl (lv_at hl 0 rfl) ?_
    refine x_get C0 hw 6 hiX6 rfl 0 rfl 4 (by decide) 1 rfl rfl dX6_recorded_5 ?_
    refine lv_aload_n hx hb dX6_recorded_8 rfl (lv_at hl 0 rfl) ?_
    refine x_get C0 hw 6 hiX6 rfl 0 rfl 1 (by decide) 2 rfl rfl dX6_recorded_9 ?_
    refine x_cVv (As := [.ref (a1 0)]) (rest := []) (F := (List.flatten [cG aG (a0 0) (a1 0) (a2 0) (a3 0) (aH 0) (aS 0) v0])) C0 hw (p_fl (ds := [cH E aH (h0 0) (h1 0) (h2 0) (h3 0) v2, cM E h0 v3, cM E h1 v4, cM E h2 v5, cM E h3 v6, cM E a1 v1]) ((p_pk _ 2 _ rfl).trans (List.Perm.cons _ ((p_pk _ 2 _ rfl).trans (List.Perm.cons _ ((p_pk _ 2 _ rfl).trans (List.Perm.cons _ ((p_pk _ 2 _ rfl).trans (List.Perm.cons _ ((p_pk _ 2 _ rfl).trans (List.Perm.cons _ ((p_pk _ 1 _ rfl).trans (List.Perm.cons _ (List.Perm.refl _)))))))))))))) hl.1 24 0 rfl rfl (c_X0_push l E aH h0 h1 h2 h3 a1 h) 1 gX6_recorded_X0_push rfl ⟨rfl, rfl⟩ (by decide +kernel) ⟨Nat.le_of_ble_eq_true rfl, Nat.le_of_ble_eq_true rfl⟩ rfl rfl (Nat.le_of_ble_eq_true rfl) dX6_recorded_12 ⟨Nat.zero_le _, Nat.zero_le _⟩ (fun u_7 H locs h hw => ?_)
    obtain ⟨v_1, v_2, v_3, v_4, v_5, v_6⟩ := u_7
    replace hw : mw E A s.heap H locs (List.flatten [cG aG (a0 0) (a1 0) (a2 0) (a3 0) (aH 0) (aS 0) v0, cM E a1 v_6, cH E aH (h0 0) (h1 0) (h2 0) (h3 0) v_1, cM E h0 v_2, cM E h1 v_3, cM E h2 v_4, cM E h3 v_5]) := hw.perm (p_bk (ds := [cH E aH (h0 0) (h1 0) (h2 0) (h3 0) v_1, cM E h0 v_2, cM E h1 v_3, cM E h2 v_4, cM E h3 v_5, cM E a1 v_6]) ((p_pk _ 2 _ rfl).trans (List.Perm.cons _ ((p_pk _ 2 _ rfl).trans (List.Perm.cons _ ((p_pk _ 2 _ rfl).trans (List.Perm.cons _ ((p_pk _ 2 _ rfl).trans (List.Perm.cons _ ((p_pk _ 2 _ rfl).trans (List.Perm.cons _ ((p_pk _ 1 _ rfl).trans (List.Perm.cons _ (List.Perm.refl _))))))))))))))
    refine lv_iload_n hx hb dX6_recorded_15 rfl (lv_at hl 1 rfl) ?_
    exact x_ret C0 ⟨v0, v_6, v_1, v_2, v_3, v_4, v_5⟩ hw h dX6_recorded_16

abbrev rmX6_dealer : Room := { frames := 5, cells := 0, slots := 0, locals := 111 }
set_option maxRecDepth 100000 in
set_option maxHeartbeats 4000000 in
theorem c_X6_dealer (l : Launch) (E : EE) (aG : Nat → Nat) (a0 : Nat → Nat) (a1 : Nat → Nat) (a2 : Nat → Nat) (a3 : Nat → Nat) (aH : Nat → Nat) (h0 : Nat → Nat) (h1 : Nat → Nat) (h2 : Nat → Nat) (h3 : Nat → Nat) (aS : Nat → Nat) {v0 : V} {v1 : V} {v2 : V} {v3 : V} {v4 : V} {v5 : V} {v6 : V} {v7 : V}   {post : Int32 → V → V → V → V → V → V → V → V → Prop} (h : s_X6_dealer v0 v1 v2 v3 v4 v5 v6 v7 post) : KI l E yX6_dealer wsX6_dealer rmX6_dealer [.ref (aG 0)] (List.flatten [cG aG (a0 0) (a1 0) (a2 0) (a3 0) (aH 0) (aS 0) v0, cM E a0 v1, cM E a1 v2, cH E aH (h0 0) (h1 0) (h2 0) (h3 0) v3, cM E h0 v4, cM E h1 v5, cM E h2 v6, cM E h3 v7]) (S := V × V × V × V × V × V × V × V) (fun r (u : V × V × V × V × V × V × V × V) => post r u.1 u.2.1 u.2.2.1 u.2.2.2.1 u.2.2.2.2.1 u.2.2.2.2.2.1 u.2.2.2.2.2.2.1 u.2.2.2.2.2.2.2) (fun (u : V × V × V × V × V × V × V × V) => (List.flatten [cG aG (a0 0) (a1 0) (a2 0) (a3 0) (aH 0) (aS 0) u.1, cM E a0 u.2.1, cM E a1 u.2.2.1, cH E aH (h0 0) (h1 0) (h2 0) (h3 0) u.2.2.2.1, cM E h0 u.2.2.2.2.1, cM E h1 u.2.2.2.2.2.1, cM E h2 u.2.2.2.2.2.2.1, cM E h3 u.2.2.2.2.2.2.2])) := by
  unfold s_X6_dealer at h
  refine KI.go (cc := cX6_dealer) (ret := (some .int)) (maxL := 1) (own := RX6) (by decide) rfl (Nat.le_of_ble_eq_true rfl) rfl (fun p e s m below meth c A ls C0 hw hl => ?_)
  have hx := C0.1
  have hb := C0.2.1
  have hiX6 : ∀ w ∈ wsX60, w ∈ wsX6_dealer := fun w h => List.mem_cons_of_mem _ (List.mem_append_left _ (List.mem_append_left _ (List.mem_append_left _ (List.mem_append_left _ (List.mem_append_left _ (List.mem_append_right _ h))))))
  replace hl : lv_has ls 1 [(0, .ref (aG 0))] := hl
  refine lv_aload_n hx hb dX6_dealer_0 rfl (lv_at hl 0 rfl) ?_
  refine x_get C0 hw 6 hiX6 rfl 0 rfl 1 (by decide) 1 rfl rfl dX6_dealer_1 ?_
  refine lv_aload_n hx hb dX6_dealer_4 rfl (lv_at hl 0 rfl) ?_
  refine x_get C0 hw 6 hiX6 rfl 0 rfl 0 (by decide) 2 rfl rfl dX6_dealer_5 ?_
  refine x_cVv (As := [.ref (a0 0)]) (rest := []) (F := (List.flatten [cG aG (a0 0) (a1 0) (a2 0) (a3 0) (aH 0) (aS 0) v0, cH E aH (h0 0) (h1 0) (h2 0) (h3 0) v3, cM E h0 v4, cM E h1 v5, cM E h2 v6, cM E h3 v7])) C0 hw (p_fl (ds := [cM E a1 v2, cM E a0 v1]) ((p_pk _ 2 _ rfl).trans (List.Perm.cons _ ((p_pk _ 1 _ rfl).trans (List.Perm.cons _ (List.Perm.refl _)))))) hl.1 24 1 rfl rfl (c_X1_copyFrom l E a1 a0 h) 1 gX6_dealer_X1_copyFrom rfl ⟨rfl, rfl⟩ (by decide +kernel) ⟨Nat.le_of_ble_eq_true rfl, Nat.le_of_ble_eq_true rfl⟩ rfl rfl (Nat.le_of_ble_eq_true rfl) dX6_dealer_8 ⟨Nat.zero_le _, Nat.zero_le _⟩ (fun u_14 H locs h hw => ?_)
  obtain ⟨v_1, v_2⟩ := u_14
  replace hw : mw E A s.heap H locs (List.flatten [cG aG (a0 0) (a1 0) (a2 0) (a3 0) (aH 0) (aS 0) v0, cM E a0 v_2, cM E a1 v_1, cH E aH (h0 0) (h1 0) (h2 0) (h3 0) v3, cM E h0 v4, cM E h1 v5, cM E h2 v6, cM E h3 v7]) := hw.perm (p_bk (ds := [cM E a1 v_1, cM E a0 v_2]) ((p_pk _ 2 _ rfl).trans (List.Perm.cons _ ((p_pk _ 1 _ rfl).trans (List.Perm.cons _ (List.Perm.refl _))))))
  refine lv_aload_n hx hb dX6_dealer_11 rfl (lv_at hl 0 rfl) ?_
  refine lv_aload_n hx hb dX6_dealer_12 rfl (lv_at hl 0 rfl) ?_
  refine x_get C0 hw 6 hiX6 rfl 0 rfl 0 (by decide) 2 rfl rfl dX6_dealer_13 ?_
  refine x_cV (As := []) (rest := [.ref (aG 0)]) (F := (List.flatten [cG aG (a0 0) (a1 0) (a2 0) (a3 0) (aH 0) (aS 0) v0, cM E a1 v_1, cH E aH (h0 0) (h1 0) (h2 0) (h3 0) v3, cM E h0 v4, cM E h1 v5, cM E h2 v6, cM E h3 v7])) C0 hw (p_fl1 ((p_pk _ 1 _ rfl).trans (List.Perm.cons _ (List.Perm.refl _)))) hl.1 1 1 rfl rfl (c_X1_addDealer l E a0 h) 0 gX6_dealer_X1_addDealer rfl ⟨rfl, rfl⟩ (by decide +kernel) ⟨Nat.le_of_ble_eq_true rfl, Nat.le_of_ble_eq_true rfl⟩ rfl rfl (Nat.le_of_ble_eq_true rfl) dX6_dealer_16 ⟨Nat.zero_le _, Nat.zero_le _⟩ (fun r_3 v_4 H locs h hw => ?_)
  replace hw : mw E A s.heap H locs (List.flatten [cG aG (a0 0) (a1 0) (a2 0) (a3 0) (aH 0) (aS 0) v0, cM E a0 v_4, cM E a1 v_1, cH E aH (h0 0) (h1 0) (h2 0) (h3 0) v3, cM E h0 v4, cM E h1 v5, cM E h2 v6, cM E h3 v7]) := hw.perm (p_bk1 ((p_pk _ 1 _ rfl).trans (List.Perm.cons _ (List.Perm.refl _))))
  refine x_cV (As := [.int r_3]) (rest := []) (F := (List.flatten [cM E a0 v_4])) C0 hw (p_fl (ds := [cG aG (a0 0) (a1 0) (a2 0) (a3 0) (aH 0) (aS 0) v0, cM E a1 v_1, cH E aH (h0 0) (h1 0) (h2 0) (h3 0) v3, cM E h0 v4, cM E h1 v5, cM E h2 v6, cM E h3 v7]) ((p_pk _ 0 _ rfl).trans (List.Perm.cons _ ((p_pk _ 1 _ rfl).trans (List.Perm.cons _ ((p_pk _ 1 _ rfl).trans (List.Perm.cons _ ((p_pk _ 1 _ rfl).trans (List.Perm.cons _ ((p_pk _ 1 _ rfl).trans (List.Perm.cons _ ((p_pk _ 1 _ rfl).trans (List.Perm.cons _ ((p_pk _ 1 _ rfl).trans (List.Perm.cons _ (List.Perm.refl _)))))))))))))))) hl.1 0 6 rfl rfl (c_X6_recorded l E aG a0 a1 a2 a3 aH h0 h1 h2 h3 aS h) 1 gX6_dealer_X6_recorded rfl ⟨rfl, rfl⟩ (by decide +kernel) ⟨Nat.le_of_ble_eq_true rfl, Nat.le_of_ble_eq_true rfl⟩ rfl rfl (Nat.le_of_ble_eq_true rfl) dX6_dealer_19 ⟨Nat.zero_le _, Nat.zero_le _⟩ (fun r_5 u_13 H locs h hw => ?_)
  obtain ⟨v_6, v_7, v_8, v_9, v_10, v_11, v_12⟩ := u_13
  replace hw : mw E A s.heap H locs (List.flatten [cG aG (a0 0) (a1 0) (a2 0) (a3 0) (aH 0) (aS 0) v_6, cM E a0 v_4, cM E a1 v_7, cH E aH (h0 0) (h1 0) (h2 0) (h3 0) v_8, cM E h0 v_9, cM E h1 v_10, cM E h2 v_11, cM E h3 v_12]) := hw.perm (p_bk (ds := [cG aG (a0 0) (a1 0) (a2 0) (a3 0) (aH 0) (aS 0) v_6, cM E a1 v_7, cH E aH (h0 0) (h1 0) (h2 0) (h3 0) v_8, cM E h0 v_9, cM E h1 v_10, cM E h2 v_11, cM E h3 v_12]) ((p_pk _ 0 _ rfl).trans (List.Perm.cons _ ((p_pk _ 1 _ rfl).trans (List.Perm.cons _ ((p_pk _ 1 _ rfl).trans (List.Perm.cons _ ((p_pk _ 1 _ rfl).trans (List.Perm.cons _ ((p_pk _ 1 _ rfl).trans (List.Perm.cons _ ((p_pk _ 1 _ rfl).trans (List.Perm.cons _ ((p_pk _ 1 _ rfl).trans (List.Perm.cons _ (List.Perm.refl _))))))))))))))))
  exact x_ret C0 ⟨v_6, v_4, v_7, v_8, v_9, v_10, v_11, v_12⟩ hw h dX6_dealer_22

abbrev rmX6_stone : Room := { frames := 5, cells := 0, slots := 0, locals := 111 }
set_option maxRecDepth 100000 in
set_option maxHeartbeats 4000000 in
theorem c_X6_stone (l : Launch) (E : EE) (aG : Nat → Nat) (a0 : Nat → Nat) (a1 : Nat → Nat) (a2 : Nat → Nat) (a3 : Nat → Nat) (aH : Nat → Nat) (h0 : Nat → Nat) (h1 : Nat → Nat) (h2 : Nat → Nat) (h3 : Nat → Nat) (aS : Nat → Nat) {v0 : V} {v1 : V} {v2 : V} {v3 : V} {v4 : V} {v5 : V} {v6 : V} {v7 : V}  {p1 : Int32} {p2 : Int32} {p3 : Int32} {p4 : Int32} {post : Int32 → V → V → V → V → V → V → V → V → Prop} (h : s_X6_stone v0 v1 v2 v3 v4 v5 v6 v7 p1 p2 p3 p4 post) : KI l E yX6_stone wsX6_stone rmX6_stone [.ref (aG 0), .int p1, .int p2, .int p3, .int p4] (List.flatten [cG aG (a0 0) (a1 0) (a2 0) (a3 0) (aH 0) (aS 0) v0, cM E a0 v1, cM E a1 v2, cH E aH (h0 0) (h1 0) (h2 0) (h3 0) v3, cM E h0 v4, cM E h1 v5, cM E h2 v6, cM E h3 v7]) (S := V × V × V × V × V × V × V × V) (fun r (u : V × V × V × V × V × V × V × V) => post r u.1 u.2.1 u.2.2.1 u.2.2.2.1 u.2.2.2.2.1 u.2.2.2.2.2.1 u.2.2.2.2.2.2.1 u.2.2.2.2.2.2.2) (fun (u : V × V × V × V × V × V × V × V) => (List.flatten [cG aG (a0 0) (a1 0) (a2 0) (a3 0) (aH 0) (aS 0) u.1, cM E a0 u.2.1, cM E a1 u.2.2.1, cH E aH (h0 0) (h1 0) (h2 0) (h3 0) u.2.2.2.1, cM E h0 u.2.2.2.2.1, cM E h1 u.2.2.2.2.2.1, cM E h2 u.2.2.2.2.2.2.1, cM E h3 u.2.2.2.2.2.2.2])) := by
  unfold s_X6_stone at h
  refine KI.go (cc := cX6_stone) (ret := (some .int)) (maxL := 5) (own := RX6) (by decide) rfl (Nat.le_of_ble_eq_true rfl) rfl (fun p e s m below meth c A ls C0 hw hl => ?_)
  have hx := C0.1
  have hb := C0.2.1
  have hiX6 : ∀ w ∈ wsX60, w ∈ wsX6_stone := fun w h => List.mem_cons_of_mem _ (List.mem_append_left _ (List.mem_append_left _ (List.mem_append_left _ (List.mem_append_left _ (List.mem_append_left _ (List.mem_append_right _ h))))))
  replace hl : lv_has ls 5 [(0, .ref (aG 0)), (1, .int p1), (2, .int p2), (3, .int p3), (4, .int p4)] := hl
  refine lv_aload_n hx hb dX6_stone_0 rfl (lv_at hl 0 rfl) ?_
  refine x_get C0 hw 6 hiX6 rfl 0 rfl 1 (by decide) 1 rfl rfl dX6_stone_1 ?_
  refine lv_aload_n hx hb dX6_stone_4 rfl (lv_at hl 0 rfl) ?_
  refine x_get C0 hw 6 hiX6 rfl 0 rfl 0 (by decide) 2 rfl rfl dX6_stone_5 ?_
  refine x_cVv (As := [.ref (a0 0)]) (rest := []) (F := (List.flatten [cG aG (a0 0) (a1 0) (a2 0) (a3 0) (aH 0) (aS 0) v0, cH E aH (h0 0) (h1 0) (h2 0) (h3 0) v3, cM E h0 v4, cM E h1 v5, cM E h2 v6, cM E h3 v7])) C0 hw (p_fl (ds := [cM E a1 v2, cM E a0 v1]) ((p_pk _ 2 _ rfl).trans (List.Perm.cons _ ((p_pk _ 1 _ rfl).trans (List.Perm.cons _ (List.Perm.refl _)))))) hl.1 24 1 rfl rfl (c_X1_copyFrom l E a1 a0 h) 1 gX6_stone_X1_copyFrom rfl ⟨rfl, rfl⟩ (by decide +kernel) ⟨Nat.le_of_ble_eq_true rfl, Nat.le_of_ble_eq_true rfl⟩ rfl rfl (Nat.le_of_ble_eq_true rfl) dX6_stone_8 ⟨Nat.zero_le _, Nat.zero_le _⟩ (fun u_14 H locs h hw => ?_)
  obtain ⟨v_1, v_2⟩ := u_14
  replace hw : mw E A s.heap H locs (List.flatten [cG aG (a0 0) (a1 0) (a2 0) (a3 0) (aH 0) (aS 0) v0, cM E a0 v_2, cM E a1 v_1, cH E aH (h0 0) (h1 0) (h2 0) (h3 0) v3, cM E h0 v4, cM E h1 v5, cM E h2 v6, cM E h3 v7]) := hw.perm (p_bk (ds := [cM E a1 v_1, cM E a0 v_2]) ((p_pk _ 2 _ rfl).trans (List.Perm.cons _ ((p_pk _ 1 _ rfl).trans (List.Perm.cons _ (List.Perm.refl _))))))
  refine lv_aload_n hx hb dX6_stone_11 rfl (lv_at hl 0 rfl) ?_
  refine lv_aload_n hx hb dX6_stone_12 rfl (lv_at hl 0 rfl) ?_
  refine x_get C0 hw 6 hiX6 rfl 0 rfl 0 (by decide) 2 rfl rfl dX6_stone_13 ?_
  refine lv_iload_n hx hb dX6_stone_16 rfl (lv_at hl 1 rfl) ?_
  refine lv_iload_n hx hb dX6_stone_17 rfl (lv_at hl 2 rfl) ?_
  refine lv_iload_n hx hb dX6_stone_18 rfl (lv_at hl 3 rfl) ?_
  refine lv_iload hx hb dX6_stone_19 (lv_at hl 4 rfl) ?_
  refine x_cV (As := [.int p1, .int p2, .int p3, .int p4]) (rest := [.ref (aG 0)]) (F := (List.flatten [cG aG (a0 0) (a1 0) (a2 0) (a3 0) (aH 0) (aS 0) v0, cM E a1 v_1, cH E aH (h0 0) (h1 0) (h2 0) (h3 0) v3, cM E h0 v4, cM E h1 v5, cM E h2 v6, cM E h3 v7])) C0 hw (p_fl1 ((p_pk _ 1 _ rfl).trans (List.Perm.cons _ (List.Perm.refl _)))) hl.1 1 1 rfl rfl (c_X1_addStone l E a0 h) 4 gX6_stone_X1_addStone rfl ⟨rfl, rfl⟩ (by decide +kernel) ⟨Nat.le_of_ble_eq_true rfl, Nat.le_of_ble_eq_true rfl⟩ rfl rfl (Nat.le_of_ble_eq_true rfl) dX6_stone_21 ⟨Nat.zero_le _, Nat.zero_le _⟩ (fun r_3 v_4 H locs h hw => ?_)
  replace hw : mw E A s.heap H locs (List.flatten [cG aG (a0 0) (a1 0) (a2 0) (a3 0) (aH 0) (aS 0) v0, cM E a0 v_4, cM E a1 v_1, cH E aH (h0 0) (h1 0) (h2 0) (h3 0) v3, cM E h0 v4, cM E h1 v5, cM E h2 v6, cM E h3 v7]) := hw.perm (p_bk1 ((p_pk _ 1 _ rfl).trans (List.Perm.cons _ (List.Perm.refl _))))
  refine x_cV (As := [.int r_3]) (rest := []) (F := (List.flatten [cM E a0 v_4])) C0 hw (p_fl (ds := [cG aG (a0 0) (a1 0) (a2 0) (a3 0) (aH 0) (aS 0) v0, cM E a1 v_1, cH E aH (h0 0) (h1 0) (h2 0) (h3 0) v3, cM E h0 v4, cM E h1 v5, cM E h2 v6, cM E h3 v7]) ((p_pk _ 0 _ rfl).trans (List.Perm.cons _ ((p_pk _ 1 _ rfl).trans (List.Perm.cons _ ((p_pk _ 1 _ rfl).trans (List.Perm.cons _ ((p_pk _ 1 _ rfl).trans (List.Perm.cons _ ((p_pk _ 1 _ rfl).trans (List.Perm.cons _ ((p_pk _ 1 _ rfl).trans (List.Perm.cons _ ((p_pk _ 1 _ rfl).trans (List.Perm.cons _ (List.Perm.refl _)))))))))))))))) hl.1 0 6 rfl rfl (c_X6_recorded l E aG a0 a1 a2 a3 aH h0 h1 h2 h3 aS h) 1 gX6_stone_X6_recorded rfl ⟨rfl, rfl⟩ (by decide +kernel) ⟨Nat.le_of_ble_eq_true rfl, Nat.le_of_ble_eq_true rfl⟩ rfl rfl (Nat.le_of_ble_eq_true rfl) dX6_stone_24 ⟨Nat.zero_le _, Nat.zero_le _⟩ (fun r_5 u_13 H locs h hw => ?_)
  obtain ⟨v_6, v_7, v_8, v_9, v_10, v_11, v_12⟩ := u_13
  replace hw : mw E A s.heap H locs (List.flatten [cG aG (a0 0) (a1 0) (a2 0) (a3 0) (aH 0) (aS 0) v_6, cM E a0 v_4, cM E a1 v_7, cH E aH (h0 0) (h1 0) (h2 0) (h3 0) v_8, cM E h0 v_9, cM E h1 v_10, cM E h2 v_11, cM E h3 v_12]) := hw.perm (p_bk (ds := [cG aG (a0 0) (a1 0) (a2 0) (a3 0) (aH 0) (aS 0) v_6, cM E a1 v_7, cH E aH (h0 0) (h1 0) (h2 0) (h3 0) v_8, cM E h0 v_9, cM E h1 v_10, cM E h2 v_11, cM E h3 v_12]) ((p_pk _ 0 _ rfl).trans (List.Perm.cons _ ((p_pk _ 1 _ rfl).trans (List.Perm.cons _ ((p_pk _ 1 _ rfl).trans (List.Perm.cons _ ((p_pk _ 1 _ rfl).trans (List.Perm.cons _ ((p_pk _ 1 _ rfl).trans (List.Perm.cons _ ((p_pk _ 1 _ rfl).trans (List.Perm.cons _ ((p_pk _ 1 _ rfl).trans (List.Perm.cons _ (List.Perm.refl _))))))))))))))))
  exact x_ret C0 ⟨v_6, v_4, v_7, v_8, v_9, v_10, v_11, v_12⟩ hw h dX6_stone_27

abbrev rmX6_rate : Room := { frames := 5, cells := 0, slots := 0, locals := 111 }
set_option maxRecDepth 100000 in
set_option maxHeartbeats 4000000 in
theorem c_X6_rate (l : Launch) (E : EE) (aG : Nat → Nat) (a0 : Nat → Nat) (a1 : Nat → Nat) (a2 : Nat → Nat) (a3 : Nat → Nat) (aH : Nat → Nat) (h0 : Nat → Nat) (h1 : Nat → Nat) (h2 : Nat → Nat) (h3 : Nat → Nat) (aS : Nat → Nat) {v0 : V} {v1 : V} {v2 : V} {v3 : V} {v4 : V} {v5 : V} {v6 : V} {v7 : V}  {p1 : Int32} {p2 : Int32} {p3 : Int32} {p4 : Int32} {post : Int32 → V → V → V → V → V → V → V → V → Prop} (h : s_X6_rate v0 v1 v2 v3 v4 v5 v6 v7 p1 p2 p3 p4 post) : KI l E yX6_rate wsX6_rate rmX6_rate [.ref (aG 0), .int p1, .int p2, .int p3, .int p4] (List.flatten [cG aG (a0 0) (a1 0) (a2 0) (a3 0) (aH 0) (aS 0) v0, cM E a0 v1, cM E a1 v2, cH E aH (h0 0) (h1 0) (h2 0) (h3 0) v3, cM E h0 v4, cM E h1 v5, cM E h2 v6, cM E h3 v7]) (S := V × V × V × V × V × V × V × V) (fun r (u : V × V × V × V × V × V × V × V) => post r u.1 u.2.1 u.2.2.1 u.2.2.2.1 u.2.2.2.2.1 u.2.2.2.2.2.1 u.2.2.2.2.2.2.1 u.2.2.2.2.2.2.2) (fun (u : V × V × V × V × V × V × V × V) => (List.flatten [cG aG (a0 0) (a1 0) (a2 0) (a3 0) (aH 0) (aS 0) u.1, cM E a0 u.2.1, cM E a1 u.2.2.1, cH E aH (h0 0) (h1 0) (h2 0) (h3 0) u.2.2.2.1, cM E h0 u.2.2.2.2.1, cM E h1 u.2.2.2.2.2.1, cM E h2 u.2.2.2.2.2.2.1, cM E h3 u.2.2.2.2.2.2.2])) := by
  unfold s_X6_rate at h
  refine KI.go (cc := cX6_rate) (ret := (some .int)) (maxL := 5) (own := RX6) (by decide) rfl (Nat.le_of_ble_eq_true rfl) rfl (fun p e s m below meth c A ls C0 hw hl => ?_)
  have hx := C0.1
  have hb := C0.2.1
  have hiX6 : ∀ w ∈ wsX60, w ∈ wsX6_rate := fun w h => List.mem_cons_of_mem _ (List.mem_append_left _ (List.mem_append_left _ (List.mem_append_left _ (List.mem_append_left _ (List.mem_append_left _ (List.mem_append_right _ h))))))
  replace hl : lv_has ls 5 [(0, .ref (aG 0)), (1, .int p1), (2, .int p2), (3, .int p3), (4, .int p4)] := hl
  refine lv_aload_n hx hb dX6_rate_0 rfl (lv_at hl 0 rfl) ?_
  refine x_get C0 hw 6 hiX6 rfl 0 rfl 1 (by decide) 1 rfl rfl dX6_rate_1 ?_
  refine lv_aload_n hx hb dX6_rate_4 rfl (lv_at hl 0 rfl) ?_
  refine x_get C0 hw 6 hiX6 rfl 0 rfl 0 (by decide) 2 rfl rfl dX6_rate_5 ?_
  refine x_cVv (As := [.ref (a0 0)]) (rest := []) (F := (List.flatten [cG aG (a0 0) (a1 0) (a2 0) (a3 0) (aH 0) (aS 0) v0, cH E aH (h0 0) (h1 0) (h2 0) (h3 0) v3, cM E h0 v4, cM E h1 v5, cM E h2 v6, cM E h3 v7])) C0 hw (p_fl (ds := [cM E a1 v2, cM E a0 v1]) ((p_pk _ 2 _ rfl).trans (List.Perm.cons _ ((p_pk _ 1 _ rfl).trans (List.Perm.cons _ (List.Perm.refl _)))))) hl.1 24 1 rfl rfl (c_X1_copyFrom l E a1 a0 h) 1 gX6_rate_X1_copyFrom rfl ⟨rfl, rfl⟩ (by decide +kernel) ⟨Nat.le_of_ble_eq_true rfl, Nat.le_of_ble_eq_true rfl⟩ rfl rfl (Nat.le_of_ble_eq_true rfl) dX6_rate_8 ⟨Nat.zero_le _, Nat.zero_le _⟩ (fun u_14 H locs h hw => ?_)
  obtain ⟨v_1, v_2⟩ := u_14
  replace hw : mw E A s.heap H locs (List.flatten [cG aG (a0 0) (a1 0) (a2 0) (a3 0) (aH 0) (aS 0) v0, cM E a0 v_2, cM E a1 v_1, cH E aH (h0 0) (h1 0) (h2 0) (h3 0) v3, cM E h0 v4, cM E h1 v5, cM E h2 v6, cM E h3 v7]) := hw.perm (p_bk (ds := [cM E a1 v_1, cM E a0 v_2]) ((p_pk _ 2 _ rfl).trans (List.Perm.cons _ ((p_pk _ 1 _ rfl).trans (List.Perm.cons _ (List.Perm.refl _))))))
  refine lv_aload_n hx hb dX6_rate_11 rfl (lv_at hl 0 rfl) ?_
  refine lv_aload_n hx hb dX6_rate_12 rfl (lv_at hl 0 rfl) ?_
  refine x_get C0 hw 6 hiX6 rfl 0 rfl 0 (by decide) 2 rfl rfl dX6_rate_13 ?_
  refine lv_iload_n hx hb dX6_rate_16 rfl (lv_at hl 1 rfl) ?_
  refine lv_iload_n hx hb dX6_rate_17 rfl (lv_at hl 2 rfl) ?_
  refine lv_iload_n hx hb dX6_rate_18 rfl (lv_at hl 3 rfl) ?_
  refine lv_iload hx hb dX6_rate_19 (lv_at hl 4 rfl) ?_
  refine x_cV (As := [.int p1, .int p2, .int p3, .int p4]) (rest := [.ref (aG 0)]) (F := (List.flatten [cG aG (a0 0) (a1 0) (a2 0) (a3 0) (aH 0) (aS 0) v0, cM E a1 v_1, cH E aH (h0 0) (h1 0) (h2 0) (h3 0) v3, cM E h0 v4, cM E h1 v5, cM E h2 v6, cM E h3 v7])) C0 hw (p_fl1 ((p_pk _ 1 _ rfl).trans (List.Perm.cons _ (List.Perm.refl _)))) hl.1 1 1 rfl rfl (c_X1_putRate l E a0 h) 4 gX6_rate_X1_putRate rfl ⟨rfl, rfl⟩ (by decide +kernel) ⟨Nat.le_of_ble_eq_true rfl, Nat.le_of_ble_eq_true rfl⟩ rfl rfl (Nat.le_of_ble_eq_true rfl) dX6_rate_21 ⟨Nat.zero_le _, Nat.zero_le _⟩ (fun r_3 v_4 H locs h hw => ?_)
  replace hw : mw E A s.heap H locs (List.flatten [cG aG (a0 0) (a1 0) (a2 0) (a3 0) (aH 0) (aS 0) v0, cM E a0 v_4, cM E a1 v_1, cH E aH (h0 0) (h1 0) (h2 0) (h3 0) v3, cM E h0 v4, cM E h1 v5, cM E h2 v6, cM E h3 v7]) := hw.perm (p_bk1 ((p_pk _ 1 _ rfl).trans (List.Perm.cons _ (List.Perm.refl _))))
  refine x_cV (As := [.int r_3]) (rest := []) (F := (List.flatten [cM E a0 v_4])) C0 hw (p_fl (ds := [cG aG (a0 0) (a1 0) (a2 0) (a3 0) (aH 0) (aS 0) v0, cM E a1 v_1, cH E aH (h0 0) (h1 0) (h2 0) (h3 0) v3, cM E h0 v4, cM E h1 v5, cM E h2 v6, cM E h3 v7]) ((p_pk _ 0 _ rfl).trans (List.Perm.cons _ ((p_pk _ 1 _ rfl).trans (List.Perm.cons _ ((p_pk _ 1 _ rfl).trans (List.Perm.cons _ ((p_pk _ 1 _ rfl).trans (List.Perm.cons _ ((p_pk _ 1 _ rfl).trans (List.Perm.cons _ ((p_pk _ 1 _ rfl).trans (List.Perm.cons _ ((p_pk _ 1 _ rfl).trans (List.Perm.cons _ (List.Perm.refl _)))))))))))))))) hl.1 0 6 rfl rfl (c_X6_recorded l E aG a0 a1 a2 a3 aH h0 h1 h2 h3 aS h) 1 gX6_rate_X6_recorded rfl ⟨rfl, rfl⟩ (by decide +kernel) ⟨Nat.le_of_ble_eq_true rfl, Nat.le_of_ble_eq_true rfl⟩ rfl rfl (Nat.le_of_ble_eq_true rfl) dX6_rate_24 ⟨Nat.zero_le _, Nat.zero_le _⟩ (fun r_5 u_13 H locs h hw => ?_)
  obtain ⟨v_6, v_7, v_8, v_9, v_10, v_11, v_12⟩ := u_13
  replace hw : mw E A s.heap H locs (List.flatten [cG aG (a0 0) (a1 0) (a2 0) (a3 0) (aH 0) (aS 0) v_6, cM E a0 v_4, cM E a1 v_7, cH E aH (h0 0) (h1 0) (h2 0) (h3 0) v_8, cM E h0 v_9, cM E h1 v_10, cM E h2 v_11, cM E h3 v_12]) := hw.perm (p_bk (ds := [cG aG (a0 0) (a1 0) (a2 0) (a3 0) (aH 0) (aS 0) v_6, cM E a1 v_7, cH E aH (h0 0) (h1 0) (h2 0) (h3 0) v_8, cM E h0 v_9, cM E h1 v_10, cM E h2 v_11, cM E h3 v_12]) ((p_pk _ 0 _ rfl).trans (List.Perm.cons _ ((p_pk _ 1 _ rfl).trans (List.Perm.cons _ ((p_pk _ 1 _ rfl).trans (List.Perm.cons _ ((p_pk _ 1 _ rfl).trans (List.Perm.cons _ ((p_pk _ 1 _ rfl).trans (List.Perm.cons _ ((p_pk _ 1 _ rfl).trans (List.Perm.cons _ ((p_pk _ 1 _ rfl).trans (List.Perm.cons _ (List.Perm.refl _))))))))))))))))
  exact x_ret C0 ⟨v_6, v_4, v_7, v_8, v_9, v_10, v_11, v_12⟩ hw h dX6_rate_27

abbrev rmX6_unrate : Room := { frames := 5, cells := 0, slots := 0, locals := 111 }
set_option maxRecDepth 100000 in
set_option maxHeartbeats 4000000 in
theorem c_X6_unrate (l : Launch) (E : EE) (aG : Nat → Nat) (a0 : Nat → Nat) (a1 : Nat → Nat) (a2 : Nat → Nat) (a3 : Nat → Nat) (aH : Nat → Nat) (h0 : Nat → Nat) (h1 : Nat → Nat) (h2 : Nat → Nat) (h3 : Nat → Nat) (aS : Nat → Nat) {v0 : V} {v1 : V} {v2 : V} {v3 : V} {v4 : V} {v5 : V} {v6 : V} {v7 : V}  {p1 : Int32} {p2 : Int32} {p3 : Int32} {post : Int32 → V → V → V → V → V → V → V → V → Prop} (h : s_X6_unrate v0 v1 v2 v3 v4 v5 v6 v7 p1 p2 p3 post) : KI l E yX6_unrate wsX6_unrate rmX6_unrate [.ref (aG 0), .int p1, .int p2, .int p3] (List.flatten [cG aG (a0 0) (a1 0) (a2 0) (a3 0) (aH 0) (aS 0) v0, cM E a0 v1, cM E a1 v2, cH E aH (h0 0) (h1 0) (h2 0) (h3 0) v3, cM E h0 v4, cM E h1 v5, cM E h2 v6, cM E h3 v7]) (S := V × V × V × V × V × V × V × V) (fun r (u : V × V × V × V × V × V × V × V) => post r u.1 u.2.1 u.2.2.1 u.2.2.2.1 u.2.2.2.2.1 u.2.2.2.2.2.1 u.2.2.2.2.2.2.1 u.2.2.2.2.2.2.2) (fun (u : V × V × V × V × V × V × V × V) => (List.flatten [cG aG (a0 0) (a1 0) (a2 0) (a3 0) (aH 0) (aS 0) u.1, cM E a0 u.2.1, cM E a1 u.2.2.1, cH E aH (h0 0) (h1 0) (h2 0) (h3 0) u.2.2.2.1, cM E h0 u.2.2.2.2.1, cM E h1 u.2.2.2.2.2.1, cM E h2 u.2.2.2.2.2.2.1, cM E h3 u.2.2.2.2.2.2.2])) := by
  unfold s_X6_unrate at h
  refine KI.go (cc := cX6_unrate) (ret := (some .int)) (maxL := 4) (own := RX6) (by decide) rfl (Nat.le_of_ble_eq_true rfl) rfl (fun p e s m below meth c A ls C0 hw hl => ?_)
  have hx := C0.1
  have hb := C0.2.1
  have hiX6 : ∀ w ∈ wsX60, w ∈ wsX6_unrate := fun w h => List.mem_cons_of_mem _ (List.mem_append_left _ (List.mem_append_left _ (List.mem_append_left _ (List.mem_append_left _ (List.mem_append_left _ (List.mem_append_right _ h))))))
  replace hl : lv_has ls 4 [(0, .ref (aG 0)), (1, .int p1), (2, .int p2), (3, .int p3)] := hl
  refine lv_aload_n hx hb dX6_unrate_0 rfl (lv_at hl 0 rfl) ?_
  refine x_get C0 hw 6 hiX6 rfl 0 rfl 1 (by decide) 1 rfl rfl dX6_unrate_1 ?_
  refine lv_aload_n hx hb dX6_unrate_4 rfl (lv_at hl 0 rfl) ?_
  refine x_get C0 hw 6 hiX6 rfl 0 rfl 0 (by decide) 2 rfl rfl dX6_unrate_5 ?_
  refine x_cVv (As := [.ref (a0 0)]) (rest := []) (F := (List.flatten [cG aG (a0 0) (a1 0) (a2 0) (a3 0) (aH 0) (aS 0) v0, cH E aH (h0 0) (h1 0) (h2 0) (h3 0) v3, cM E h0 v4, cM E h1 v5, cM E h2 v6, cM E h3 v7])) C0 hw (p_fl (ds := [cM E a1 v2, cM E a0 v1]) ((p_pk _ 2 _ rfl).trans (List.Perm.cons _ ((p_pk _ 1 _ rfl).trans (List.Perm.cons _ (List.Perm.refl _)))))) hl.1 24 1 rfl rfl (c_X1_copyFrom l E a1 a0 h) 1 gX6_unrate_X1_copyFrom rfl ⟨rfl, rfl⟩ (by decide +kernel) ⟨Nat.le_of_ble_eq_true rfl, Nat.le_of_ble_eq_true rfl⟩ rfl rfl (Nat.le_of_ble_eq_true rfl) dX6_unrate_8 ⟨Nat.zero_le _, Nat.zero_le _⟩ (fun u_14 H locs h hw => ?_)
  obtain ⟨v_1, v_2⟩ := u_14
  replace hw : mw E A s.heap H locs (List.flatten [cG aG (a0 0) (a1 0) (a2 0) (a3 0) (aH 0) (aS 0) v0, cM E a0 v_2, cM E a1 v_1, cH E aH (h0 0) (h1 0) (h2 0) (h3 0) v3, cM E h0 v4, cM E h1 v5, cM E h2 v6, cM E h3 v7]) := hw.perm (p_bk (ds := [cM E a1 v_1, cM E a0 v_2]) ((p_pk _ 2 _ rfl).trans (List.Perm.cons _ ((p_pk _ 1 _ rfl).trans (List.Perm.cons _ (List.Perm.refl _))))))
  refine lv_aload_n hx hb dX6_unrate_11 rfl (lv_at hl 0 rfl) ?_
  refine lv_aload_n hx hb dX6_unrate_12 rfl (lv_at hl 0 rfl) ?_
  refine x_get C0 hw 6 hiX6 rfl 0 rfl 0 (by decide) 2 rfl rfl dX6_unrate_13 ?_
  refine lv_iload_n hx hb dX6_unrate_16 rfl (lv_at hl 1 rfl) ?_
  refine lv_iload_n hx hb dX6_unrate_17 rfl (lv_at hl 2 rfl) ?_
  refine lv_iload_n hx hb dX6_unrate_18 rfl (lv_at hl 3 rfl) ?_
  refine x_cV (As := [.int p1, .int p2, .int p3]) (rest := [.ref (aG 0)]) (F := (List.flatten [cG aG (a0 0) (a1 0) (a2 0) (a3 0) (aH 0) (aS 0) v0, cM E a1 v_1, cH E aH (h0 0) (h1 0) (h2 0) (h3 0) v3, cM E h0 v4, cM E h1 v5, cM E h2 v6, cM E h3 v7])) C0 hw (p_fl1 ((p_pk _ 1 _ rfl).trans (List.Perm.cons _ (List.Perm.refl _)))) hl.1 1 1 rfl rfl (c_X1_takeRate l E a0 h) 3 gX6_unrate_X1_takeRate rfl ⟨rfl, rfl⟩ (by decide +kernel) ⟨Nat.le_of_ble_eq_true rfl, Nat.le_of_ble_eq_true rfl⟩ rfl rfl (Nat.le_of_ble_eq_true rfl) dX6_unrate_19 ⟨Nat.zero_le _, Nat.zero_le _⟩ (fun r_3 v_4 H locs h hw => ?_)
  replace hw : mw E A s.heap H locs (List.flatten [cG aG (a0 0) (a1 0) (a2 0) (a3 0) (aH 0) (aS 0) v0, cM E a0 v_4, cM E a1 v_1, cH E aH (h0 0) (h1 0) (h2 0) (h3 0) v3, cM E h0 v4, cM E h1 v5, cM E h2 v6, cM E h3 v7]) := hw.perm (p_bk1 ((p_pk _ 1 _ rfl).trans (List.Perm.cons _ (List.Perm.refl _))))
  refine x_cV (As := [.int r_3]) (rest := []) (F := (List.flatten [cM E a0 v_4])) C0 hw (p_fl (ds := [cG aG (a0 0) (a1 0) (a2 0) (a3 0) (aH 0) (aS 0) v0, cM E a1 v_1, cH E aH (h0 0) (h1 0) (h2 0) (h3 0) v3, cM E h0 v4, cM E h1 v5, cM E h2 v6, cM E h3 v7]) ((p_pk _ 0 _ rfl).trans (List.Perm.cons _ ((p_pk _ 1 _ rfl).trans (List.Perm.cons _ ((p_pk _ 1 _ rfl).trans (List.Perm.cons _ ((p_pk _ 1 _ rfl).trans (List.Perm.cons _ ((p_pk _ 1 _ rfl).trans (List.Perm.cons _ ((p_pk _ 1 _ rfl).trans (List.Perm.cons _ ((p_pk _ 1 _ rfl).trans (List.Perm.cons _ (List.Perm.refl _)))))))))))))))) hl.1 0 6 rfl rfl (c_X6_recorded l E aG a0 a1 a2 a3 aH h0 h1 h2 h3 aS h) 1 gX6_unrate_X6_recorded rfl ⟨rfl, rfl⟩ (by decide +kernel) ⟨Nat.le_of_ble_eq_true rfl, Nat.le_of_ble_eq_true rfl⟩ rfl rfl (Nat.le_of_ble_eq_true rfl) dX6_unrate_22 ⟨Nat.zero_le _, Nat.zero_le _⟩ (fun r_5 u_13 H locs h hw => ?_)
  obtain ⟨v_6, v_7, v_8, v_9, v_10, v_11, v_12⟩ := u_13
  replace hw : mw E A s.heap H locs (List.flatten [cG aG (a0 0) (a1 0) (a2 0) (a3 0) (aH 0) (aS 0) v_6, cM E a0 v_4, cM E a1 v_7, cH E aH (h0 0) (h1 0) (h2 0) (h3 0) v_8, cM E h0 v_9, cM E h1 v_10, cM E h2 v_11, cM E h3 v_12]) := hw.perm (p_bk (ds := [cG aG (a0 0) (a1 0) (a2 0) (a3 0) (aH 0) (aS 0) v_6, cM E a1 v_7, cH E aH (h0 0) (h1 0) (h2 0) (h3 0) v_8, cM E h0 v_9, cM E h1 v_10, cM E h2 v_11, cM E h3 v_12]) ((p_pk _ 0 _ rfl).trans (List.Perm.cons _ ((p_pk _ 1 _ rfl).trans (List.Perm.cons _ ((p_pk _ 1 _ rfl).trans (List.Perm.cons _ ((p_pk _ 1 _ rfl).trans (List.Perm.cons _ ((p_pk _ 1 _ rfl).trans (List.Perm.cons _ ((p_pk _ 1 _ rfl).trans (List.Perm.cons _ ((p_pk _ 1 _ rfl).trans (List.Perm.cons _ (List.Perm.refl _))))))))))))))))
  exact x_ret C0 ⟨v_6, v_4, v_7, v_8, v_9, v_10, v_11, v_12⟩ hw h dX6_unrate_25

abbrev rmX6_lend : Room := { frames := 5, cells := 0, slots := 0, locals := 111 }
set_option maxRecDepth 100000 in
set_option maxHeartbeats 4000000 in
theorem c_X6_lend (l : Launch) (E : EE) (aG : Nat → Nat) (a0 : Nat → Nat) (a1 : Nat → Nat) (a2 : Nat → Nat) (a3 : Nat → Nat) (aH : Nat → Nat) (h0 : Nat → Nat) (h1 : Nat → Nat) (h2 : Nat → Nat) (h3 : Nat → Nat) (aS : Nat → Nat) {v0 : V} {v1 : V} {v2 : V} {v3 : V} {v4 : V} {v5 : V} {v6 : V} {v7 : V}  {p1 : Int32} {p2 : Int32} {p3 : Int32} {p4 : Int32} {post : Int32 → V → V → V → V → V → V → V → V → Prop} (h : s_X6_lend v0 v1 v2 v3 v4 v5 v6 v7 p1 p2 p3 p4 post) : KI l E yX6_lend wsX6_lend rmX6_lend [.ref (aG 0), .int p1, .int p2, .int p3, .int p4] (List.flatten [cG aG (a0 0) (a1 0) (a2 0) (a3 0) (aH 0) (aS 0) v0, cM E a0 v1, cM E a1 v2, cH E aH (h0 0) (h1 0) (h2 0) (h3 0) v3, cM E h0 v4, cM E h1 v5, cM E h2 v6, cM E h3 v7]) (S := V × V × V × V × V × V × V × V) (fun r (u : V × V × V × V × V × V × V × V) => post r u.1 u.2.1 u.2.2.1 u.2.2.2.1 u.2.2.2.2.1 u.2.2.2.2.2.1 u.2.2.2.2.2.2.1 u.2.2.2.2.2.2.2) (fun (u : V × V × V × V × V × V × V × V) => (List.flatten [cG aG (a0 0) (a1 0) (a2 0) (a3 0) (aH 0) (aS 0) u.1, cM E a0 u.2.1, cM E a1 u.2.2.1, cH E aH (h0 0) (h1 0) (h2 0) (h3 0) u.2.2.2.1, cM E h0 u.2.2.2.2.1, cM E h1 u.2.2.2.2.2.1, cM E h2 u.2.2.2.2.2.2.1, cM E h3 u.2.2.2.2.2.2.2])) := by
  unfold s_X6_lend at h
  refine KI.go (cc := cX6_lend) (ret := (some .int)) (maxL := 5) (own := RX6) (by decide) rfl (Nat.le_of_ble_eq_true rfl) rfl (fun p e s m below meth c A ls C0 hw hl => ?_)
  have hx := C0.1
  have hb := C0.2.1
  have hiX6 : ∀ w ∈ wsX60, w ∈ wsX6_lend := fun w h => List.mem_cons_of_mem _ (List.mem_append_left _ (List.mem_append_left _ (List.mem_append_left _ (List.mem_append_left _ (List.mem_append_left _ (List.mem_append_right _ h))))))
  replace hl : lv_has ls 5 [(0, .ref (aG 0)), (1, .int p1), (2, .int p2), (3, .int p3), (4, .int p4)] := hl
  refine lv_aload_n hx hb dX6_lend_0 rfl (lv_at hl 0 rfl) ?_
  refine x_get C0 hw 6 hiX6 rfl 0 rfl 1 (by decide) 1 rfl rfl dX6_lend_1 ?_
  refine lv_aload_n hx hb dX6_lend_4 rfl (lv_at hl 0 rfl) ?_
  refine x_get C0 hw 6 hiX6 rfl 0 rfl 0 (by decide) 2 rfl rfl dX6_lend_5 ?_
  refine x_cVv (As := [.ref (a0 0)]) (rest := []) (F := (List.flatten [cG aG (a0 0) (a1 0) (a2 0) (a3 0) (aH 0) (aS 0) v0, cH E aH (h0 0) (h1 0) (h2 0) (h3 0) v3, cM E h0 v4, cM E h1 v5, cM E h2 v6, cM E h3 v7])) C0 hw (p_fl (ds := [cM E a1 v2, cM E a0 v1]) ((p_pk _ 2 _ rfl).trans (List.Perm.cons _ ((p_pk _ 1 _ rfl).trans (List.Perm.cons _ (List.Perm.refl _)))))) hl.1 24 1 rfl rfl (c_X1_copyFrom l E a1 a0 h) 1 gX6_lend_X1_copyFrom rfl ⟨rfl, rfl⟩ (by decide +kernel) ⟨Nat.le_of_ble_eq_true rfl, Nat.le_of_ble_eq_true rfl⟩ rfl rfl (Nat.le_of_ble_eq_true rfl) dX6_lend_8 ⟨Nat.zero_le _, Nat.zero_le _⟩ (fun u_14 H locs h hw => ?_)
  obtain ⟨v_1, v_2⟩ := u_14
  replace hw : mw E A s.heap H locs (List.flatten [cG aG (a0 0) (a1 0) (a2 0) (a3 0) (aH 0) (aS 0) v0, cM E a0 v_2, cM E a1 v_1, cH E aH (h0 0) (h1 0) (h2 0) (h3 0) v3, cM E h0 v4, cM E h1 v5, cM E h2 v6, cM E h3 v7]) := hw.perm (p_bk (ds := [cM E a1 v_1, cM E a0 v_2]) ((p_pk _ 2 _ rfl).trans (List.Perm.cons _ ((p_pk _ 1 _ rfl).trans (List.Perm.cons _ (List.Perm.refl _))))))
  refine lv_aload_n hx hb dX6_lend_11 rfl (lv_at hl 0 rfl) ?_
  refine lv_aload_n hx hb dX6_lend_12 rfl (lv_at hl 0 rfl) ?_
  refine x_get C0 hw 6 hiX6 rfl 0 rfl 0 (by decide) 2 rfl rfl dX6_lend_13 ?_
  refine lv_iload_n hx hb dX6_lend_16 rfl (lv_at hl 1 rfl) ?_
  refine lv_iload_n hx hb dX6_lend_17 rfl (lv_at hl 2 rfl) ?_
  refine lv_iload_n hx hb dX6_lend_18 rfl (lv_at hl 3 rfl) ?_
  refine lv_iload hx hb dX6_lend_19 (lv_at hl 4 rfl) ?_
  refine x_cV (As := [.int p1, .int p2, .int p3, .int p4]) (rest := [.ref (aG 0)]) (F := (List.flatten [cG aG (a0 0) (a1 0) (a2 0) (a3 0) (aH 0) (aS 0) v0, cM E a1 v_1, cH E aH (h0 0) (h1 0) (h2 0) (h3 0) v3, cM E h0 v4, cM E h1 v5, cM E h2 v6, cM E h3 v7])) C0 hw (p_fl1 ((p_pk _ 1 _ rfl).trans (List.Perm.cons _ (List.Perm.refl _)))) hl.1 1 1 rfl rfl (c_X1_lendStones l E a0 h) 4 gX6_lend_X1_lendStones rfl ⟨rfl, rfl⟩ (by decide +kernel) ⟨Nat.le_of_ble_eq_true rfl, Nat.le_of_ble_eq_true rfl⟩ rfl rfl (Nat.le_of_ble_eq_true rfl) dX6_lend_21 ⟨Nat.zero_le _, Nat.zero_le _⟩ (fun r_3 v_4 H locs h hw => ?_)
  replace hw : mw E A s.heap H locs (List.flatten [cG aG (a0 0) (a1 0) (a2 0) (a3 0) (aH 0) (aS 0) v0, cM E a0 v_4, cM E a1 v_1, cH E aH (h0 0) (h1 0) (h2 0) (h3 0) v3, cM E h0 v4, cM E h1 v5, cM E h2 v6, cM E h3 v7]) := hw.perm (p_bk1 ((p_pk _ 1 _ rfl).trans (List.Perm.cons _ (List.Perm.refl _))))
  refine x_cV (As := [.int r_3]) (rest := []) (F := (List.flatten [cM E a0 v_4])) C0 hw (p_fl (ds := [cG aG (a0 0) (a1 0) (a2 0) (a3 0) (aH 0) (aS 0) v0, cM E a1 v_1, cH E aH (h0 0) (h1 0) (h2 0) (h3 0) v3, cM E h0 v4, cM E h1 v5, cM E h2 v6, cM E h3 v7]) ((p_pk _ 0 _ rfl).trans (List.Perm.cons _ ((p_pk _ 1 _ rfl).trans (List.Perm.cons _ ((p_pk _ 1 _ rfl).trans (List.Perm.cons _ ((p_pk _ 1 _ rfl).trans (List.Perm.cons _ ((p_pk _ 1 _ rfl).trans (List.Perm.cons _ ((p_pk _ 1 _ rfl).trans (List.Perm.cons _ ((p_pk _ 1 _ rfl).trans (List.Perm.cons _ (List.Perm.refl _)))))))))))))))) hl.1 0 6 rfl rfl (c_X6_recorded l E aG a0 a1 a2 a3 aH h0 h1 h2 h3 aS h) 1 gX6_lend_X6_recorded rfl ⟨rfl, rfl⟩ (by decide +kernel) ⟨Nat.le_of_ble_eq_true rfl, Nat.le_of_ble_eq_true rfl⟩ rfl rfl (Nat.le_of_ble_eq_true rfl) dX6_lend_24 ⟨Nat.zero_le _, Nat.zero_le _⟩ (fun r_5 u_13 H locs h hw => ?_)
  obtain ⟨v_6, v_7, v_8, v_9, v_10, v_11, v_12⟩ := u_13
  replace hw : mw E A s.heap H locs (List.flatten [cG aG (a0 0) (a1 0) (a2 0) (a3 0) (aH 0) (aS 0) v_6, cM E a0 v_4, cM E a1 v_7, cH E aH (h0 0) (h1 0) (h2 0) (h3 0) v_8, cM E h0 v_9, cM E h1 v_10, cM E h2 v_11, cM E h3 v_12]) := hw.perm (p_bk (ds := [cG aG (a0 0) (a1 0) (a2 0) (a3 0) (aH 0) (aS 0) v_6, cM E a1 v_7, cH E aH (h0 0) (h1 0) (h2 0) (h3 0) v_8, cM E h0 v_9, cM E h1 v_10, cM E h2 v_11, cM E h3 v_12]) ((p_pk _ 0 _ rfl).trans (List.Perm.cons _ ((p_pk _ 1 _ rfl).trans (List.Perm.cons _ ((p_pk _ 1 _ rfl).trans (List.Perm.cons _ ((p_pk _ 1 _ rfl).trans (List.Perm.cons _ ((p_pk _ 1 _ rfl).trans (List.Perm.cons _ ((p_pk _ 1 _ rfl).trans (List.Perm.cons _ ((p_pk _ 1 _ rfl).trans (List.Perm.cons _ (List.Perm.refl _))))))))))))))))
  exact x_ret C0 ⟨v_6, v_4, v_7, v_8, v_9, v_10, v_11, v_12⟩ hw h dX6_lend_27

abbrev rmX6_back : Room := { frames := 5, cells := 0, slots := 0, locals := 111 }
set_option maxRecDepth 100000 in
set_option maxHeartbeats 4000000 in
theorem c_X6_back (l : Launch) (E : EE) (aG : Nat → Nat) (a0 : Nat → Nat) (a1 : Nat → Nat) (a2 : Nat → Nat) (a3 : Nat → Nat) (aH : Nat → Nat) (h0 : Nat → Nat) (h1 : Nat → Nat) (h2 : Nat → Nat) (h3 : Nat → Nat) (aS : Nat → Nat) {v0 : V} {v1 : V} {v2 : V} {v3 : V} {v4 : V} {v5 : V} {v6 : V} {v7 : V}  {p1 : Int32} {post : Int32 → V → V → V → V → V → V → V → V → Prop} (h : s_X6_back v0 v1 v2 v3 v4 v5 v6 v7 p1 post) : KI l E yX6_back wsX6_back rmX6_back [.ref (aG 0), .int p1] (List.flatten [cG aG (a0 0) (a1 0) (a2 0) (a3 0) (aH 0) (aS 0) v0, cM E a0 v1, cM E a1 v2, cH E aH (h0 0) (h1 0) (h2 0) (h3 0) v3, cM E h0 v4, cM E h1 v5, cM E h2 v6, cM E h3 v7]) (S := V × V × V × V × V × V × V × V) (fun r (u : V × V × V × V × V × V × V × V) => post r u.1 u.2.1 u.2.2.1 u.2.2.2.1 u.2.2.2.2.1 u.2.2.2.2.2.1 u.2.2.2.2.2.2.1 u.2.2.2.2.2.2.2) (fun (u : V × V × V × V × V × V × V × V) => (List.flatten [cG aG (a0 0) (a1 0) (a2 0) (a3 0) (aH 0) (aS 0) u.1, cM E a0 u.2.1, cM E a1 u.2.2.1, cH E aH (h0 0) (h1 0) (h2 0) (h3 0) u.2.2.2.1, cM E h0 u.2.2.2.2.1, cM E h1 u.2.2.2.2.2.1, cM E h2 u.2.2.2.2.2.2.1, cM E h3 u.2.2.2.2.2.2.2])) := by
  unfold s_X6_back at h
  refine KI.go (cc := cX6_back) (ret := (some .int)) (maxL := 2) (own := RX6) (by decide) rfl (Nat.le_of_ble_eq_true rfl) rfl (fun p e s m below meth c A ls C0 hw hl => ?_)
  have hx := C0.1
  have hb := C0.2.1
  have hiX6 : ∀ w ∈ wsX60, w ∈ wsX6_back := fun w h => List.mem_cons_of_mem _ (List.mem_append_left _ (List.mem_append_left _ (List.mem_append_left _ (List.mem_append_left _ (List.mem_append_left _ (List.mem_append_right _ h))))))
  replace hl : lv_has ls 2 [(0, .ref (aG 0)), (1, .int p1)] := hl
  refine lv_aload_n hx hb dX6_back_0 rfl (lv_at hl 0 rfl) ?_
  refine x_get C0 hw 6 hiX6 rfl 0 rfl 1 (by decide) 1 rfl rfl dX6_back_1 ?_
  refine lv_aload_n hx hb dX6_back_4 rfl (lv_at hl 0 rfl) ?_
  refine x_get C0 hw 6 hiX6 rfl 0 rfl 0 (by decide) 2 rfl rfl dX6_back_5 ?_
  refine x_cVv (As := [.ref (a0 0)]) (rest := []) (F := (List.flatten [cG aG (a0 0) (a1 0) (a2 0) (a3 0) (aH 0) (aS 0) v0, cH E aH (h0 0) (h1 0) (h2 0) (h3 0) v3, cM E h0 v4, cM E h1 v5, cM E h2 v6, cM E h3 v7])) C0 hw (p_fl (ds := [cM E a1 v2, cM E a0 v1]) ((p_pk _ 2 _ rfl).trans (List.Perm.cons _ ((p_pk _ 1 _ rfl).trans (List.Perm.cons _ (List.Perm.refl _)))))) hl.1 24 1 rfl rfl (c_X1_copyFrom l E a1 a0 h) 1 gX6_back_X1_copyFrom rfl ⟨rfl, rfl⟩ (by decide +kernel) ⟨Nat.le_of_ble_eq_true rfl, Nat.le_of_ble_eq_true rfl⟩ rfl rfl (Nat.le_of_ble_eq_true rfl) dX6_back_8 ⟨Nat.zero_le _, Nat.zero_le _⟩ (fun u_14 H locs h hw => ?_)
  obtain ⟨v_1, v_2⟩ := u_14
  replace hw : mw E A s.heap H locs (List.flatten [cG aG (a0 0) (a1 0) (a2 0) (a3 0) (aH 0) (aS 0) v0, cM E a0 v_2, cM E a1 v_1, cH E aH (h0 0) (h1 0) (h2 0) (h3 0) v3, cM E h0 v4, cM E h1 v5, cM E h2 v6, cM E h3 v7]) := hw.perm (p_bk (ds := [cM E a1 v_1, cM E a0 v_2]) ((p_pk _ 2 _ rfl).trans (List.Perm.cons _ ((p_pk _ 1 _ rfl).trans (List.Perm.cons _ (List.Perm.refl _))))))
  refine lv_aload_n hx hb dX6_back_11 rfl (lv_at hl 0 rfl) ?_
  refine lv_aload_n hx hb dX6_back_12 rfl (lv_at hl 0 rfl) ?_
  refine x_get C0 hw 6 hiX6 rfl 0 rfl 0 (by decide) 2 rfl rfl dX6_back_13 ?_
  refine lv_iload_n hx hb dX6_back_16 rfl (lv_at hl 1 rfl) ?_
  refine x_cV (As := [.int p1]) (rest := [.ref (aG 0)]) (F := (List.flatten [cG aG (a0 0) (a1 0) (a2 0) (a3 0) (aH 0) (aS 0) v0, cM E a1 v_1, cH E aH (h0 0) (h1 0) (h2 0) (h3 0) v3, cM E h0 v4, cM E h1 v5, cM E h2 v6, cM E h3 v7])) C0 hw (p_fl1 ((p_pk _ 1 _ rfl).trans (List.Perm.cons _ (List.Perm.refl _)))) hl.1 1 1 rfl rfl (c_X1_giveBack l E a0 h) 1 gX6_back_X1_giveBack rfl ⟨rfl, rfl⟩ (by decide +kernel) ⟨Nat.le_of_ble_eq_true rfl, Nat.le_of_ble_eq_true rfl⟩ rfl rfl (Nat.le_of_ble_eq_true rfl) dX6_back_17 ⟨Nat.zero_le _, Nat.zero_le _⟩ (fun r_3 v_4 H locs h hw => ?_)
  replace hw : mw E A s.heap H locs (List.flatten [cG aG (a0 0) (a1 0) (a2 0) (a3 0) (aH 0) (aS 0) v0, cM E a0 v_4, cM E a1 v_1, cH E aH (h0 0) (h1 0) (h2 0) (h3 0) v3, cM E h0 v4, cM E h1 v5, cM E h2 v6, cM E h3 v7]) := hw.perm (p_bk1 ((p_pk _ 1 _ rfl).trans (List.Perm.cons _ (List.Perm.refl _))))
  refine x_cV (As := [.int r_3]) (rest := []) (F := (List.flatten [cM E a0 v_4])) C0 hw (p_fl (ds := [cG aG (a0 0) (a1 0) (a2 0) (a3 0) (aH 0) (aS 0) v0, cM E a1 v_1, cH E aH (h0 0) (h1 0) (h2 0) (h3 0) v3, cM E h0 v4, cM E h1 v5, cM E h2 v6, cM E h3 v7]) ((p_pk _ 0 _ rfl).trans (List.Perm.cons _ ((p_pk _ 1 _ rfl).trans (List.Perm.cons _ ((p_pk _ 1 _ rfl).trans (List.Perm.cons _ ((p_pk _ 1 _ rfl).trans (List.Perm.cons _ ((p_pk _ 1 _ rfl).trans (List.Perm.cons _ ((p_pk _ 1 _ rfl).trans (List.Perm.cons _ ((p_pk _ 1 _ rfl).trans (List.Perm.cons _ (List.Perm.refl _)))))))))))))))) hl.1 0 6 rfl rfl (c_X6_recorded l E aG a0 a1 a2 a3 aH h0 h1 h2 h3 aS h) 1 gX6_back_X6_recorded rfl ⟨rfl, rfl⟩ (by decide +kernel) ⟨Nat.le_of_ble_eq_true rfl, Nat.le_of_ble_eq_true rfl⟩ rfl rfl (Nat.le_of_ble_eq_true rfl) dX6_back_20 ⟨Nat.zero_le _, Nat.zero_le _⟩ (fun r_5 u_13 H locs h hw => ?_)
  obtain ⟨v_6, v_7, v_8, v_9, v_10, v_11, v_12⟩ := u_13
  replace hw : mw E A s.heap H locs (List.flatten [cG aG (a0 0) (a1 0) (a2 0) (a3 0) (aH 0) (aS 0) v_6, cM E a0 v_4, cM E a1 v_7, cH E aH (h0 0) (h1 0) (h2 0) (h3 0) v_8, cM E h0 v_9, cM E h1 v_10, cM E h2 v_11, cM E h3 v_12]) := hw.perm (p_bk (ds := [cG aG (a0 0) (a1 0) (a2 0) (a3 0) (aH 0) (aS 0) v_6, cM E a1 v_7, cH E aH (h0 0) (h1 0) (h2 0) (h3 0) v_8, cM E h0 v_9, cM E h1 v_10, cM E h2 v_11, cM E h3 v_12]) ((p_pk _ 0 _ rfl).trans (List.Perm.cons _ ((p_pk _ 1 _ rfl).trans (List.Perm.cons _ ((p_pk _ 1 _ rfl).trans (List.Perm.cons _ ((p_pk _ 1 _ rfl).trans (List.Perm.cons _ ((p_pk _ 1 _ rfl).trans (List.Perm.cons _ ((p_pk _ 1 _ rfl).trans (List.Perm.cons _ ((p_pk _ 1 _ rfl).trans (List.Perm.cons _ (List.Perm.refl _))))))))))))))))
  exact x_ret C0 ⟨v_6, v_4, v_7, v_8, v_9, v_10, v_11, v_12⟩ hw h dX6_back_23

abbrev rmX6_keep : Room := { frames := 5, cells := 0, slots := 0, locals := 111 }
set_option maxRecDepth 100000 in
set_option maxHeartbeats 4000000 in
theorem c_X6_keep (l : Launch) (E : EE) (aG : Nat → Nat) (a0 : Nat → Nat) (a1 : Nat → Nat) (a2 : Nat → Nat) (a3 : Nat → Nat) (aH : Nat → Nat) (h0 : Nat → Nat) (h1 : Nat → Nat) (h2 : Nat → Nat) (h3 : Nat → Nat) (aS : Nat → Nat) {v0 : V} {v1 : V} {v2 : V} {v3 : V} {v4 : V} {v5 : V} {v6 : V} {v7 : V}  {p1 : Int32} {post : Int32 → V → V → V → V → V → V → V → V → Prop} (h : s_X6_keep v0 v1 v2 v3 v4 v5 v6 v7 p1 post) : KI l E yX6_keep wsX6_keep rmX6_keep [.ref (aG 0), .int p1] (List.flatten [cG aG (a0 0) (a1 0) (a2 0) (a3 0) (aH 0) (aS 0) v0, cM E a0 v1, cM E a1 v2, cH E aH (h0 0) (h1 0) (h2 0) (h3 0) v3, cM E h0 v4, cM E h1 v5, cM E h2 v6, cM E h3 v7]) (S := V × V × V × V × V × V × V × V) (fun r (u : V × V × V × V × V × V × V × V) => post r u.1 u.2.1 u.2.2.1 u.2.2.2.1 u.2.2.2.2.1 u.2.2.2.2.2.1 u.2.2.2.2.2.2.1 u.2.2.2.2.2.2.2) (fun (u : V × V × V × V × V × V × V × V) => (List.flatten [cG aG (a0 0) (a1 0) (a2 0) (a3 0) (aH 0) (aS 0) u.1, cM E a0 u.2.1, cM E a1 u.2.2.1, cH E aH (h0 0) (h1 0) (h2 0) (h3 0) u.2.2.2.1, cM E h0 u.2.2.2.2.1, cM E h1 u.2.2.2.2.2.1, cM E h2 u.2.2.2.2.2.2.1, cM E h3 u.2.2.2.2.2.2.2])) := by
  unfold s_X6_keep at h
  refine KI.go (cc := cX6_keep) (ret := (some .int)) (maxL := 2) (own := RX6) (by decide) rfl (Nat.le_of_ble_eq_true rfl) rfl (fun p e s m below meth c A ls C0 hw hl => ?_)
  have hx := C0.1
  have hb := C0.2.1
  have hiX6 : ∀ w ∈ wsX60, w ∈ wsX6_keep := fun w h => List.mem_cons_of_mem _ (List.mem_append_left _ (List.mem_append_left _ (List.mem_append_left _ (List.mem_append_left _ (List.mem_append_left _ (List.mem_append_right _ h))))))
  replace hl : lv_has ls 2 [(0, .ref (aG 0)), (1, .int p1)] := hl
  refine lv_aload_n hx hb dX6_keep_0 rfl (lv_at hl 0 rfl) ?_
  refine x_get C0 hw 6 hiX6 rfl 0 rfl 1 (by decide) 1 rfl rfl dX6_keep_1 ?_
  refine lv_aload_n hx hb dX6_keep_4 rfl (lv_at hl 0 rfl) ?_
  refine x_get C0 hw 6 hiX6 rfl 0 rfl 0 (by decide) 2 rfl rfl dX6_keep_5 ?_
  refine x_cVv (As := [.ref (a0 0)]) (rest := []) (F := (List.flatten [cG aG (a0 0) (a1 0) (a2 0) (a3 0) (aH 0) (aS 0) v0, cH E aH (h0 0) (h1 0) (h2 0) (h3 0) v3, cM E h0 v4, cM E h1 v5, cM E h2 v6, cM E h3 v7])) C0 hw (p_fl (ds := [cM E a1 v2, cM E a0 v1]) ((p_pk _ 2 _ rfl).trans (List.Perm.cons _ ((p_pk _ 1 _ rfl).trans (List.Perm.cons _ (List.Perm.refl _)))))) hl.1 24 1 rfl rfl (c_X1_copyFrom l E a1 a0 h) 1 gX6_keep_X1_copyFrom rfl ⟨rfl, rfl⟩ (by decide +kernel) ⟨Nat.le_of_ble_eq_true rfl, Nat.le_of_ble_eq_true rfl⟩ rfl rfl (Nat.le_of_ble_eq_true rfl) dX6_keep_8 ⟨Nat.zero_le _, Nat.zero_le _⟩ (fun u_14 H locs h hw => ?_)
  obtain ⟨v_1, v_2⟩ := u_14
  replace hw : mw E A s.heap H locs (List.flatten [cG aG (a0 0) (a1 0) (a2 0) (a3 0) (aH 0) (aS 0) v0, cM E a0 v_2, cM E a1 v_1, cH E aH (h0 0) (h1 0) (h2 0) (h3 0) v3, cM E h0 v4, cM E h1 v5, cM E h2 v6, cM E h3 v7]) := hw.perm (p_bk (ds := [cM E a1 v_1, cM E a0 v_2]) ((p_pk _ 2 _ rfl).trans (List.Perm.cons _ ((p_pk _ 1 _ rfl).trans (List.Perm.cons _ (List.Perm.refl _))))))
  refine lv_aload_n hx hb dX6_keep_11 rfl (lv_at hl 0 rfl) ?_
  refine lv_aload_n hx hb dX6_keep_12 rfl (lv_at hl 0 rfl) ?_
  refine x_get C0 hw 6 hiX6 rfl 0 rfl 0 (by decide) 2 rfl rfl dX6_keep_13 ?_
  refine lv_iload_n hx hb dX6_keep_16 rfl (lv_at hl 1 rfl) ?_
  refine x_cV (As := [.int p1]) (rest := [.ref (aG 0)]) (F := (List.flatten [cG aG (a0 0) (a1 0) (a2 0) (a3 0) (aH 0) (aS 0) v0, cM E a1 v_1, cH E aH (h0 0) (h1 0) (h2 0) (h3 0) v3, cM E h0 v4, cM E h1 v5, cM E h2 v6, cM E h3 v7])) C0 hw (p_fl1 ((p_pk _ 1 _ rfl).trans (List.Perm.cons _ (List.Perm.refl _)))) hl.1 1 1 rfl rfl (c_X1_keepStone l E a0 h) 1 gX6_keep_X1_keepStone rfl ⟨rfl, rfl⟩ (by decide +kernel) ⟨Nat.le_of_ble_eq_true rfl, Nat.le_of_ble_eq_true rfl⟩ rfl rfl (Nat.le_of_ble_eq_true rfl) dX6_keep_17 ⟨Nat.zero_le _, Nat.zero_le _⟩ (fun r_3 v_4 H locs h hw => ?_)
  replace hw : mw E A s.heap H locs (List.flatten [cG aG (a0 0) (a1 0) (a2 0) (a3 0) (aH 0) (aS 0) v0, cM E a0 v_4, cM E a1 v_1, cH E aH (h0 0) (h1 0) (h2 0) (h3 0) v3, cM E h0 v4, cM E h1 v5, cM E h2 v6, cM E h3 v7]) := hw.perm (p_bk1 ((p_pk _ 1 _ rfl).trans (List.Perm.cons _ (List.Perm.refl _))))
  refine x_cV (As := [.int r_3]) (rest := []) (F := (List.flatten [cM E a0 v_4])) C0 hw (p_fl (ds := [cG aG (a0 0) (a1 0) (a2 0) (a3 0) (aH 0) (aS 0) v0, cM E a1 v_1, cH E aH (h0 0) (h1 0) (h2 0) (h3 0) v3, cM E h0 v4, cM E h1 v5, cM E h2 v6, cM E h3 v7]) ((p_pk _ 0 _ rfl).trans (List.Perm.cons _ ((p_pk _ 1 _ rfl).trans (List.Perm.cons _ ((p_pk _ 1 _ rfl).trans (List.Perm.cons _ ((p_pk _ 1 _ rfl).trans (List.Perm.cons _ ((p_pk _ 1 _ rfl).trans (List.Perm.cons _ ((p_pk _ 1 _ rfl).trans (List.Perm.cons _ ((p_pk _ 1 _ rfl).trans (List.Perm.cons _ (List.Perm.refl _)))))))))))))))) hl.1 0 6 rfl rfl (c_X6_recorded l E aG a0 a1 a2 a3 aH h0 h1 h2 h3 aS h) 1 gX6_keep_X6_recorded rfl ⟨rfl, rfl⟩ (by decide +kernel) ⟨Nat.le_of_ble_eq_true rfl, Nat.le_of_ble_eq_true rfl⟩ rfl rfl (Nat.le_of_ble_eq_true rfl) dX6_keep_20 ⟨Nat.zero_le _, Nat.zero_le _⟩ (fun r_5 u_13 H locs h hw => ?_)
  obtain ⟨v_6, v_7, v_8, v_9, v_10, v_11, v_12⟩ := u_13
  replace hw : mw E A s.heap H locs (List.flatten [cG aG (a0 0) (a1 0) (a2 0) (a3 0) (aH 0) (aS 0) v_6, cM E a0 v_4, cM E a1 v_7, cH E aH (h0 0) (h1 0) (h2 0) (h3 0) v_8, cM E h0 v_9, cM E h1 v_10, cM E h2 v_11, cM E h3 v_12]) := hw.perm (p_bk (ds := [cG aG (a0 0) (a1 0) (a2 0) (a3 0) (aH 0) (aS 0) v_6, cM E a1 v_7, cH E aH (h0 0) (h1 0) (h2 0) (h3 0) v_8, cM E h0 v_9, cM E h1 v_10, cM E h2 v_11, cM E h3 v_12]) ((p_pk _ 0 _ rfl).trans (List.Perm.cons _ ((p_pk _ 1 _ rfl).trans (List.Perm.cons _ ((p_pk _ 1 _ rfl).trans (List.Perm.cons _ ((p_pk _ 1 _ rfl).trans (List.Perm.cons _ ((p_pk _ 1 _ rfl).trans (List.Perm.cons _ ((p_pk _ 1 _ rfl).trans (List.Perm.cons _ ((p_pk _ 1 _ rfl).trans (List.Perm.cons _ (List.Perm.refl _))))))))))))))))
  exact x_ret C0 ⟨v_6, v_4, v_7, v_8, v_9, v_10, v_11, v_12⟩ hw h dX6_keep_23

abbrev rmX6_sell : Room := { frames := 5, cells := 0, slots := 0, locals := 111 }
set_option maxRecDepth 100000 in
set_option maxHeartbeats 4000000 in
theorem c_X6_sell (l : Launch) (E : EE) (aG : Nat → Nat) (a0 : Nat → Nat) (a1 : Nat → Nat) (a2 : Nat → Nat) (a3 : Nat → Nat) (aH : Nat → Nat) (h0 : Nat → Nat) (h1 : Nat → Nat) (h2 : Nat → Nat) (h3 : Nat → Nat) (aS : Nat → Nat) {v0 : V} {v1 : V} {v2 : V} {v3 : V} {v4 : V} {v5 : V} {v6 : V} {v7 : V}  {p1 : Int32} {p2 : Int32} {post : Int32 → V → V → V → V → V → V → V → V → Prop} (h : s_X6_sell v0 v1 v2 v3 v4 v5 v6 v7 p1 p2 post) : KI l E yX6_sell wsX6_sell rmX6_sell [.ref (aG 0), .int p1, .int p2] (List.flatten [cG aG (a0 0) (a1 0) (a2 0) (a3 0) (aH 0) (aS 0) v0, cM E a0 v1, cM E a1 v2, cH E aH (h0 0) (h1 0) (h2 0) (h3 0) v3, cM E h0 v4, cM E h1 v5, cM E h2 v6, cM E h3 v7]) (S := V × V × V × V × V × V × V × V) (fun r (u : V × V × V × V × V × V × V × V) => post r u.1 u.2.1 u.2.2.1 u.2.2.2.1 u.2.2.2.2.1 u.2.2.2.2.2.1 u.2.2.2.2.2.2.1 u.2.2.2.2.2.2.2) (fun (u : V × V × V × V × V × V × V × V) => (List.flatten [cG aG (a0 0) (a1 0) (a2 0) (a3 0) (aH 0) (aS 0) u.1, cM E a0 u.2.1, cM E a1 u.2.2.1, cH E aH (h0 0) (h1 0) (h2 0) (h3 0) u.2.2.2.1, cM E h0 u.2.2.2.2.1, cM E h1 u.2.2.2.2.2.1, cM E h2 u.2.2.2.2.2.2.1, cM E h3 u.2.2.2.2.2.2.2])) := by
  unfold s_X6_sell at h
  refine KI.go (cc := cX6_sell) (ret := (some .int)) (maxL := 3) (own := RX6) (by decide) rfl (Nat.le_of_ble_eq_true rfl) rfl (fun p e s m below meth c A ls C0 hw hl => ?_)
  have hx := C0.1
  have hb := C0.2.1
  have hiX6 : ∀ w ∈ wsX60, w ∈ wsX6_sell := fun w h => List.mem_cons_of_mem _ (List.mem_append_left _ (List.mem_append_left _ (List.mem_append_left _ (List.mem_append_left _ (List.mem_append_left _ (List.mem_append_right _ h))))))
  replace hl : lv_has ls 3 [(0, .ref (aG 0)), (1, .int p1), (2, .int p2)] := hl
  refine lv_aload_n hx hb dX6_sell_0 rfl (lv_at hl 0 rfl) ?_
  refine x_get C0 hw 6 hiX6 rfl 0 rfl 1 (by decide) 1 rfl rfl dX6_sell_1 ?_
  refine lv_aload_n hx hb dX6_sell_4 rfl (lv_at hl 0 rfl) ?_
  refine x_get C0 hw 6 hiX6 rfl 0 rfl 0 (by decide) 2 rfl rfl dX6_sell_5 ?_
  refine x_cVv (As := [.ref (a0 0)]) (rest := []) (F := (List.flatten [cG aG (a0 0) (a1 0) (a2 0) (a3 0) (aH 0) (aS 0) v0, cH E aH (h0 0) (h1 0) (h2 0) (h3 0) v3, cM E h0 v4, cM E h1 v5, cM E h2 v6, cM E h3 v7])) C0 hw (p_fl (ds := [cM E a1 v2, cM E a0 v1]) ((p_pk _ 2 _ rfl).trans (List.Perm.cons _ ((p_pk _ 1 _ rfl).trans (List.Perm.cons _ (List.Perm.refl _)))))) hl.1 24 1 rfl rfl (c_X1_copyFrom l E a1 a0 h) 1 gX6_sell_X1_copyFrom rfl ⟨rfl, rfl⟩ (by decide +kernel) ⟨Nat.le_of_ble_eq_true rfl, Nat.le_of_ble_eq_true rfl⟩ rfl rfl (Nat.le_of_ble_eq_true rfl) dX6_sell_8 ⟨Nat.zero_le _, Nat.zero_le _⟩ (fun u_14 H locs h hw => ?_)
  obtain ⟨v_1, v_2⟩ := u_14
  replace hw : mw E A s.heap H locs (List.flatten [cG aG (a0 0) (a1 0) (a2 0) (a3 0) (aH 0) (aS 0) v0, cM E a0 v_2, cM E a1 v_1, cH E aH (h0 0) (h1 0) (h2 0) (h3 0) v3, cM E h0 v4, cM E h1 v5, cM E h2 v6, cM E h3 v7]) := hw.perm (p_bk (ds := [cM E a1 v_1, cM E a0 v_2]) ((p_pk _ 2 _ rfl).trans (List.Perm.cons _ ((p_pk _ 1 _ rfl).trans (List.Perm.cons _ (List.Perm.refl _))))))
  refine lv_aload_n hx hb dX6_sell_11 rfl (lv_at hl 0 rfl) ?_
  refine lv_aload_n hx hb dX6_sell_12 rfl (lv_at hl 0 rfl) ?_
  refine x_get C0 hw 6 hiX6 rfl 0 rfl 0 (by decide) 2 rfl rfl dX6_sell_13 ?_
  refine lv_iload_n hx hb dX6_sell_16 rfl (lv_at hl 1 rfl) ?_
  refine lv_iload_n hx hb dX6_sell_17 rfl (lv_at hl 2 rfl) ?_
  refine x_cV (As := [.int p1, .int p2]) (rest := [.ref (aG 0)]) (F := (List.flatten [cG aG (a0 0) (a1 0) (a2 0) (a3 0) (aH 0) (aS 0) v0, cM E a1 v_1, cH E aH (h0 0) (h1 0) (h2 0) (h3 0) v3, cM E h0 v4, cM E h1 v5, cM E h2 v6, cM E h3 v7])) C0 hw (p_fl1 ((p_pk _ 1 _ rfl).trans (List.Perm.cons _ (List.Perm.refl _)))) hl.1 1 1 rfl rfl (c_X1_sellStone l E a0 h) 2 gX6_sell_X1_sellStone rfl ⟨rfl, rfl⟩ (by decide +kernel) ⟨Nat.le_of_ble_eq_true rfl, Nat.le_of_ble_eq_true rfl⟩ rfl rfl (Nat.le_of_ble_eq_true rfl) dX6_sell_18 ⟨Nat.zero_le _, Nat.zero_le _⟩ (fun r_3 v_4 H locs h hw => ?_)
  replace hw : mw E A s.heap H locs (List.flatten [cG aG (a0 0) (a1 0) (a2 0) (a3 0) (aH 0) (aS 0) v0, cM E a0 v_4, cM E a1 v_1, cH E aH (h0 0) (h1 0) (h2 0) (h3 0) v3, cM E h0 v4, cM E h1 v5, cM E h2 v6, cM E h3 v7]) := hw.perm (p_bk1 ((p_pk _ 1 _ rfl).trans (List.Perm.cons _ (List.Perm.refl _))))
  refine x_cV (As := [.int r_3]) (rest := []) (F := (List.flatten [cM E a0 v_4])) C0 hw (p_fl (ds := [cG aG (a0 0) (a1 0) (a2 0) (a3 0) (aH 0) (aS 0) v0, cM E a1 v_1, cH E aH (h0 0) (h1 0) (h2 0) (h3 0) v3, cM E h0 v4, cM E h1 v5, cM E h2 v6, cM E h3 v7]) ((p_pk _ 0 _ rfl).trans (List.Perm.cons _ ((p_pk _ 1 _ rfl).trans (List.Perm.cons _ ((p_pk _ 1 _ rfl).trans (List.Perm.cons _ ((p_pk _ 1 _ rfl).trans (List.Perm.cons _ ((p_pk _ 1 _ rfl).trans (List.Perm.cons _ ((p_pk _ 1 _ rfl).trans (List.Perm.cons _ ((p_pk _ 1 _ rfl).trans (List.Perm.cons _ (List.Perm.refl _)))))))))))))))) hl.1 0 6 rfl rfl (c_X6_recorded l E aG a0 a1 a2 a3 aH h0 h1 h2 h3 aS h) 1 gX6_sell_X6_recorded rfl ⟨rfl, rfl⟩ (by decide +kernel) ⟨Nat.le_of_ble_eq_true rfl, Nat.le_of_ble_eq_true rfl⟩ rfl rfl (Nat.le_of_ble_eq_true rfl) dX6_sell_21 ⟨Nat.zero_le _, Nat.zero_le _⟩ (fun r_5 u_13 H locs h hw => ?_)
  obtain ⟨v_6, v_7, v_8, v_9, v_10, v_11, v_12⟩ := u_13
  replace hw : mw E A s.heap H locs (List.flatten [cG aG (a0 0) (a1 0) (a2 0) (a3 0) (aH 0) (aS 0) v_6, cM E a0 v_4, cM E a1 v_7, cH E aH (h0 0) (h1 0) (h2 0) (h3 0) v_8, cM E h0 v_9, cM E h1 v_10, cM E h2 v_11, cM E h3 v_12]) := hw.perm (p_bk (ds := [cG aG (a0 0) (a1 0) (a2 0) (a3 0) (aH 0) (aS 0) v_6, cM E a1 v_7, cH E aH (h0 0) (h1 0) (h2 0) (h3 0) v_8, cM E h0 v_9, cM E h1 v_10, cM E h2 v_11, cM E h3 v_12]) ((p_pk _ 0 _ rfl).trans (List.Perm.cons _ ((p_pk _ 1 _ rfl).trans (List.Perm.cons _ ((p_pk _ 1 _ rfl).trans (List.Perm.cons _ ((p_pk _ 1 _ rfl).trans (List.Perm.cons _ ((p_pk _ 1 _ rfl).trans (List.Perm.cons _ ((p_pk _ 1 _ rfl).trans (List.Perm.cons _ ((p_pk _ 1 _ rfl).trans (List.Perm.cons _ (List.Perm.refl _))))))))))))))))
  exact x_ret C0 ⟨v_6, v_4, v_7, v_8, v_9, v_10, v_11, v_12⟩ hw h dX6_sell_24

abbrev rmX6_grade : Room := { frames := 5, cells := 0, slots := 0, locals := 111 }
set_option maxRecDepth 100000 in
set_option maxHeartbeats 4000000 in
theorem c_X6_grade (l : Launch) (E : EE) (aG : Nat → Nat) (a0 : Nat → Nat) (a1 : Nat → Nat) (a2 : Nat → Nat) (a3 : Nat → Nat) (aH : Nat → Nat) (h0 : Nat → Nat) (h1 : Nat → Nat) (h2 : Nat → Nat) (h3 : Nat → Nat) (aS : Nat → Nat) {v0 : V} {v1 : V} {v2 : V} {v3 : V} {v4 : V} {v5 : V} {v6 : V} {v7 : V}  {p1 : Int32} {p2 : Int32} {p3 : Int32} {post : Int32 → V → V → V → V → V → V → V → V → Prop} (h : s_X6_grade v0 v1 v2 v3 v4 v5 v6 v7 p1 p2 p3 post) : KI l E yX6_grade wsX6_grade rmX6_grade [.ref (aG 0), .int p1, .int p2, .int p3] (List.flatten [cG aG (a0 0) (a1 0) (a2 0) (a3 0) (aH 0) (aS 0) v0, cM E a0 v1, cM E a1 v2, cH E aH (h0 0) (h1 0) (h2 0) (h3 0) v3, cM E h0 v4, cM E h1 v5, cM E h2 v6, cM E h3 v7]) (S := V × V × V × V × V × V × V × V) (fun r (u : V × V × V × V × V × V × V × V) => post r u.1 u.2.1 u.2.2.1 u.2.2.2.1 u.2.2.2.2.1 u.2.2.2.2.2.1 u.2.2.2.2.2.2.1 u.2.2.2.2.2.2.2) (fun (u : V × V × V × V × V × V × V × V) => (List.flatten [cG aG (a0 0) (a1 0) (a2 0) (a3 0) (aH 0) (aS 0) u.1, cM E a0 u.2.1, cM E a1 u.2.2.1, cH E aH (h0 0) (h1 0) (h2 0) (h3 0) u.2.2.2.1, cM E h0 u.2.2.2.2.1, cM E h1 u.2.2.2.2.2.1, cM E h2 u.2.2.2.2.2.2.1, cM E h3 u.2.2.2.2.2.2.2])) := by
  unfold s_X6_grade at h
  refine KI.go (cc := cX6_grade) (ret := (some .int)) (maxL := 4) (own := RX6) (by decide) rfl (Nat.le_of_ble_eq_true rfl) rfl (fun p e s m below meth c A ls C0 hw hl => ?_)
  have hx := C0.1
  have hb := C0.2.1
  have hiX6 : ∀ w ∈ wsX60, w ∈ wsX6_grade := fun w h => List.mem_cons_of_mem _ (List.mem_append_left _ (List.mem_append_left _ (List.mem_append_left _ (List.mem_append_left _ (List.mem_append_left _ (List.mem_append_right _ h))))))
  replace hl : lv_has ls 4 [(0, .ref (aG 0)), (1, .int p1), (2, .int p2), (3, .int p3)] := hl
  refine lv_aload_n hx hb dX6_grade_0 rfl (lv_at hl 0 rfl) ?_
  refine x_get C0 hw 6 hiX6 rfl 0 rfl 1 (by decide) 1 rfl rfl dX6_grade_1 ?_
  refine lv_aload_n hx hb dX6_grade_4 rfl (lv_at hl 0 rfl) ?_
  refine x_get C0 hw 6 hiX6 rfl 0 rfl 0 (by decide) 2 rfl rfl dX6_grade_5 ?_
  refine x_cVv (As := [.ref (a0 0)]) (rest := []) (F := (List.flatten [cG aG (a0 0) (a1 0) (a2 0) (a3 0) (aH 0) (aS 0) v0, cH E aH (h0 0) (h1 0) (h2 0) (h3 0) v3, cM E h0 v4, cM E h1 v5, cM E h2 v6, cM E h3 v7])) C0 hw (p_fl (ds := [cM E a1 v2, cM E a0 v1]) ((p_pk _ 2 _ rfl).trans (List.Perm.cons _ ((p_pk _ 1 _ rfl).trans (List.Perm.cons _ (List.Perm.refl _)))))) hl.1 24 1 rfl rfl (c_X1_copyFrom l E a1 a0 h) 1 gX6_grade_X1_copyFrom rfl ⟨rfl, rfl⟩ (by decide +kernel) ⟨Nat.le_of_ble_eq_true rfl, Nat.le_of_ble_eq_true rfl⟩ rfl rfl (Nat.le_of_ble_eq_true rfl) dX6_grade_8 ⟨Nat.zero_le _, Nat.zero_le _⟩ (fun u_14 H locs h hw => ?_)
  obtain ⟨v_1, v_2⟩ := u_14
  replace hw : mw E A s.heap H locs (List.flatten [cG aG (a0 0) (a1 0) (a2 0) (a3 0) (aH 0) (aS 0) v0, cM E a0 v_2, cM E a1 v_1, cH E aH (h0 0) (h1 0) (h2 0) (h3 0) v3, cM E h0 v4, cM E h1 v5, cM E h2 v6, cM E h3 v7]) := hw.perm (p_bk (ds := [cM E a1 v_1, cM E a0 v_2]) ((p_pk _ 2 _ rfl).trans (List.Perm.cons _ ((p_pk _ 1 _ rfl).trans (List.Perm.cons _ (List.Perm.refl _))))))
  refine lv_aload_n hx hb dX6_grade_11 rfl (lv_at hl 0 rfl) ?_
  refine lv_aload_n hx hb dX6_grade_12 rfl (lv_at hl 0 rfl) ?_
  refine x_get C0 hw 6 hiX6 rfl 0 rfl 0 (by decide) 2 rfl rfl dX6_grade_13 ?_
  refine lv_iload_n hx hb dX6_grade_16 rfl (lv_at hl 1 rfl) ?_
  refine lv_iload_n hx hb dX6_grade_17 rfl (lv_at hl 2 rfl) ?_
  refine lv_iload_n hx hb dX6_grade_18 rfl (lv_at hl 3 rfl) ?_
  refine x_cV (As := [.int p1, .int p2, .int p3]) (rest := [.ref (aG 0)]) (F := (List.flatten [cG aG (a0 0) (a1 0) (a2 0) (a3 0) (aH 0) (aS 0) v0, cM E a1 v_1, cH E aH (h0 0) (h1 0) (h2 0) (h3 0) v3, cM E h0 v4, cM E h1 v5, cM E h2 v6, cM E h3 v7])) C0 hw (p_fl1 ((p_pk _ 1 _ rfl).trans (List.Perm.cons _ (List.Perm.refl _)))) hl.1 1 1 rfl rfl (c_X1_regrade l E a0 h) 3 gX6_grade_X1_regrade rfl ⟨rfl, rfl⟩ (by decide +kernel) ⟨Nat.le_of_ble_eq_true rfl, Nat.le_of_ble_eq_true rfl⟩ rfl rfl (Nat.le_of_ble_eq_true rfl) dX6_grade_19 ⟨Nat.zero_le _, Nat.zero_le _⟩ (fun r_3 v_4 H locs h hw => ?_)
  replace hw : mw E A s.heap H locs (List.flatten [cG aG (a0 0) (a1 0) (a2 0) (a3 0) (aH 0) (aS 0) v0, cM E a0 v_4, cM E a1 v_1, cH E aH (h0 0) (h1 0) (h2 0) (h3 0) v3, cM E h0 v4, cM E h1 v5, cM E h2 v6, cM E h3 v7]) := hw.perm (p_bk1 ((p_pk _ 1 _ rfl).trans (List.Perm.cons _ (List.Perm.refl _))))
  refine x_cV (As := [.int r_3]) (rest := []) (F := (List.flatten [cM E a0 v_4])) C0 hw (p_fl (ds := [cG aG (a0 0) (a1 0) (a2 0) (a3 0) (aH 0) (aS 0) v0, cM E a1 v_1, cH E aH (h0 0) (h1 0) (h2 0) (h3 0) v3, cM E h0 v4, cM E h1 v5, cM E h2 v6, cM E h3 v7]) ((p_pk _ 0 _ rfl).trans (List.Perm.cons _ ((p_pk _ 1 _ rfl).trans (List.Perm.cons _ ((p_pk _ 1 _ rfl).trans (List.Perm.cons _ ((p_pk _ 1 _ rfl).trans (List.Perm.cons _ ((p_pk _ 1 _ rfl).trans (List.Perm.cons _ ((p_pk _ 1 _ rfl).trans (List.Perm.cons _ ((p_pk _ 1 _ rfl).trans (List.Perm.cons _ (List.Perm.refl _)))))))))))))))) hl.1 0 6 rfl rfl (c_X6_recorded l E aG a0 a1 a2 a3 aH h0 h1 h2 h3 aS h) 1 gX6_grade_X6_recorded rfl ⟨rfl, rfl⟩ (by decide +kernel) ⟨Nat.le_of_ble_eq_true rfl, Nat.le_of_ble_eq_true rfl⟩ rfl rfl (Nat.le_of_ble_eq_true rfl) dX6_grade_22 ⟨Nat.zero_le _, Nat.zero_le _⟩ (fun r_5 u_13 H locs h hw => ?_)
  obtain ⟨v_6, v_7, v_8, v_9, v_10, v_11, v_12⟩ := u_13
  replace hw : mw E A s.heap H locs (List.flatten [cG aG (a0 0) (a1 0) (a2 0) (a3 0) (aH 0) (aS 0) v_6, cM E a0 v_4, cM E a1 v_7, cH E aH (h0 0) (h1 0) (h2 0) (h3 0) v_8, cM E h0 v_9, cM E h1 v_10, cM E h2 v_11, cM E h3 v_12]) := hw.perm (p_bk (ds := [cG aG (a0 0) (a1 0) (a2 0) (a3 0) (aH 0) (aS 0) v_6, cM E a1 v_7, cH E aH (h0 0) (h1 0) (h2 0) (h3 0) v_8, cM E h0 v_9, cM E h1 v_10, cM E h2 v_11, cM E h3 v_12]) ((p_pk _ 0 _ rfl).trans (List.Perm.cons _ ((p_pk _ 1 _ rfl).trans (List.Perm.cons _ ((p_pk _ 1 _ rfl).trans (List.Perm.cons _ ((p_pk _ 1 _ rfl).trans (List.Perm.cons _ ((p_pk _ 1 _ rfl).trans (List.Perm.cons _ ((p_pk _ 1 _ rfl).trans (List.Perm.cons _ ((p_pk _ 1 _ rfl).trans (List.Perm.cons _ (List.Perm.refl _))))))))))))))))
  exact x_ret C0 ⟨v_6, v_4, v_7, v_8, v_9, v_10, v_11, v_12⟩ hw h dX6_grade_25

abbrev rmX6_pause : Room := { frames := 5, cells := 0, slots := 0, locals := 111 }
set_option maxRecDepth 100000 in
set_option maxHeartbeats 4000000 in
theorem c_X6_pause (l : Launch) (E : EE) (aG : Nat → Nat) (a0 : Nat → Nat) (a1 : Nat → Nat) (a2 : Nat → Nat) (a3 : Nat → Nat) (aH : Nat → Nat) (h0 : Nat → Nat) (h1 : Nat → Nat) (h2 : Nat → Nat) (h3 : Nat → Nat) (aS : Nat → Nat) {v0 : V} {v1 : V} {v2 : V} {v3 : V} {v4 : V} {v5 : V} {v6 : V} {v7 : V}  {p1 : Int32} {post : Int32 → V → V → V → V → V → V → V → V → Prop} (h : s_X6_pause v0 v1 v2 v3 v4 v5 v6 v7 p1 post) : KI l E yX6_pause wsX6_pause rmX6_pause [.ref (aG 0), .int p1] (List.flatten [cG aG (a0 0) (a1 0) (a2 0) (a3 0) (aH 0) (aS 0) v0, cM E a0 v1, cM E a1 v2, cH E aH (h0 0) (h1 0) (h2 0) (h3 0) v3, cM E h0 v4, cM E h1 v5, cM E h2 v6, cM E h3 v7]) (S := V × V × V × V × V × V × V × V) (fun r (u : V × V × V × V × V × V × V × V) => post r u.1 u.2.1 u.2.2.1 u.2.2.2.1 u.2.2.2.2.1 u.2.2.2.2.2.1 u.2.2.2.2.2.2.1 u.2.2.2.2.2.2.2) (fun (u : V × V × V × V × V × V × V × V) => (List.flatten [cG aG (a0 0) (a1 0) (a2 0) (a3 0) (aH 0) (aS 0) u.1, cM E a0 u.2.1, cM E a1 u.2.2.1, cH E aH (h0 0) (h1 0) (h2 0) (h3 0) u.2.2.2.1, cM E h0 u.2.2.2.2.1, cM E h1 u.2.2.2.2.2.1, cM E h2 u.2.2.2.2.2.2.1, cM E h3 u.2.2.2.2.2.2.2])) := by
  unfold s_X6_pause at h
  refine KI.go (cc := cX6_pause) (ret := (some .int)) (maxL := 2) (own := RX6) (by decide) rfl (Nat.le_of_ble_eq_true rfl) rfl (fun p e s m below meth c A ls C0 hw hl => ?_)
  have hx := C0.1
  have hb := C0.2.1
  have hiX6 : ∀ w ∈ wsX60, w ∈ wsX6_pause := fun w h => List.mem_cons_of_mem _ (List.mem_append_left _ (List.mem_append_left _ (List.mem_append_left _ (List.mem_append_left _ (List.mem_append_left _ (List.mem_append_right _ h))))))
  replace hl : lv_has ls 2 [(0, .ref (aG 0)), (1, .int p1)] := hl
  refine lv_aload_n hx hb dX6_pause_0 rfl (lv_at hl 0 rfl) ?_
  refine x_get C0 hw 6 hiX6 rfl 0 rfl 1 (by decide) 1 rfl rfl dX6_pause_1 ?_
  refine lv_aload_n hx hb dX6_pause_4 rfl (lv_at hl 0 rfl) ?_
  refine x_get C0 hw 6 hiX6 rfl 0 rfl 0 (by decide) 2 rfl rfl dX6_pause_5 ?_
  refine x_cVv (As := [.ref (a0 0)]) (rest := []) (F := (List.flatten [cG aG (a0 0) (a1 0) (a2 0) (a3 0) (aH 0) (aS 0) v0, cH E aH (h0 0) (h1 0) (h2 0) (h3 0) v3, cM E h0 v4, cM E h1 v5, cM E h2 v6, cM E h3 v7])) C0 hw (p_fl (ds := [cM E a1 v2, cM E a0 v1]) ((p_pk _ 2 _ rfl).trans (List.Perm.cons _ ((p_pk _ 1 _ rfl).trans (List.Perm.cons _ (List.Perm.refl _)))))) hl.1 24 1 rfl rfl (c_X1_copyFrom l E a1 a0 h) 1 gX6_pause_X1_copyFrom rfl ⟨rfl, rfl⟩ (by decide +kernel) ⟨Nat.le_of_ble_eq_true rfl, Nat.le_of_ble_eq_true rfl⟩ rfl rfl (Nat.le_of_ble_eq_true rfl) dX6_pause_8 ⟨Nat.zero_le _, Nat.zero_le _⟩ (fun u_14 H locs h hw => ?_)
  obtain ⟨v_1, v_2⟩ := u_14
  replace hw : mw E A s.heap H locs (List.flatten [cG aG (a0 0) (a1 0) (a2 0) (a3 0) (aH 0) (aS 0) v0, cM E a0 v_2, cM E a1 v_1, cH E aH (h0 0) (h1 0) (h2 0) (h3 0) v3, cM E h0 v4, cM E h1 v5, cM E h2 v6, cM E h3 v7]) := hw.perm (p_bk (ds := [cM E a1 v_1, cM E a0 v_2]) ((p_pk _ 2 _ rfl).trans (List.Perm.cons _ ((p_pk _ 1 _ rfl).trans (List.Perm.cons _ (List.Perm.refl _))))))
  refine lv_aload_n hx hb dX6_pause_11 rfl (lv_at hl 0 rfl) ?_
  refine lv_aload_n hx hb dX6_pause_12 rfl (lv_at hl 0 rfl) ?_
  refine x_get C0 hw 6 hiX6 rfl 0 rfl 0 (by decide) 2 rfl rfl dX6_pause_13 ?_
  refine lv_iload_n hx hb dX6_pause_16 rfl (lv_at hl 1 rfl) ?_
  refine x_cV (As := [.int p1]) (rest := [.ref (aG 0)]) (F := (List.flatten [cG aG (a0 0) (a1 0) (a2 0) (a3 0) (aH 0) (aS 0) v0, cM E a1 v_1, cH E aH (h0 0) (h1 0) (h2 0) (h3 0) v3, cM E h0 v4, cM E h1 v5, cM E h2 v6, cM E h3 v7])) C0 hw (p_fl1 ((p_pk _ 1 _ rfl).trans (List.Perm.cons _ (List.Perm.refl _)))) hl.1 1 1 rfl rfl (c_X1_passDays l E a0 h) 1 gX6_pause_X1_passDays rfl ⟨rfl, rfl⟩ (by decide +kernel) ⟨Nat.le_of_ble_eq_true rfl, Nat.le_of_ble_eq_true rfl⟩ rfl rfl (Nat.le_of_ble_eq_true rfl) dX6_pause_17 ⟨Nat.zero_le _, Nat.zero_le _⟩ (fun r_3 v_4 H locs h hw => ?_)
  replace hw : mw E A s.heap H locs (List.flatten [cG aG (a0 0) (a1 0) (a2 0) (a3 0) (aH 0) (aS 0) v0, cM E a0 v_4, cM E a1 v_1, cH E aH (h0 0) (h1 0) (h2 0) (h3 0) v3, cM E h0 v4, cM E h1 v5, cM E h2 v6, cM E h3 v7]) := hw.perm (p_bk1 ((p_pk _ 1 _ rfl).trans (List.Perm.cons _ (List.Perm.refl _))))
  refine x_cV (As := [.int r_3]) (rest := []) (F := (List.flatten [cM E a0 v_4])) C0 hw (p_fl (ds := [cG aG (a0 0) (a1 0) (a2 0) (a3 0) (aH 0) (aS 0) v0, cM E a1 v_1, cH E aH (h0 0) (h1 0) (h2 0) (h3 0) v3, cM E h0 v4, cM E h1 v5, cM E h2 v6, cM E h3 v7]) ((p_pk _ 0 _ rfl).trans (List.Perm.cons _ ((p_pk _ 1 _ rfl).trans (List.Perm.cons _ ((p_pk _ 1 _ rfl).trans (List.Perm.cons _ ((p_pk _ 1 _ rfl).trans (List.Perm.cons _ ((p_pk _ 1 _ rfl).trans (List.Perm.cons _ ((p_pk _ 1 _ rfl).trans (List.Perm.cons _ ((p_pk _ 1 _ rfl).trans (List.Perm.cons _ (List.Perm.refl _)))))))))))))))) hl.1 0 6 rfl rfl (c_X6_recorded l E aG a0 a1 a2 a3 aH h0 h1 h2 h3 aS h) 1 gX6_pause_X6_recorded rfl ⟨rfl, rfl⟩ (by decide +kernel) ⟨Nat.le_of_ble_eq_true rfl, Nat.le_of_ble_eq_true rfl⟩ rfl rfl (Nat.le_of_ble_eq_true rfl) dX6_pause_20 ⟨Nat.zero_le _, Nat.zero_le _⟩ (fun r_5 u_13 H locs h hw => ?_)
  obtain ⟨v_6, v_7, v_8, v_9, v_10, v_11, v_12⟩ := u_13
  replace hw : mw E A s.heap H locs (List.flatten [cG aG (a0 0) (a1 0) (a2 0) (a3 0) (aH 0) (aS 0) v_6, cM E a0 v_4, cM E a1 v_7, cH E aH (h0 0) (h1 0) (h2 0) (h3 0) v_8, cM E h0 v_9, cM E h1 v_10, cM E h2 v_11, cM E h3 v_12]) := hw.perm (p_bk (ds := [cG aG (a0 0) (a1 0) (a2 0) (a3 0) (aH 0) (aS 0) v_6, cM E a1 v_7, cH E aH (h0 0) (h1 0) (h2 0) (h3 0) v_8, cM E h0 v_9, cM E h1 v_10, cM E h2 v_11, cM E h3 v_12]) ((p_pk _ 0 _ rfl).trans (List.Perm.cons _ ((p_pk _ 1 _ rfl).trans (List.Perm.cons _ ((p_pk _ 1 _ rfl).trans (List.Perm.cons _ ((p_pk _ 1 _ rfl).trans (List.Perm.cons _ ((p_pk _ 1 _ rfl).trans (List.Perm.cons _ ((p_pk _ 1 _ rfl).trans (List.Perm.cons _ ((p_pk _ 1 _ rfl).trans (List.Perm.cons _ (List.Perm.refl _))))))))))))))))
  exact x_ret C0 ⟨v_6, v_4, v_7, v_8, v_9, v_10, v_11, v_12⟩ hw h dX6_pause_23

abbrev rmX6_set : Room := { frames := 5, cells := 0, slots := 0, locals := 111 }
set_option maxRecDepth 100000 in
set_option maxHeartbeats 4000000 in
theorem c_X6_set (l : Launch) (E : EE) (aG : Nat → Nat) (a0 : Nat → Nat) (a1 : Nat → Nat) (a2 : Nat → Nat) (a3 : Nat → Nat) (aH : Nat → Nat) (h0 : Nat → Nat) (h1 : Nat → Nat) (h2 : Nat → Nat) (h3 : Nat → Nat) (aS : Nat → Nat) {v0 : V} {v1 : V} {v2 : V} {v3 : V} {v4 : V} {v5 : V} {v6 : V} {v7 : V}  {p1 : Int32} {p2 : Int32} {post : Int32 → V → V → V → V → V → V → V → V → Prop} (h : s_X6_set v0 v1 v2 v3 v4 v5 v6 v7 p1 p2 post) : KI l E yX6_set wsX6_set rmX6_set [.ref (aG 0), .int p1, .int p2] (List.flatten [cG aG (a0 0) (a1 0) (a2 0) (a3 0) (aH 0) (aS 0) v0, cM E a0 v1, cM E a1 v2, cH E aH (h0 0) (h1 0) (h2 0) (h3 0) v3, cM E h0 v4, cM E h1 v5, cM E h2 v6, cM E h3 v7]) (S := V × V × V × V × V × V × V × V) (fun r (u : V × V × V × V × V × V × V × V) => post r u.1 u.2.1 u.2.2.1 u.2.2.2.1 u.2.2.2.2.1 u.2.2.2.2.2.1 u.2.2.2.2.2.2.1 u.2.2.2.2.2.2.2) (fun (u : V × V × V × V × V × V × V × V) => (List.flatten [cG aG (a0 0) (a1 0) (a2 0) (a3 0) (aH 0) (aS 0) u.1, cM E a0 u.2.1, cM E a1 u.2.2.1, cH E aH (h0 0) (h1 0) (h2 0) (h3 0) u.2.2.2.1, cM E h0 u.2.2.2.2.1, cM E h1 u.2.2.2.2.2.1, cM E h2 u.2.2.2.2.2.2.1, cM E h3 u.2.2.2.2.2.2.2])) := by
  unfold s_X6_set at h
  refine KI.go (cc := cX6_set) (ret := (some .int)) (maxL := 3) (own := RX6) (by decide) rfl (Nat.le_of_ble_eq_true rfl) rfl (fun p e s m below meth c A ls C0 hw hl => ?_)
  have hx := C0.1
  have hb := C0.2.1
  have hiX6 : ∀ w ∈ wsX60, w ∈ wsX6_set := fun w h => List.mem_cons_of_mem _ (List.mem_append_left _ (List.mem_append_left _ (List.mem_append_left _ (List.mem_append_left _ (List.mem_append_left _ (List.mem_append_right _ h))))))
  replace hl : lv_has ls 3 [(0, .ref (aG 0)), (1, .int p1), (2, .int p2)] := hl
  refine lv_aload_n hx hb dX6_set_0 rfl (lv_at hl 0 rfl) ?_
  refine x_get C0 hw 6 hiX6 rfl 0 rfl 1 (by decide) 1 rfl rfl dX6_set_1 ?_
  refine lv_aload_n hx hb dX6_set_4 rfl (lv_at hl 0 rfl) ?_
  refine x_get C0 hw 6 hiX6 rfl 0 rfl 0 (by decide) 2 rfl rfl dX6_set_5 ?_
  refine x_cVv (As := [.ref (a0 0)]) (rest := []) (F := (List.flatten [cG aG (a0 0) (a1 0) (a2 0) (a3 0) (aH 0) (aS 0) v0, cH E aH (h0 0) (h1 0) (h2 0) (h3 0) v3, cM E h0 v4, cM E h1 v5, cM E h2 v6, cM E h3 v7])) C0 hw (p_fl (ds := [cM E a1 v2, cM E a0 v1]) ((p_pk _ 2 _ rfl).trans (List.Perm.cons _ ((p_pk _ 1 _ rfl).trans (List.Perm.cons _ (List.Perm.refl _)))))) hl.1 24 1 rfl rfl (c_X1_copyFrom l E a1 a0 h) 1 gX6_set_X1_copyFrom rfl ⟨rfl, rfl⟩ (by decide +kernel) ⟨Nat.le_of_ble_eq_true rfl, Nat.le_of_ble_eq_true rfl⟩ rfl rfl (Nat.le_of_ble_eq_true rfl) dX6_set_8 ⟨Nat.zero_le _, Nat.zero_le _⟩ (fun u_14 H locs h hw => ?_)
  obtain ⟨v_1, v_2⟩ := u_14
  replace hw : mw E A s.heap H locs (List.flatten [cG aG (a0 0) (a1 0) (a2 0) (a3 0) (aH 0) (aS 0) v0, cM E a0 v_2, cM E a1 v_1, cH E aH (h0 0) (h1 0) (h2 0) (h3 0) v3, cM E h0 v4, cM E h1 v5, cM E h2 v6, cM E h3 v7]) := hw.perm (p_bk (ds := [cM E a1 v_1, cM E a0 v_2]) ((p_pk _ 2 _ rfl).trans (List.Perm.cons _ ((p_pk _ 1 _ rfl).trans (List.Perm.cons _ (List.Perm.refl _))))))
  refine lv_aload_n hx hb dX6_set_11 rfl (lv_at hl 0 rfl) ?_
  refine lv_aload_n hx hb dX6_set_12 rfl (lv_at hl 0 rfl) ?_
  refine x_get C0 hw 6 hiX6 rfl 0 rfl 0 (by decide) 2 rfl rfl dX6_set_13 ?_
  refine lv_iload_n hx hb dX6_set_16 rfl (lv_at hl 1 rfl) ?_
  refine lv_iload_n hx hb dX6_set_17 rfl (lv_at hl 2 rfl) ?_
  refine x_cV (As := [.int p1, .int p2]) (rest := [.ref (aG 0)]) (F := (List.flatten [cG aG (a0 0) (a1 0) (a2 0) (a3 0) (aH 0) (aS 0) v0, cM E a1 v_1, cH E aH (h0 0) (h1 0) (h2 0) (h3 0) v3, cM E h0 v4, cM E h1 v5, cM E h2 v6, cM E h3 v7])) C0 hw (p_fl1 ((p_pk _ 1 _ rfl).trans (List.Perm.cons _ (List.Perm.refl _)))) hl.1 1 1 rfl rfl (c_X1_putSetting l E a0 h) 2 gX6_set_X1_putSetting rfl ⟨rfl, rfl⟩ (by decide +kernel) ⟨Nat.le_of_ble_eq_true rfl, Nat.le_of_ble_eq_true rfl⟩ rfl rfl (Nat.le_of_ble_eq_true rfl) dX6_set_18 ⟨Nat.zero_le _, Nat.zero_le _⟩ (fun r_3 v_4 H locs h hw => ?_)
  replace hw : mw E A s.heap H locs (List.flatten [cG aG (a0 0) (a1 0) (a2 0) (a3 0) (aH 0) (aS 0) v0, cM E a0 v_4, cM E a1 v_1, cH E aH (h0 0) (h1 0) (h2 0) (h3 0) v3, cM E h0 v4, cM E h1 v5, cM E h2 v6, cM E h3 v7]) := hw.perm (p_bk1 ((p_pk _ 1 _ rfl).trans (List.Perm.cons _ (List.Perm.refl _))))
  refine x_cV (As := [.int r_3]) (rest := []) (F := (List.flatten [cM E a0 v_4])) C0 hw (p_fl (ds := [cG aG (a0 0) (a1 0) (a2 0) (a3 0) (aH 0) (aS 0) v0, cM E a1 v_1, cH E aH (h0 0) (h1 0) (h2 0) (h3 0) v3, cM E h0 v4, cM E h1 v5, cM E h2 v6, cM E h3 v7]) ((p_pk _ 0 _ rfl).trans (List.Perm.cons _ ((p_pk _ 1 _ rfl).trans (List.Perm.cons _ ((p_pk _ 1 _ rfl).trans (List.Perm.cons _ ((p_pk _ 1 _ rfl).trans (List.Perm.cons _ ((p_pk _ 1 _ rfl).trans (List.Perm.cons _ ((p_pk _ 1 _ rfl).trans (List.Perm.cons _ ((p_pk _ 1 _ rfl).trans (List.Perm.cons _ (List.Perm.refl _)))))))))))))))) hl.1 0 6 rfl rfl (c_X6_recorded l E aG a0 a1 a2 a3 aH h0 h1 h2 h3 aS h) 1 gX6_set_X6_recorded rfl ⟨rfl, rfl⟩ (by decide +kernel) ⟨Nat.le_of_ble_eq_true rfl, Nat.le_of_ble_eq_true rfl⟩ rfl rfl (Nat.le_of_ble_eq_true rfl) dX6_set_21 ⟨Nat.zero_le _, Nat.zero_le _⟩ (fun r_5 u_13 H locs h hw => ?_)
  obtain ⟨v_6, v_7, v_8, v_9, v_10, v_11, v_12⟩ := u_13
  replace hw : mw E A s.heap H locs (List.flatten [cG aG (a0 0) (a1 0) (a2 0) (a3 0) (aH 0) (aS 0) v_6, cM E a0 v_4, cM E a1 v_7, cH E aH (h0 0) (h1 0) (h2 0) (h3 0) v_8, cM E h0 v_9, cM E h1 v_10, cM E h2 v_11, cM E h3 v_12]) := hw.perm (p_bk (ds := [cG aG (a0 0) (a1 0) (a2 0) (a3 0) (aH 0) (aS 0) v_6, cM E a1 v_7, cH E aH (h0 0) (h1 0) (h2 0) (h3 0) v_8, cM E h0 v_9, cM E h1 v_10, cM E h2 v_11, cM E h3 v_12]) ((p_pk _ 0 _ rfl).trans (List.Perm.cons _ ((p_pk _ 1 _ rfl).trans (List.Perm.cons _ ((p_pk _ 1 _ rfl).trans (List.Perm.cons _ ((p_pk _ 1 _ rfl).trans (List.Perm.cons _ ((p_pk _ 1 _ rfl).trans (List.Perm.cons _ ((p_pk _ 1 _ rfl).trans (List.Perm.cons _ ((p_pk _ 1 _ rfl).trans (List.Perm.cons _ (List.Perm.refl _))))))))))))))))
  exact x_ret C0 ⟨v_6, v_4, v_7, v_8, v_9, v_10, v_11, v_12⟩ hw h dX6_set_24

abbrev rmX6_stoneOf : Room := { frames := 3, cells := 0, slots := 0, locals := 70 }
set_option maxRecDepth 100000 in
set_option maxHeartbeats 4000000 in
theorem c_X6_stoneOf (l : Launch) (E : EE) (aG : Nat → Nat) (a0 : Nat → Nat) (a1 : Nat → Nat) (a2 : Nat → Nat) (a3 : Nat → Nat) (aH : Nat → Nat) (h0 : Nat → Nat) (h1 : Nat → Nat) (h2 : Nat → Nat) (h3 : Nat → Nat) (aS : Nat → Nat) {v0 : V} {v1 : V}  {p1 : Int32} {p2 : Int32} {post : Int32 → V → V → Prop} (h : s_X6_stoneOf v0 v1 p1 p2 post) : KI l E yX6_stoneOf wsX6_stoneOf rmX6_stoneOf [.ref (aG 0), .int p1, .int p2] (List.flatten [cG aG (a0 0) (a1 0) (a2 0) (a3 0) (aH 0) (aS 0) v0, cM E a0 v1]) (S := V × V) (fun r (u : V × V) => post r u.1 u.2) (fun (u : V × V) => (List.flatten [cG aG (a0 0) (a1 0) (a2 0) (a3 0) (aH 0) (aS 0) u.1, cM E a0 u.2])) := by
  unfold s_X6_stoneOf at h
  refine KI.go (cc := cX6_stoneOf) (ret := (some .int)) (maxL := 3) (own := RX6) (by decide) rfl (Nat.le_of_ble_eq_true rfl) rfl (fun p e s m below meth c A ls C0 hw hl => ?_)
  have hx := C0.1
  have hb := C0.2.1
  have hiX1 : ∀ w ∈ wsX10, w ∈ wsX6_stoneOf := fun w h => List.mem_cons_of_mem _ (List.mem_append_left _ (List.mem_append_left _ (List.mem_append_right _ h)))
  have hiX6 : ∀ w ∈ wsX60, w ∈ wsX6_stoneOf := fun w h => List.mem_cons_of_mem _ (List.mem_append_left _ (List.mem_append_left _ (List.mem_append_left _ (List.mem_append_right _ h))))
  replace hl : lv_has ls 3 [(0, .ref (aG 0)), (1, .int p1), (2, .int p2)] := hl
  refine lv_aload_n hx hb dX6_stoneOf_0 rfl (lv_at hl 0 rfl) ?_
  refine x_get C0 hw 6 hiX6 rfl 0 rfl 0 (by decide) 1 rfl rfl dX6_stoneOf_1 ?_
  refine x_getN C0 hw 1 hiX1 rfl 1 rfl 1 (by decide) 22 rfl rfl dX6_stoneOf_4 ?_
  refine lv_iload_n hx hb dX6_stoneOf_7 rfl (lv_at hl 1 rfl) ?_
  refine x_cV (As := [.int p1]) (rest := []) (F := (List.flatten [cG aG (a0 0) (a1 0) (a2 0) (a3 0) (aH 0) (aS 0) v0])) C0 hw (p_fl1 ((p_pk _ 1 _ rfl).trans (List.Perm.cons _ (List.Perm.refl _)))) hl.1 7 5 rfl rfl (c_X5_has l E a0 h) 1 gX6_stoneOf_X5_has rfl ⟨rfl, rfl⟩ (by decide +kernel) ⟨Nat.le_of_ble_eq_true rfl, Nat.le_of_ble_eq_true rfl⟩ rfl rfl (Nat.le_of_ble_eq_true rfl) dX6_stoneOf_8 ⟨Nat.zero_le _, Nat.zero_le _⟩ (fun r_1 v_2 H locs h hw => ?_)
  replace hw : mw E A s.heap H locs (List.flatten [cG aG (a0 0) (a1 0) (a2 0) (a3 0) (aH 0) (aS 0) v0, cM E a0 v_2]) := hw.perm (p_bk1 ((p_pk _ 1 _ rfl).trans (List.Perm.cons _ (List.Perm.refl _))))
  refine lv_if_ne (tgt := 17) hx hb dX6_stoneOf_11 (by decide) (fun c_5 => ?_) (fun c_5 => ?_)
  · replace h := h.1 c_5
    refine lv_aload_n hx hb dX6_stoneOf_17 rfl (lv_at hl 0 rfl) ?_
    refine x_get C0 hw 6 hiX6 rfl 0 rfl 0 (by decide) 1 rfl rfl dX6_stoneOf_18 ?_
    refine lv_iload_n hx hb dX6_stoneOf_21 rfl (lv_at hl 1 rfl) ?_
    refine lv_iload_n hx hb dX6_stoneOf_22 rfl (lv_at hl 2 rfl) ?_
    refine x_cV (As := [.int p1, .int p2]) (rest := []) (F := (List.flatten [cG aG (a0 0) (a1 0) (a2 0) (a3 0) (aH 0) (aS 0) v0])) C0 hw (p_fl1 ((p_pk _ 1 _ rfl).trans (List.Perm.cons _ (List.Perm.refl _)))) hl.1 1 1 rfl rfl (c_X1_tellStone l E a0 h) 2 gX6_stoneOf_X1_tellStone rfl ⟨rfl, rfl⟩ (by decide +kernel) ⟨Nat.le_of_ble_eq_true rfl, Nat.le_of_ble_eq_true rfl⟩ rfl rfl (Nat.le_of_ble_eq_true rfl) dX6_stoneOf_23 ⟨Nat.zero_le _, Nat.zero_le _⟩ (fun r_3 v_4 H locs h hw => ?_)
    replace hw : mw E A s.heap H locs (List.flatten [cG aG (a0 0) (a1 0) (a2 0) (a3 0) (aH 0) (aS 0) v0, cM E a0 v_4]) := hw.perm (p_bk1 ((p_pk _ 1 _ rfl).trans (List.Perm.cons _ (List.Perm.refl _))))
    exact x_ret C0 ⟨v0, v_4⟩ hw h dX6_stoneOf_26
  · replace h := h.2 c_5
    refine x_ldc (v := (-10000001)) C0 2 rfl dX6_stoneOf_14 ?_
    exact x_ret C0 ⟨v0, v_2⟩ hw h dX6_stoneOf_16

abbrev rmX6_dealerOf : Room := { frames := 4, cells := 0, slots := 0, locals := 93 }
set_option maxRecDepth 100000 in
set_option maxHeartbeats 4000000 in
theorem c_X6_dealerOf (l : Launch) (E : EE) (aG : Nat → Nat) (a0 : Nat → Nat) (a1 : Nat → Nat) (a2 : Nat → Nat) (a3 : Nat → Nat) (aH : Nat → Nat) (h0 : Nat → Nat) (h1 : Nat → Nat) (h2 : Nat → Nat) (h3 : Nat → Nat) (aS : Nat → Nat) {v0 : V} {v1 : V}  {p1 : Int32} {p2 : Int32} {post : Int32 → V → V → Prop} (h : s_X6_dealerOf v0 v1 p1 p2 post) : KI l E yX6_dealerOf wsX6_dealerOf rmX6_dealerOf [.ref (aG 0), .int p1, .int p2] (List.flatten [cG aG (a0 0) (a1 0) (a2 0) (a3 0) (aH 0) (aS 0) v0, cM E a0 v1]) (S := V × V) (fun r (u : V × V) => post r u.1 u.2) (fun (u : V × V) => (List.flatten [cG aG (a0 0) (a1 0) (a2 0) (a3 0) (aH 0) (aS 0) u.1, cM E a0 u.2])) := by
  unfold s_X6_dealerOf at h
  refine KI.go (cc := cX6_dealerOf) (ret := (some .int)) (maxL := 3) (own := RX6) (by decide) rfl (Nat.le_of_ble_eq_true rfl) rfl (fun p e s m below meth c A ls C0 hw hl => ?_)
  have hx := C0.1
  have hb := C0.2.1
  have hiX6 : ∀ w ∈ wsX60, w ∈ wsX6_dealerOf := fun w h => List.mem_cons_of_mem _ (List.mem_append_left _ (List.mem_append_left _ (List.mem_append_left _ (List.mem_append_right _ h))))
  replace hl : lv_has ls 3 [(0, .ref (aG 0)), (1, .int p1), (2, .int p2)] := hl
  refine lv_aload_n hx hb dX6_dealerOf_0 rfl (lv_at hl 0 rfl) ?_
  refine x_get C0 hw 6 hiX6 rfl 0 rfl 0 (by decide) 1 rfl rfl dX6_dealerOf_1 ?_
  refine lv_iload_n hx hb dX6_dealerOf_4 rfl (lv_at hl 1 rfl) ?_
  refine x_cV (As := [.int p1]) (rest := []) (F := (List.flatten [cG aG (a0 0) (a1 0) (a2 0) (a3 0) (aH 0) (aS 0) v0])) C0 hw (p_fl1 ((p_pk _ 1 _ rfl).trans (List.Perm.cons _ (List.Perm.refl _)))) hl.1 1 1 rfl rfl (c_X1_hasDealer l E a0 h) 1 gX6_dealerOf_X1_hasDealer rfl ⟨rfl, rfl⟩ (by decide +kernel) ⟨Nat.le_of_ble_eq_true rfl, Nat.le_of_ble_eq_true rfl⟩ rfl rfl (Nat.le_of_ble_eq_true rfl) dX6_dealerOf_5 ⟨Nat.zero_le _, Nat.zero_le _⟩ (fun r_1 v_2 H locs h hw => ?_)
  replace hw : mw E A s.heap H locs (List.flatten [cG aG (a0 0) (a1 0) (a2 0) (a3 0) (aH 0) (aS 0) v0, cM E a0 v_2]) := hw.perm (p_bk1 ((p_pk _ 1 _ rfl).trans (List.Perm.cons _ (List.Perm.refl _))))
  refine lv_if_ne (tgt := 14) hx hb dX6_dealerOf_8 (by decide) (fun c_5 => ?_) (fun c_5 => ?_)
  · replace h := h.1 c_5
    refine lv_aload_n hx hb dX6_dealerOf_14 rfl (lv_at hl 0 rfl) ?_
    refine x_get C0 hw 6 hiX6 rfl 0 rfl 0 (by decide) 1 rfl rfl dX6_dealerOf_15 ?_
    refine lv_iload_n hx hb dX6_dealerOf_18 rfl (lv_at hl 1 rfl) ?_
    refine lv_iload_n hx hb dX6_dealerOf_19 rfl (lv_at hl 2 rfl) ?_
    refine x_cV (As := [.int p1, .int p2]) (rest := []) (F := (List.flatten [cG aG (a0 0) (a1 0) (a2 0) (a3 0) (aH 0) (aS 0) v0])) C0 hw (p_fl1 ((p_pk _ 1 _ rfl).trans (List.Perm.cons _ (List.Perm.refl _)))) hl.1 1 1 rfl rfl (c_X1_tellDealer l E a0 h) 2 gX6_dealerOf_X1_tellDealer rfl ⟨rfl, rfl⟩ (by decide +kernel) ⟨Nat.le_of_ble_eq_true rfl, Nat.le_of_ble_eq_true rfl⟩ rfl rfl (Nat.le_of_ble_eq_true rfl) dX6_dealerOf_20 ⟨Nat.zero_le _, Nat.zero_le _⟩ (fun r_3 v_4 H locs h hw => ?_)
    replace hw : mw E A s.heap H locs (List.flatten [cG aG (a0 0) (a1 0) (a2 0) (a3 0) (aH 0) (aS 0) v0, cM E a0 v_4]) := hw.perm (p_bk1 ((p_pk _ 1 _ rfl).trans (List.Perm.cons _ (List.Perm.refl _))))
    exact x_ret C0 ⟨v0, v_4⟩ hw h dX6_dealerOf_23
  · replace h := h.2 c_5
    refine x_ldc (v := (-10000001)) C0 2 rfl dX6_dealerOf_11 ?_
    exact x_ret C0 ⟨v0, v_2⟩ hw h dX6_dealerOf_13

abbrev rmX6_memoOf : Room := { frames := 3, cells := 0, slots := 0, locals := 67 }
set_option maxRecDepth 100000 in
set_option maxHeartbeats 4000000 in
theorem c_X6_memoOf (l : Launch) (E : EE) (aG : Nat → Nat) (a0 : Nat → Nat) (a1 : Nat → Nat) (a2 : Nat → Nat) (a3 : Nat → Nat) (aH : Nat → Nat) (h0 : Nat → Nat) (h1 : Nat → Nat) (h2 : Nat → Nat) (h3 : Nat → Nat) (aS : Nat → Nat) {v0 : V} {v1 : V}  {p1 : Int32} {p2 : Int32} {post : Int32 → V → V → Prop} (h : s_X6_memoOf v0 v1 p1 p2 post) : KI l E yX6_memoOf wsX6_memoOf rmX6_memoOf [.ref (aG 0), .int p1, .int p2] (List.flatten [cG aG (a0 0) (a1 0) (a2 0) (a3 0) (aH 0) (aS 0) v0, cM E a0 v1]) (S := V × V) (fun r (u : V × V) => post r u.1 u.2) (fun (u : V × V) => (List.flatten [cG aG (a0 0) (a1 0) (a2 0) (a3 0) (aH 0) (aS 0) u.1, cM E a0 u.2])) := by
  unfold s_X6_memoOf at h
  refine KI.go (cc := cX6_memoOf) (ret := (some .int)) (maxL := 3) (own := RX6) (by decide) rfl (Nat.le_of_ble_eq_true rfl) rfl (fun p e s m below meth c A ls C0 hw hl => ?_)
  have hx := C0.1
  have hb := C0.2.1
  have hiX1 : ∀ w ∈ wsX10, w ∈ wsX6_memoOf := fun w h => List.mem_cons_of_mem _ (List.mem_append_left _ (List.mem_append_left _ (List.mem_append_right _ h)))
  have hiX6 : ∀ w ∈ wsX60, w ∈ wsX6_memoOf := fun w h => List.mem_cons_of_mem _ (List.mem_append_left _ (List.mem_append_left _ (List.mem_append_left _ (List.mem_append_right _ h))))
  replace hl : lv_has ls 3 [(0, .ref (aG 0)), (1, .int p1), (2, .int p2)] := hl
  refine lv_aload_n hx hb dX6_memoOf_0 rfl (lv_at hl 0 rfl) ?_
  refine x_get C0 hw 6 hiX6 rfl 0 rfl 0 (by decide) 1 rfl rfl dX6_memoOf_1 ?_
  refine x_getN C0 hw 1 hiX1 rfl 1 rfl 2 (by decide) 23 rfl rfl dX6_memoOf_4 ?_
  refine lv_iload_n hx hb dX6_memoOf_7 rfl (lv_at hl 1 rfl) ?_
  refine x_cV (As := [.int p1]) (rest := []) (F := (List.flatten [cG aG (a0 0) (a1 0) (a2 0) (a3 0) (aH 0) (aS 0) v0])) C0 hw (p_fl1 ((p_pk _ 1 _ rfl).trans (List.Perm.cons _ (List.Perm.refl _)))) hl.1 17 2 rfl rfl (c_X2_has l E a0 h) 1 gX6_memoOf_X2_has rfl ⟨rfl, rfl⟩ (by decide +kernel) ⟨Nat.le_of_ble_eq_true rfl, Nat.le_of_ble_eq_true rfl⟩ rfl rfl (Nat.le_of_ble_eq_true rfl) dX6_memoOf_8 ⟨Nat.zero_le _, Nat.zero_le _⟩ (fun r_1 v_2 H locs h hw => ?_)
  replace hw : mw E A s.heap H locs (List.flatten [cG aG (a0 0) (a1 0) (a2 0) (a3 0) (aH 0) (aS 0) v0, cM E a0 v_2]) := hw.perm (p_bk1 ((p_pk _ 1 _ rfl).trans (List.Perm.cons _ (List.Perm.refl _))))
  refine lv_if_ne (tgt := 17) hx hb dX6_memoOf_11 (by decide) (fun c_5 => ?_) (fun c_5 => ?_)
  · replace h := h.1 c_5
    refine lv_aload_n hx hb dX6_memoOf_17 rfl (lv_at hl 0 rfl) ?_
    refine x_get C0 hw 6 hiX6 rfl 0 rfl 0 (by decide) 1 rfl rfl dX6_memoOf_18 ?_
    refine lv_iload_n hx hb dX6_memoOf_21 rfl (lv_at hl 1 rfl) ?_
    refine lv_iload_n hx hb dX6_memoOf_22 rfl (lv_at hl 2 rfl) ?_
    refine x_cV (As := [.int p1, .int p2]) (rest := []) (F := (List.flatten [cG aG (a0 0) (a1 0) (a2 0) (a3 0) (aH 0) (aS 0) v0])) C0 hw (p_fl1 ((p_pk _ 1 _ rfl).trans (List.Perm.cons _ (List.Perm.refl _)))) hl.1 1 1 rfl rfl (c_X1_tellMemo l E a0 h) 2 gX6_memoOf_X1_tellMemo rfl ⟨rfl, rfl⟩ (by decide +kernel) ⟨Nat.le_of_ble_eq_true rfl, Nat.le_of_ble_eq_true rfl⟩ rfl rfl (Nat.le_of_ble_eq_true rfl) dX6_memoOf_23 ⟨Nat.zero_le _, Nat.zero_le _⟩ (fun r_3 v_4 H locs h hw => ?_)
    replace hw : mw E A s.heap H locs (List.flatten [cG aG (a0 0) (a1 0) (a2 0) (a3 0) (aH 0) (aS 0) v0, cM E a0 v_4]) := hw.perm (p_bk1 ((p_pk _ 1 _ rfl).trans (List.Perm.cons _ (List.Perm.refl _))))
    exact x_ret C0 ⟨v0, v_4⟩ hw h dX6_memoOf_26
  · replace h := h.2 c_5
    refine x_ldc (v := (-10000001)) C0 2 rfl dX6_memoOf_14 ?_
    exact x_ret C0 ⟨v0, v_2⟩ hw h dX6_memoOf_16

abbrev rmX6_rateOf : Room := { frames := 2, cells := 0, slots := 0, locals := 48 }
set_option maxRecDepth 100000 in
set_option maxHeartbeats 4000000 in
theorem c_X6_rateOf (l : Launch) (E : EE) (aG : Nat → Nat) (a0 : Nat → Nat) (a1 : Nat → Nat) (a2 : Nat → Nat) (a3 : Nat → Nat) (aH : Nat → Nat) (h0 : Nat → Nat) (h1 : Nat → Nat) (h2 : Nat → Nat) (h3 : Nat → Nat) (aS : Nat → Nat) {v0 : V} {v1 : V}  {p1 : Int32} {p2 : Int32} {p3 : Int32} {p4 : Int32} {post : Int32 → V → V → Prop} (h : s_X6_rateOf v0 v1 p1 p2 p3 p4 post) : KI l E yX6_rateOf wsX6_rateOf rmX6_rateOf [.ref (aG 0), .int p1, .int p2, .int p3, .int p4] (List.flatten [cG aG (a0 0) (a1 0) (a2 0) (a3 0) (aH 0) (aS 0) v0, cM E a0 v1]) (S := V × V) (fun r (u : V × V) => post r u.1 u.2) (fun (u : V × V) => (List.flatten [cG aG (a0 0) (a1 0) (a2 0) (a3 0) (aH 0) (aS 0) u.1, cM E a0 u.2])) := by
  unfold s_X6_rateOf at h
  refine KI.go (cc := cX6_rateOf) (ret := (some .int)) (maxL := 6) (own := RX6) (by decide) rfl (Nat.le_of_ble_eq_true rfl) rfl (fun p e s m below meth c A ls C0 hw hl => ?_)
  have hx := C0.1
  have hb := C0.2.1
  have hiX1 : ∀ w ∈ wsX10, w ∈ wsX6_rateOf := fun w h => List.mem_cons_of_mem _ (List.mem_append_left _ (List.mem_append_right _ h))
  have hiX6 : ∀ w ∈ wsX60, w ∈ wsX6_rateOf := fun w h => List.mem_cons_of_mem _ (List.mem_append_left _ (List.mem_append_left _ (List.mem_append_right _ h)))
  replace hl : lv_has ls 6 [(0, .ref (aG 0)), (1, .int p1), (2, .int p2), (3, .int p3), (4, .int p4)] := hl
  refine lv_iload_n hx hb dX6_rateOf_0 rfl (lv_at hl 1 rfl) ?_
  refine lv_iload_n hx hb dX6_rateOf_1 rfl (lv_at hl 2 rfl) ?_
  refine lv_iload_n hx hb dX6_rateOf_2 rfl (lv_at hl 3 rfl) ?_
  refine x_cS (As := [.int p1, .int p2, .int p3]) (rest := []) (F := (List.flatten [cG aG (a0 0) (a1 0) (a2 0) (a3 0) (aH 0) (aS 0) v0, cM E a0 v1])) C0 hw (p_non _) hl.1 (c_X6_isGrade l E  h) 3 gX6_rateOf_X6_isGrade rfl ⟨rfl, rfl⟩ (by decide +kernel) ⟨Nat.le_of_ble_eq_true rfl, Nat.le_of_ble_eq_true rfl⟩ rfl rfl (Nat.le_of_ble_eq_true rfl) dX6_rateOf_3 ⟨Nat.zero_le _, Nat.zero_le _⟩ (fun r_1 _u H locs h (hw : mw E A s.heap H locs (List.flatten [cG aG (a0 0) (a1 0) (a2 0) (a3 0) (aH 0) (aS 0) v0, cM E a0 v1])) => ?_)
  refine lv_if_eq (tgt := 20) hx hb dX6_rateOf_6 (by decide) (fun c_11 => ?_) (fun c_11 => ?_)
  · replace h := h.1 c_11
    refine x_ldc (v := (-10000001)) C0 1 rfl dX6_rateOf_20 ?_
    exact x_ret C0 ⟨v0, v1⟩ hw h dX6_rateOf_22
  · replace h := h.2 c_11
    refine lv_iload hx hb dX6_rateOf_9 (lv_at hl 4 rfl) ?_
    refine lv_if_lt (tgt := 20) hx hb dX6_rateOf_11 (by decide) (fun c_10 => ?_) (fun c_10 => ?_)
    · replace h := h.1 c_10
      refine x_ldc (v := (-10000001)) C0 1 rfl dX6_rateOf_20 ?_
      exact x_ret C0 ⟨v0, v1⟩ hw h dX6_rateOf_22
    · replace h := h.2 c_10
      refine lv_iload hx hb dX6_rateOf_14 (lv_at hl 4 rfl) ?_
      refine lv_iconst (v := 1) hx hb dX6_rateOf_16 (by decide) ?_
      refine lv_icmp_le (tgt := 23) hx hb dX6_rateOf_17 (by decide) (fun c_9 => ?_) (fun c_9 => ?_)
      · replace h := h.1 c_9
        refine lv_iload hx hb dX6_rateOf_23 (lv_at hl 4 rfl) ?_
        refine lv_iconst (v := 1) hx hb dX6_rateOf_25 (by decide) ?_
        refine lv_icmp_ne (tgt := 45) hx hb dX6_rateOf_26 (by decide) (fun c_8 => ?_) (fun c_8 => ?_)
        · replace h := h.1 c_8
          refine lv_aload_n hx hb dX6_rateOf_45 rfl (lv_at hl 0 rfl) ?_
          refine x_get C0 hw 6 hiX6 rfl 0 rfl 0 (by decide) 2 rfl rfl dX6_rateOf_46 ?_
          refine x_getN C0 hw 1 hiX1 rfl 1 rfl 0 (by decide) 20 rfl rfl dX6_rateOf_49 ?_
          refine lv_iload_n hx hb dX6_rateOf_52 rfl (lv_at hl 1 rfl) ?_
          refine lv_iload_n hx hb dX6_rateOf_53 rfl (lv_at hl 2 rfl) ?_
          refine lv_iload_n hx hb dX6_rateOf_54 rfl (lv_at hl 3 rfl) ?_
          refine x_cV (As := [.int p1, .int p2, .int p3]) (rest := []) (F := (List.flatten [cG aG (a0 0) (a1 0) (a2 0) (a3 0) (aH 0) (aS 0) v0])) C0 hw (p_fl1 ((p_pk _ 1 _ rfl).trans (List.Perm.cons _ (List.Perm.refl _)))) hl.1 2 3 rfl rfl (c_X3_rateFor l E a0 h) 3 gX6_rateOf_X3_rateFor rfl ⟨rfl, rfl⟩ (by decide +kernel) ⟨Nat.le_of_ble_eq_true rfl, Nat.le_of_ble_eq_true rfl⟩ rfl rfl (Nat.le_of_ble_eq_true rfl) dX6_rateOf_55 ⟨Nat.zero_le _, Nat.zero_le _⟩ (fun r_2 v_3 H locs h hw => ?_)
          replace hw : mw E A s.heap H locs (List.flatten [cG aG (a0 0) (a1 0) (a2 0) (a3 0) (aH 0) (aS 0) v0, cM E a0 v_3]) := hw.perm (p_bk1 ((p_pk _ 1 _ rfl).trans (List.Perm.cons _ (List.Perm.refl _))))
          refine lv_istore (lv' := [(5, .int r_2), (0, .ref (aG 0)), (1, .int p1), (2, .int p2), (3, .int p3), (4, .int p4)]) hx hb dX6_rateOf_58 hl (by decide) rfl (fun ls hl => ?_)
          refine lv_iload hx hb dX6_rateOf_60 (lv_at hl 0 rfl) ?_
          refine lv_if_ne (tgt := 70) hx hb dX6_rateOf_62 (by decide) (fun c_4 => ?_) (fun c_4 => ?_)
          · replace h := h.1 c_4
            refine lv_iload hx hb dX6_rateOf_70 (lv_at hl 0 rfl) ?_
            exact x_ret C0 ⟨v0, v_3⟩ hw h dX6_rateOf_72
          · replace h := h.2 c_4
            refine x_ldc (v := (-10000004)) C0 3 rfl dX6_rateOf_65 ?_
            refine lv_goto (tgt := 72) hx hb dX6_rateOf_67 (by decide) ?_
            exact x_ret C0 ⟨v0, v_3⟩ hw h dX6_rateOf_72
        · replace h := h.2 c_8
          refine lv_aload_n hx hb dX6_rateOf_29 rfl (lv_at hl 0 rfl) ?_
          refine x_get C0 hw 6 hiX6 rfl 0 rfl 0 (by decide) 2 rfl rfl dX6_rateOf_30 ?_
          refine x_getN C0 hw 1 hiX1 rfl 1 rfl 0 (by decide) 20 rfl rfl dX6_rateOf_33 ?_
          refine lv_iload_n hx hb dX6_rateOf_36 rfl (lv_at hl 1 rfl) ?_
          refine lv_iload_n hx hb dX6_rateOf_37 rfl (lv_at hl 2 rfl) ?_
          refine lv_iload_n hx hb dX6_rateOf_38 rfl (lv_at hl 3 rfl) ?_
          refine x_cV (As := [.int p1, .int p2, .int p3]) (rest := []) (F := (List.flatten [cG aG (a0 0) (a1 0) (a2 0) (a3 0) (aH 0) (aS 0) v0])) C0 hw (p_fl1 ((p_pk _ 1 _ rfl).trans (List.Perm.cons _ (List.Perm.refl _)))) hl.1 2 3 rfl rfl (c_X3_ownRate l E a0 h) 3 gX6_rateOf_X3_ownRate rfl ⟨rfl, rfl⟩ (by decide +kernel) ⟨Nat.le_of_ble_eq_true rfl, Nat.le_of_ble_eq_true rfl⟩ rfl rfl (Nat.le_of_ble_eq_true rfl) dX6_rateOf_39 ⟨Nat.zero_le _, Nat.zero_le _⟩ (fun r_5 v_6 H locs h hw => ?_)
          replace hw : mw E A s.heap H locs (List.flatten [cG aG (a0 0) (a1 0) (a2 0) (a3 0) (aH 0) (aS 0) v0, cM E a0 v_6]) := hw.perm (p_bk1 ((p_pk _ 1 _ rfl).trans (List.Perm.cons _ (List.Perm.refl _))))
          refine lv_goto (tgt := 58) hx hb dX6_rateOf_42 (by decide) ?_
          refine lv_istore (lv' := [(5, .int r_5), (0, .ref (aG 0)), (1, .int p1), (2, .int p2), (3, .int p3), (4, .int p4)]) hx hb dX6_rateOf_58 hl (by decide) rfl (fun ls hl => ?_)
          refine lv_iload hx hb dX6_rateOf_60 (lv_at hl 0 rfl) ?_
          refine lv_if_ne (tgt := 70) hx hb dX6_rateOf_62 (by decide) (fun c_7 => ?_) (fun c_7 => ?_)
          · replace h := h.1 c_7
            refine lv_iload hx hb dX6_rateOf_70 (lv_at hl 0 rfl) ?_
            exact x_ret C0 ⟨v0, v_6⟩ hw h dX6_rateOf_72
          · replace h := h.2 c_7
            refine x_ldc (v := (-10000004)) C0 3 rfl dX6_rateOf_65 ?_
            refine lv_goto (tgt := 72) hx hb dX6_rateOf_67 (by decide) ?_
            exact x_ret C0 ⟨v0, v_6⟩ hw h dX6_rateOf_72
      · replace h := h.2 c_9
        refine x_ldc (v := (-10000001)) C0 1 rfl dX6_rateOf_20 ?_
        exact x_ret C0 ⟨v0, v1⟩ hw h dX6_rateOf_22
