abbrev rmJ9_floorMod_7cf53 : Room := { frames := 0, cells := 0, slots := 0, locals := 0 }
set_option maxRecDepth 100000 in
set_option maxHeartbeats 4000000 in
theorem c_J9_floorMod_7cf53 (l : Launch) (E : EE)    {p0 : Int32} {p1 : Int32} {post : Int32 → Prop} (h : s_J9_floorMod_7cf53 p0 p1 post) : KI l E yJ9_floorMod_7cf53 wsJ9_floorMod_7cf53 rmJ9_floorMod_7cf53 [.int p0, .int p1] ([] : va_W) (S := Unit) (fun r (_ : Unit) => post r) (fun (_ : Unit) => ([] : va_W)) := by
  unfold s_J9_floorMod_7cf53 at h
  refine KI.goF (cc := cJ9_floorMod_7cf53) (ret := (some .int)) (maxL := 3) (own := RJ9) (by decide +kernel) rfl (Nat.le_of_ble_eq_true rfl) rfl (fun p e s m below meth c A ls C0 hw hl => ?_)
  have hx := C0.1
  have hb := C0.2.1
  replace hl : lv_has ls 3 [(0, .int p0), (1, .int p1)] := hl
  refine lv_iload_n hx hb dJ9_floorMod_7cf53_0 rfl (lv_at hl 0 rfl) ?_
  refine lv_iload_n hx hb dJ9_floorMod_7cf53_1 rfl (lv_at hl 1 rfl) ?_
  obtain ⟨hne, h⟩ := h
  refine lv_irem hx hb dJ9_floorMod_7cf53_2 hne ?_
  refine lv_istore_n (lv' := [(2, .int (p0 - p0 / p1 * p1)), (0, .int p0), (1, .int p1)]) hx hb dJ9_floorMod_7cf53_3 rfl hl (by decide) rfl (fun ls hl => ?_)
  refine lv_iload_n hx hb dJ9_floorMod_7cf53_4 rfl (lv_at hl 1 rfl) ?_
  refine lv_iload_n hx hb dJ9_floorMod_7cf53_5 rfl (lv_at hl 2 rfl) ?_
  refine lv_ixor hx hb dJ9_floorMod_7cf53_6 ?_
  refine lv_if_ge (tgt := 18) hx hb dJ9_floorMod_7cf53_7 (by decide) (fun c_2 => ?_) (fun c_2 => ?_)
  · replace h := h.1 c_2
    refine lv_iload_n hx hb dJ9_floorMod_7cf53_18 rfl (lv_at hl 0 rfl) ?_
    exact x_ret C0 () hw h dJ9_floorMod_7cf53_19
  · replace h := h.2 c_2
    refine lv_iload_n hx hb dJ9_floorMod_7cf53_10 rfl (lv_at hl 0 rfl) ?_
    refine lv_if_eq (tgt := 18) hx hb dJ9_floorMod_7cf53_11 (by decide) (fun c_1 => ?_) (fun c_1 => ?_)
    · replace h := h.1 c_1
      refine lv_iload_n hx hb dJ9_floorMod_7cf53_18 rfl (lv_at hl 0 rfl) ?_
      exact x_ret C0 () hw h dJ9_floorMod_7cf53_19
    · replace h := h.2 c_1
      refine lv_iload_n hx hb dJ9_floorMod_7cf53_14 rfl (lv_at hl 0 rfl) ?_
      refine lv_iload_n hx hb dJ9_floorMod_7cf53_15 rfl (lv_at hl 2 rfl) ?_
      refine lv_iadd hx hb dJ9_floorMod_7cf53_16 ?_
      exact x_ret C0 () hw h dJ9_floorMod_7cf53_17

abbrev rmX2_copyFrom : Room := { frames := 1, cells := 0, slots := 0, locals := 26 }
set_option maxRecDepth 100000 in
set_option maxHeartbeats 4000000 in
theorem c_X2_copyFrom (l : Launch) (E : EE) (a : Nat → Nat) (b : Nat → Nat) {v0 : V} {v1 : V}   {post : V → V → Prop} (h : s_X2_copyFrom v0 v1 post) : KV l E yX2_copyFrom wsX2_copyFrom rmX2_copyFrom [.ref (a 16), .ref (b 16)] (List.flatten [cM E a v0, cM E b v1]) (S := V × V) (fun (u : V × V) => post u.1 u.2) (fun (u : V × V) => (List.flatten [cM E a u.1, cM E b u.2])) := by
  unfold s_X2_copyFrom at h
  refine KV.go (cc := cX2_copyFrom) (ret := none) (maxL := 2) (own := RX2) (by decide) rfl (Nat.le_of_ble_eq_true rfl) rfl (fun p e s m below meth c A ls C0 hw hl => ?_)
  have hx := C0.1
  have hb := C0.2.1
  have hiX2 : ∀ w ∈ wsX20, w ∈ wsX2_copyFrom := fun w h => List.mem_cons_of_mem _ (List.mem_append_right _ h)
  replace hl : lv_has ls 2 [(0, .ref (a 16)), (1, .ref (b 16))] := hl
  refine lv_aload_n hx hb dX2_copyFrom_0 rfl (lv_at hl 0 rfl) ?_
  refine lv_aload_n hx hb dX2_copyFrom_1 rfl (lv_at hl 1 rfl) ?_
  refine x_get C0 hw 2 hiX2 rfl 39 rfl 0 (by decide) 1 rfl rfl dX2_copyFrom_2 ?_
  refine x_put (ws' := (List.flatten [cM E a ((sc v0 16 0 (v1 16 0))), cM E b v1])) C0 hw 2 hiX2 rfl tyX2 tyX2_ok nmX2 16 rfl 0 (by decide) 1 rfl rfl rfl rfl (Nat.le_of_ble_eq_true rfl) rfl dX2_copyFrom_5 (fun H locs hw => ?_)
  obtain ⟨v_1, e_v_1⟩ : ∃ z, z = sc v0 16 0 (v1 16 0) := ⟨_, rfl⟩
  rw [← e_v_1] at hw
  replace h := h v_1 e_v_1
  refine lv_aload_n hx hb dX2_copyFrom_8 rfl (lv_at hl 1 rfl) ?_
  refine x_get C0 hw 2 hiX2 rfl 39 rfl 1 (by decide) 2 rfl rfl dX2_copyFrom_9 ?_
  refine lv_iconst (v := 0) hx hb dX2_copyFrom_12 (by decide) ?_
  refine lv_aload_n hx hb dX2_copyFrom_13 rfl (lv_at hl 0 rfl) ?_
  refine x_get C0 hw 2 hiX2 rfl 16 rfl 1 (by decide) 2 rfl rfl dX2_copyFrom_14 ?_
  refine lv_iconst (v := 0) hx hb dX2_copyFrom_17 (by decide) ?_
  refine lv_bipush (v := 10) hx hb dX2_copyFrom_18 (by decide) ?_
  refine x_copy (N := 10) (ws' := (List.flatten [cM E a ((sa v_1 17 (va_cpy (v1 17) (v_1 17) 0 0 10))), cM E b v1])) C0 hw hl.1 3 rfl 4 5 6 rfl rfl rfl 40 17 rfl rfl (by decide) rfl rfl (Nat.le_of_ble_eq_true rfl) (Nat.le_of_ble_eq_true rfl) dX2_copyFrom_20 (fun H locs hw => ?_)
  obtain ⟨v_2, e_v_2⟩ : ∃ z, z = sa v_1 17 (va_cpy (v1 17) (v_1 17) 0 0 10) := ⟨_, rfl⟩
  rw [← e_v_2] at hw
  replace h := h v_2 e_v_2
  refine lv_aload_n hx hb dX2_copyFrom_23 rfl (lv_at hl 1 rfl) ?_
  refine x_get C0 hw 2 hiX2 rfl 39 rfl 2 (by decide) 7 rfl rfl dX2_copyFrom_24 ?_
  refine lv_iconst (v := 0) hx hb dX2_copyFrom_27 (by decide) ?_
  refine lv_aload_n hx hb dX2_copyFrom_28 rfl (lv_at hl 0 rfl) ?_
  refine x_get C0 hw 2 hiX2 rfl 16 rfl 2 (by decide) 7 rfl rfl dX2_copyFrom_29 ?_
  refine lv_iconst (v := 0) hx hb dX2_copyFrom_32 (by decide) ?_
  refine lv_bipush (v := 10) hx hb dX2_copyFrom_33 (by decide) ?_
  refine x_copy (N := 10) (ws' := (List.flatten [cM E a ((sa v_2 18 (va_cpy (v1 18) (v_2 18) 0 0 10))), cM E b v1])) C0 hw hl.1 3 rfl 4 5 6 rfl rfl rfl 41 18 rfl rfl (by decide) rfl rfl (Nat.le_of_ble_eq_true rfl) (Nat.le_of_ble_eq_true rfl) dX2_copyFrom_35 (fun H locs hw => ?_)
  obtain ⟨v_3, e_v_3⟩ : ∃ z, z = sa v_2 18 (va_cpy (v1 18) (v_2 18) 0 0 10) := ⟨_, rfl⟩
  rw [← e_v_3] at hw
  replace h := h v_3 e_v_3
  refine lv_aload_n hx hb dX2_copyFrom_38 rfl (lv_at hl 1 rfl) ?_
  refine x_get C0 hw 2 hiX2 rfl 39 rfl 3 (by decide) 8 rfl rfl dX2_copyFrom_39 ?_
  refine lv_iconst (v := 0) hx hb dX2_copyFrom_42 (by decide) ?_
  refine lv_aload_n hx hb dX2_copyFrom_43 rfl (lv_at hl 0 rfl) ?_
  refine x_get C0 hw 2 hiX2 rfl 16 rfl 3 (by decide) 8 rfl rfl dX2_copyFrom_44 ?_
  refine lv_iconst (v := 0) hx hb dX2_copyFrom_47 (by decide) ?_
  refine lv_bipush (v := 10) hx hb dX2_copyFrom_48 (by decide) ?_
  refine x_copy (N := 10) (ws' := (List.flatten [cM E a ((sa v_3 19 (va_cpy (v1 19) (v_3 19) 0 0 10))), cM E b v1])) C0 hw hl.1 3 rfl 4 5 6 rfl rfl rfl 42 19 rfl rfl (by decide) rfl rfl (Nat.le_of_ble_eq_true rfl) (Nat.le_of_ble_eq_true rfl) dX2_copyFrom_50 (fun H locs hw => ?_)
  obtain ⟨v_4, e_v_4⟩ : ∃ z, z = sa v_3 19 (va_cpy (v1 19) (v_3 19) 0 0 10) := ⟨_, rfl⟩
  rw [← e_v_4] at hw
  replace h := h v_4 e_v_4
  refine lv_aload_n hx hb dX2_copyFrom_53 rfl (lv_at hl 1 rfl) ?_
  refine x_get C0 hw 2 hiX2 rfl 39 rfl 4 (by decide) 9 rfl rfl dX2_copyFrom_54 ?_
  refine lv_iconst (v := 0) hx hb dX2_copyFrom_57 (by decide) ?_
  refine lv_aload_n hx hb dX2_copyFrom_58 rfl (lv_at hl 0 rfl) ?_
  refine x_get C0 hw 2 hiX2 rfl 16 rfl 4 (by decide) 9 rfl rfl dX2_copyFrom_59 ?_
  refine lv_iconst (v := 0) hx hb dX2_copyFrom_62 (by decide) ?_
  refine lv_bipush (v := 10) hx hb dX2_copyFrom_63 (by decide) ?_
  refine x_copy (N := 10) (ws' := (List.flatten [cM E a ((sa v_4 20 (va_cpy (v1 20) (v_4 20) 0 0 10))), cM E b v1])) C0 hw hl.1 3 rfl 4 5 6 rfl rfl rfl 43 20 rfl rfl (by decide) rfl rfl (Nat.le_of_ble_eq_true rfl) (Nat.le_of_ble_eq_true rfl) dX2_copyFrom_65 (fun H locs hw => ?_)
  obtain ⟨v_5, e_v_5⟩ : ∃ z, z = sa v_4 20 (va_cpy (v1 20) (v_4 20) 0 0 10) := ⟨_, rfl⟩
  rw [← e_v_5] at hw
  replace h := h v_5 e_v_5
  refine lv_aload_n hx hb dX2_copyFrom_68 rfl (lv_at hl 1 rfl) ?_
  refine x_get C0 hw 2 hiX2 rfl 39 rfl 5 (by decide) 10 rfl rfl dX2_copyFrom_69 ?_
  refine lv_iconst (v := 0) hx hb dX2_copyFrom_72 (by decide) ?_
  refine lv_aload_n hx hb dX2_copyFrom_73 rfl (lv_at hl 0 rfl) ?_
  refine x_get C0 hw 2 hiX2 rfl 16 rfl 5 (by decide) 10 rfl rfl dX2_copyFrom_74 ?_
  refine lv_iconst (v := 0) hx hb dX2_copyFrom_77 (by decide) ?_
  refine lv_bipush (v := 10) hx hb dX2_copyFrom_78 (by decide) ?_
  refine x_copy (N := 10) (ws' := (List.flatten [cM E a ((sa v_5 21 (va_cpy (v1 21) (v_5 21) 0 0 10))), cM E b v1])) C0 hw hl.1 3 rfl 4 5 6 rfl rfl rfl 44 21 rfl rfl (by decide) rfl rfl (Nat.le_of_ble_eq_true rfl) (Nat.le_of_ble_eq_true rfl) dX2_copyFrom_80 (fun H locs hw => ?_)
  obtain ⟨v_6, e_v_6⟩ : ∃ z, z = sa v_5 21 (va_cpy (v1 21) (v_5 21) 0 0 10) := ⟨_, rfl⟩
  rw [← e_v_6] at hw
  replace h := h v_6 e_v_6
  exact x_retv C0 ⟨v_6, v1⟩ hw h dX2_copyFrom_83

abbrev rmX3_copyFrom : Room := { frames := 1, cells := 0, slots := 0, locals := 26 }
set_option maxRecDepth 100000 in
set_option maxHeartbeats 4000000 in
theorem c_X3_copyFrom (l : Launch) (E : EE) (a : Nat → Nat) (b : Nat → Nat) {v0 : V} {v1 : V}   {post : V → V → Prop} (h : s_X3_copyFrom v0 v1 post) : KV l E yX3_copyFrom wsX3_copyFrom rmX3_copyFrom [.ref (a 1), .ref (b 1)] (List.flatten [cM E a v0, cM E b v1]) (S := V × V) (fun (u : V × V) => post u.1 u.2) (fun (u : V × V) => (List.flatten [cM E a u.1, cM E b u.2])) := by
  unfold s_X3_copyFrom at h
  refine KV.go (cc := cX3_copyFrom) (ret := none) (maxL := 2) (own := RX3) (by decide) rfl (Nat.le_of_ble_eq_true rfl) rfl (fun p e s m below meth c A ls C0 hw hl => ?_)
  have hx := C0.1
  have hb := C0.2.1
  have hiX3 : ∀ w ∈ wsX30, w ∈ wsX3_copyFrom := fun w h => List.mem_cons_of_mem _ (List.mem_append_right _ h)
  replace hl : lv_has ls 2 [(0, .ref (a 1)), (1, .ref (b 1))] := hl
  refine lv_aload_n hx hb dX3_copyFrom_0 rfl (lv_at hl 1 rfl) ?_
  refine x_get C0 hw 3 hiX3 rfl 24 rfl 0 (by decide) 1 rfl rfl dX3_copyFrom_1 ?_
  refine lv_iconst (v := 0) hx hb dX3_copyFrom_4 (by decide) ?_
  refine lv_aload_n hx hb dX3_copyFrom_5 rfl (lv_at hl 0 rfl) ?_
  refine x_get C0 hw 3 hiX3 rfl 1 rfl 0 (by decide) 1 rfl rfl dX3_copyFrom_6 ?_
  refine lv_iconst (v := 0) hx hb dX3_copyFrom_9 (by decide) ?_
  refine lv_bipush (v := 24) hx hb dX3_copyFrom_10 (by decide) ?_
  refine x_copy (N := 24) (ws' := (List.flatten [cM E a ((sa v0 2 (va_cpy (v1 2) (v0 2) 0 0 24))), cM E b v1])) C0 hw hl.1 2 rfl 3 4 5 rfl rfl rfl 25 2 rfl rfl (by decide) rfl rfl (Nat.le_of_ble_eq_true rfl) (Nat.le_of_ble_eq_true rfl) dX3_copyFrom_12 (fun H locs hw => ?_)
  obtain ⟨v_1, e_v_1⟩ : ∃ z, z = sa v0 2 (va_cpy (v1 2) (v0 2) 0 0 24) := ⟨_, rfl⟩
  rw [← e_v_1] at hw
  replace h := h v_1 e_v_1
  refine lv_aload_n hx hb dX3_copyFrom_15 rfl (lv_at hl 1 rfl) ?_
  refine x_get C0 hw 3 hiX3 rfl 24 rfl 1 (by decide) 6 rfl rfl dX3_copyFrom_16 ?_
  refine lv_iconst (v := 0) hx hb dX3_copyFrom_19 (by decide) ?_
  refine lv_aload_n hx hb dX3_copyFrom_20 rfl (lv_at hl 0 rfl) ?_
  refine x_get C0 hw 3 hiX3 rfl 1 rfl 1 (by decide) 6 rfl rfl dX3_copyFrom_21 ?_
  refine lv_iconst (v := 0) hx hb dX3_copyFrom_24 (by decide) ?_
  refine lv_bipush (v := 24) hx hb dX3_copyFrom_25 (by decide) ?_
  refine x_copy (N := 24) (ws' := (List.flatten [cM E a ((sa v_1 3 (va_cpy (v1 3) (v_1 3) 0 0 24))), cM E b v1])) C0 hw hl.1 2 rfl 3 4 5 rfl rfl rfl 26 3 rfl rfl (by decide) rfl rfl (Nat.le_of_ble_eq_true rfl) (Nat.le_of_ble_eq_true rfl) dX3_copyFrom_27 (fun H locs hw => ?_)
  obtain ⟨v_2, e_v_2⟩ : ∃ z, z = sa v_1 3 (va_cpy (v1 3) (v_1 3) 0 0 24) := ⟨_, rfl⟩
  rw [← e_v_2] at hw
  replace h := h v_2 e_v_2
  refine lv_aload_n hx hb dX3_copyFrom_30 rfl (lv_at hl 1 rfl) ?_
  refine x_get C0 hw 3 hiX3 rfl 24 rfl 2 (by decide) 7 rfl rfl dX3_copyFrom_31 ?_
  refine lv_iconst (v := 0) hx hb dX3_copyFrom_34 (by decide) ?_
  refine lv_aload_n hx hb dX3_copyFrom_35 rfl (lv_at hl 0 rfl) ?_
  refine x_get C0 hw 3 hiX3 rfl 1 rfl 2 (by decide) 7 rfl rfl dX3_copyFrom_36 ?_
  refine lv_iconst (v := 0) hx hb dX3_copyFrom_39 (by decide) ?_
  refine lv_bipush (v := 24) hx hb dX3_copyFrom_40 (by decide) ?_
  refine x_copy (N := 24) (ws' := (List.flatten [cM E a ((sa v_2 4 (va_cpy (v1 4) (v_2 4) 0 0 24))), cM E b v1])) C0 hw hl.1 2 rfl 3 4 5 rfl rfl rfl 27 4 rfl rfl (by decide) rfl rfl (Nat.le_of_ble_eq_true rfl) (Nat.le_of_ble_eq_true rfl) dX3_copyFrom_42 (fun H locs hw => ?_)
  obtain ⟨v_3, e_v_3⟩ : ∃ z, z = sa v_2 4 (va_cpy (v1 4) (v_2 4) 0 0 24) := ⟨_, rfl⟩
  rw [← e_v_3] at hw
  replace h := h v_3 e_v_3
  refine lv_aload_n hx hb dX3_copyFrom_45 rfl (lv_at hl 1 rfl) ?_
  refine x_get C0 hw 3 hiX3 rfl 24 rfl 3 (by decide) 8 rfl rfl dX3_copyFrom_46 ?_
  refine lv_iconst (v := 0) hx hb dX3_copyFrom_49 (by decide) ?_
  refine lv_aload_n hx hb dX3_copyFrom_50 rfl (lv_at hl 0 rfl) ?_
  refine x_get C0 hw 3 hiX3 rfl 1 rfl 3 (by decide) 8 rfl rfl dX3_copyFrom_51 ?_
  refine lv_iconst (v := 0) hx hb dX3_copyFrom_54 (by decide) ?_
  refine lv_bipush (v := 24) hx hb dX3_copyFrom_55 (by decide) ?_
  refine x_copy (N := 24) (ws' := (List.flatten [cM E a ((sa v_3 5 (va_cpy (v1 5) (v_3 5) 0 0 24))), cM E b v1])) C0 hw hl.1 2 rfl 3 4 5 rfl rfl rfl 28 5 rfl rfl (by decide) rfl rfl (Nat.le_of_ble_eq_true rfl) (Nat.le_of_ble_eq_true rfl) dX3_copyFrom_57 (fun H locs hw => ?_)
  obtain ⟨v_4, e_v_4⟩ : ∃ z, z = sa v_3 5 (va_cpy (v1 5) (v_3 5) 0 0 24) := ⟨_, rfl⟩
  rw [← e_v_4] at hw
  replace h := h v_4 e_v_4
  exact x_retv C0 ⟨v_4, v1⟩ hw h dX3_copyFrom_60

abbrev rmX5_copyFrom : Room := { frames := 1, cells := 0, slots := 0, locals := 26 }
set_option maxRecDepth 100000 in
set_option maxHeartbeats 4000000 in
theorem c_X5_copyFrom (l : Launch) (E : EE) (a : Nat → Nat) (b : Nat → Nat) {v0 : V} {v1 : V}   {post : V → V → Prop} (h : s_X5_copyFrom v0 v1 post) : KV l E yX5_copyFrom wsX5_copyFrom rmX5_copyFrom [.ref (a 6), .ref (b 6)] (List.flatten [cM E a v0, cM E b v1]) (S := V × V) (fun (u : V × V) => post u.1 u.2) (fun (u : V × V) => (List.flatten [cM E a u.1, cM E b u.2])) := by
  unfold s_X5_copyFrom at h
  refine KV.go (cc := cX5_copyFrom) (ret := none) (maxL := 2) (own := RX5) (by decide) rfl (Nat.le_of_ble_eq_true rfl) rfl (fun p e s m below meth c A ls C0 hw hl => ?_)
  have hx := C0.1
  have hb := C0.2.1
  have hiX5 : ∀ w ∈ wsX50, w ∈ wsX5_copyFrom := fun w h => List.mem_cons_of_mem _ (List.mem_append_right _ h)
  replace hl : lv_has ls 2 [(0, .ref (a 6)), (1, .ref (b 6))] := hl
  refine lv_aload_n hx hb dX5_copyFrom_0 rfl (lv_at hl 0 rfl) ?_
  refine lv_aload_n hx hb dX5_copyFrom_1 rfl (lv_at hl 1 rfl) ?_
  refine x_get C0 hw 5 hiX5 rfl 29 rfl 0 (by decide) 1 rfl rfl dX5_copyFrom_2 ?_
  refine x_put (ws' := (List.flatten [cM E a ((sc v0 6 0 (v1 6 0))), cM E b v1])) C0 hw 5 hiX5 rfl tyX5 tyX5_ok nmX5 6 rfl 0 (by decide) 1 rfl rfl rfl rfl (Nat.le_of_ble_eq_true rfl) rfl dX5_copyFrom_5 (fun H locs hw => ?_)
  obtain ⟨v_1, e_v_1⟩ : ∃ z, z = sc v0 6 0 (v1 6 0) := ⟨_, rfl⟩
  rw [← e_v_1] at hw
  replace h := h v_1 e_v_1
  refine lv_aload_n hx hb dX5_copyFrom_8 rfl (lv_at hl 1 rfl) ?_
  refine x_get C0 hw 5 hiX5 rfl 29 rfl 1 (by decide) 2 rfl rfl dX5_copyFrom_9 ?_
  refine lv_iconst (v := 0) hx hb dX5_copyFrom_12 (by decide) ?_
  refine lv_aload_n hx hb dX5_copyFrom_13 rfl (lv_at hl 0 rfl) ?_
  refine x_get C0 hw 5 hiX5 rfl 6 rfl 1 (by decide) 2 rfl rfl dX5_copyFrom_14 ?_
  refine lv_iconst (v := 0) hx hb dX5_copyFrom_17 (by decide) ?_
  refine lv_bipush (v := 20) hx hb dX5_copyFrom_18 (by decide) ?_
  refine x_copy (N := 20) (ws' := (List.flatten [cM E a ((sa v_1 7 (va_cpy (v1 7) (v_1 7) 0 0 20))), cM E b v1])) C0 hw hl.1 3 rfl 4 5 6 rfl rfl rfl 30 7 rfl rfl (by decide) rfl rfl (Nat.le_of_ble_eq_true rfl) (Nat.le_of_ble_eq_true rfl) dX5_copyFrom_20 (fun H locs hw => ?_)
  obtain ⟨v_2, e_v_2⟩ : ∃ z, z = sa v_1 7 (va_cpy (v1 7) (v_1 7) 0 0 20) := ⟨_, rfl⟩
  rw [← e_v_2] at hw
  replace h := h v_2 e_v_2
  refine lv_aload_n hx hb dX5_copyFrom_23 rfl (lv_at hl 1 rfl) ?_
  refine x_get C0 hw 5 hiX5 rfl 29 rfl 2 (by decide) 7 rfl rfl dX5_copyFrom_24 ?_
  refine lv_iconst (v := 0) hx hb dX5_copyFrom_27 (by decide) ?_
  refine lv_aload_n hx hb dX5_copyFrom_28 rfl (lv_at hl 0 rfl) ?_
  refine x_get C0 hw 5 hiX5 rfl 6 rfl 2 (by decide) 7 rfl rfl dX5_copyFrom_29 ?_
  refine lv_iconst (v := 0) hx hb dX5_copyFrom_32 (by decide) ?_
  refine lv_bipush (v := 20) hx hb dX5_copyFrom_33 (by decide) ?_
  refine x_copy (N := 20) (ws' := (List.flatten [cM E a ((sa v_2 8 (va_cpy (v1 8) (v_2 8) 0 0 20))), cM E b v1])) C0 hw hl.1 3 rfl 4 5 6 rfl rfl rfl 31 8 rfl rfl (by decide) rfl rfl (Nat.le_of_ble_eq_true rfl) (Nat.le_of_ble_eq_true rfl) dX5_copyFrom_35 (fun H locs hw => ?_)
  obtain ⟨v_3, e_v_3⟩ : ∃ z, z = sa v_2 8 (va_cpy (v1 8) (v_2 8) 0 0 20) := ⟨_, rfl⟩
  rw [← e_v_3] at hw
  replace h := h v_3 e_v_3
  refine lv_aload_n hx hb dX5_copyFrom_38 rfl (lv_at hl 1 rfl) ?_
  refine x_get C0 hw 5 hiX5 rfl 29 rfl 3 (by decide) 8 rfl rfl dX5_copyFrom_39 ?_
  refine lv_iconst (v := 0) hx hb dX5_copyFrom_42 (by decide) ?_
  refine lv_aload_n hx hb dX5_copyFrom_43 rfl (lv_at hl 0 rfl) ?_
  refine x_get C0 hw 5 hiX5 rfl 6 rfl 3 (by decide) 8 rfl rfl dX5_copyFrom_44 ?_
  refine lv_iconst (v := 0) hx hb dX5_copyFrom_47 (by decide) ?_
  refine lv_bipush (v := 20) hx hb dX5_copyFrom_48 (by decide) ?_
  refine x_copy (N := 20) (ws' := (List.flatten [cM E a ((sa v_3 9 (va_cpy (v1 9) (v_3 9) 0 0 20))), cM E b v1])) C0 hw hl.1 3 rfl 4 5 6 rfl rfl rfl 32 9 rfl rfl (by decide) rfl rfl (Nat.le_of_ble_eq_true rfl) (Nat.le_of_ble_eq_true rfl) dX5_copyFrom_50 (fun H locs hw => ?_)
  obtain ⟨v_4, e_v_4⟩ : ∃ z, z = sa v_3 9 (va_cpy (v1 9) (v_3 9) 0 0 20) := ⟨_, rfl⟩
  rw [← e_v_4] at hw
  replace h := h v_4 e_v_4
  refine lv_aload_n hx hb dX5_copyFrom_53 rfl (lv_at hl 1 rfl) ?_
  refine x_get C0 hw 5 hiX5 rfl 29 rfl 4 (by decide) 9 rfl rfl dX5_copyFrom_54 ?_
  refine lv_iconst (v := 0) hx hb dX5_copyFrom_57 (by decide) ?_
  refine lv_aload_n hx hb dX5_copyFrom_58 rfl (lv_at hl 0 rfl) ?_
  refine x_get C0 hw 5 hiX5 rfl 6 rfl 4 (by decide) 9 rfl rfl dX5_copyFrom_59 ?_
  refine lv_iconst (v := 0) hx hb dX5_copyFrom_62 (by decide) ?_
  refine lv_bipush (v := 20) hx hb dX5_copyFrom_63 (by decide) ?_
  refine x_copy (N := 20) (ws' := (List.flatten [cM E a ((sa v_4 10 (va_cpy (v1 10) (v_4 10) 0 0 20))), cM E b v1])) C0 hw hl.1 3 rfl 4 5 6 rfl rfl rfl 33 10 rfl rfl (by decide) rfl rfl (Nat.le_of_ble_eq_true rfl) (Nat.le_of_ble_eq_true rfl) dX5_copyFrom_65 (fun H locs hw => ?_)
  obtain ⟨v_5, e_v_5⟩ : ∃ z, z = sa v_4 10 (va_cpy (v1 10) (v_4 10) 0 0 20) := ⟨_, rfl⟩
  rw [← e_v_5] at hw
  replace h := h v_5 e_v_5
  refine lv_aload_n hx hb dX5_copyFrom_68 rfl (lv_at hl 1 rfl) ?_
  refine x_get C0 hw 5 hiX5 rfl 29 rfl 5 (by decide) 10 rfl rfl dX5_copyFrom_69 ?_
  refine lv_iconst (v := 0) hx hb dX5_copyFrom_72 (by decide) ?_
  refine lv_aload_n hx hb dX5_copyFrom_73 rfl (lv_at hl 0 rfl) ?_
  refine x_get C0 hw 5 hiX5 rfl 6 rfl 5 (by decide) 10 rfl rfl dX5_copyFrom_74 ?_
  refine lv_iconst (v := 0) hx hb dX5_copyFrom_77 (by decide) ?_
  refine lv_bipush (v := 20) hx hb dX5_copyFrom_78 (by decide) ?_
  refine x_copy (N := 20) (ws' := (List.flatten [cM E a ((sa v_5 11 (va_cpy (v1 11) (v_5 11) 0 0 20))), cM E b v1])) C0 hw hl.1 3 rfl 4 5 6 rfl rfl rfl 34 11 rfl rfl (by decide) rfl rfl (Nat.le_of_ble_eq_true rfl) (Nat.le_of_ble_eq_true rfl) dX5_copyFrom_80 (fun H locs hw => ?_)
  obtain ⟨v_6, e_v_6⟩ : ∃ z, z = sa v_5 11 (va_cpy (v1 11) (v_5 11) 0 0 20) := ⟨_, rfl⟩
  rw [← e_v_6] at hw
  replace h := h v_6 e_v_6
  refine lv_aload_n hx hb dX5_copyFrom_83 rfl (lv_at hl 1 rfl) ?_
  refine x_get C0 hw 5 hiX5 rfl 29 rfl 6 (by decide) 11 rfl rfl dX5_copyFrom_84 ?_
  refine lv_iconst (v := 0) hx hb dX5_copyFrom_87 (by decide) ?_
  refine lv_aload_n hx hb dX5_copyFrom_88 rfl (lv_at hl 0 rfl) ?_
  refine x_get C0 hw 5 hiX5 rfl 6 rfl 6 (by decide) 11 rfl rfl dX5_copyFrom_89 ?_
  refine lv_iconst (v := 0) hx hb dX5_copyFrom_92 (by decide) ?_
  refine lv_bipush (v := 20) hx hb dX5_copyFrom_93 (by decide) ?_
  refine x_copy (N := 20) (ws' := (List.flatten [cM E a ((sa v_6 12 (va_cpy (v1 12) (v_6 12) 0 0 20))), cM E b v1])) C0 hw hl.1 3 rfl 4 5 6 rfl rfl rfl 35 12 rfl rfl (by decide) rfl rfl (Nat.le_of_ble_eq_true rfl) (Nat.le_of_ble_eq_true rfl) dX5_copyFrom_95 (fun H locs hw => ?_)
  obtain ⟨v_7, e_v_7⟩ : ∃ z, z = sa v_6 12 (va_cpy (v1 12) (v_6 12) 0 0 20) := ⟨_, rfl⟩
  rw [← e_v_7] at hw
  replace h := h v_7 e_v_7
  refine lv_aload_n hx hb dX5_copyFrom_98 rfl (lv_at hl 1 rfl) ?_
  refine x_get C0 hw 5 hiX5 rfl 29 rfl 7 (by decide) 12 rfl rfl dX5_copyFrom_99 ?_
  refine lv_iconst (v := 0) hx hb dX5_copyFrom_102 (by decide) ?_
  refine lv_aload_n hx hb dX5_copyFrom_103 rfl (lv_at hl 0 rfl) ?_
  refine x_get C0 hw 5 hiX5 rfl 6 rfl 7 (by decide) 12 rfl rfl dX5_copyFrom_104 ?_
  refine lv_iconst (v := 0) hx hb dX5_copyFrom_107 (by decide) ?_
  refine lv_bipush (v := 20) hx hb dX5_copyFrom_108 (by decide) ?_
  refine x_copy (N := 20) (ws' := (List.flatten [cM E a ((sa v_7 13 (va_cpy (v1 13) (v_7 13) 0 0 20))), cM E b v1])) C0 hw hl.1 3 rfl 4 5 6 rfl rfl rfl 36 13 rfl rfl (by decide) rfl rfl (Nat.le_of_ble_eq_true rfl) (Nat.le_of_ble_eq_true rfl) dX5_copyFrom_110 (fun H locs hw => ?_)
  obtain ⟨v_8, e_v_8⟩ : ∃ z, z = sa v_7 13 (va_cpy (v1 13) (v_7 13) 0 0 20) := ⟨_, rfl⟩
  rw [← e_v_8] at hw
  replace h := h v_8 e_v_8
  refine lv_aload_n hx hb dX5_copyFrom_113 rfl (lv_at hl 1 rfl) ?_
  refine x_get C0 hw 5 hiX5 rfl 29 rfl 8 (by decide) 13 rfl rfl dX5_copyFrom_114 ?_
  refine lv_iconst (v := 0) hx hb dX5_copyFrom_117 (by decide) ?_
  refine lv_aload_n hx hb dX5_copyFrom_118 rfl (lv_at hl 0 rfl) ?_
  refine x_get C0 hw 5 hiX5 rfl 6 rfl 8 (by decide) 13 rfl rfl dX5_copyFrom_119 ?_
  refine lv_iconst (v := 0) hx hb dX5_copyFrom_122 (by decide) ?_
  refine lv_bipush (v := 20) hx hb dX5_copyFrom_123 (by decide) ?_
  refine x_copy (N := 20) (ws' := (List.flatten [cM E a ((sa v_8 14 (va_cpy (v1 14) (v_8 14) 0 0 20))), cM E b v1])) C0 hw hl.1 3 rfl 4 5 6 rfl rfl rfl 37 14 rfl rfl (by decide) rfl rfl (Nat.le_of_ble_eq_true rfl) (Nat.le_of_ble_eq_true rfl) dX5_copyFrom_125 (fun H locs hw => ?_)
  obtain ⟨v_9, e_v_9⟩ : ∃ z, z = sa v_8 14 (va_cpy (v1 14) (v_8 14) 0 0 20) := ⟨_, rfl⟩
  rw [← e_v_9] at hw
  replace h := h v_9 e_v_9
  refine lv_aload_n hx hb dX5_copyFrom_128 rfl (lv_at hl 1 rfl) ?_
  refine x_get C0 hw 5 hiX5 rfl 29 rfl 9 (by decide) 14 rfl rfl dX5_copyFrom_129 ?_
  refine lv_iconst (v := 0) hx hb dX5_copyFrom_132 (by decide) ?_
  refine lv_aload_n hx hb dX5_copyFrom_133 rfl (lv_at hl 0 rfl) ?_
  refine x_get C0 hw 5 hiX5 rfl 6 rfl 9 (by decide) 14 rfl rfl dX5_copyFrom_134 ?_
  refine lv_iconst (v := 0) hx hb dX5_copyFrom_137 (by decide) ?_
  refine lv_bipush (v := 20) hx hb dX5_copyFrom_138 (by decide) ?_
  refine x_copy (N := 20) (ws' := (List.flatten [cM E a ((sa v_9 15 (va_cpy (v1 15) (v_9 15) 0 0 20))), cM E b v1])) C0 hw hl.1 3 rfl 4 5 6 rfl rfl rfl 38 15 rfl rfl (by decide) rfl rfl (Nat.le_of_ble_eq_true rfl) (Nat.le_of_ble_eq_true rfl) dX5_copyFrom_140 (fun H locs hw => ?_)
  obtain ⟨v_10, e_v_10⟩ : ∃ z, z = sa v_9 15 (va_cpy (v1 15) (v_9 15) 0 0 20) := ⟨_, rfl⟩
  rw [← e_v_10] at hw
  replace h := h v_10 e_v_10
  exact x_retv C0 ⟨v_10, v1⟩ hw h dX5_copyFrom_143

abbrev rmX1_copyFrom : Room := { frames := 2, cells := 0, slots := 0, locals := 47 }
set_option maxRecDepth 100000 in
set_option maxHeartbeats 4000000 in
theorem c_X1_copyFrom (l : Launch) (E : EE) (a : Nat → Nat) (b : Nat → Nat) {v0 : V} {v1 : V}   {post : V → V → Prop} (h : s_X1_copyFrom v0 v1 post) : KV l E yX1_copyFrom wsX1_copyFrom rmX1_copyFrom [.ref (a 0), .ref (b 0)] (List.flatten [cM E a v0, cM E b v1]) (S := V × V) (fun (u : V × V) => post u.1 u.2) (fun (u : V × V) => (List.flatten [cM E a u.1, cM E b u.2])) := by
  unfold s_X1_copyFrom at h
  refine KV.go (cc := cX1_copyFrom) (ret := none) (maxL := 2) (own := RX1) (by decide) rfl (Nat.le_of_ble_eq_true rfl) rfl (fun p e s m below meth c A ls C0 hw hl => ?_)
  have hx := C0.1
  have hb := C0.2.1
  have hiX1 : ∀ w ∈ wsX10, w ∈ wsX1_copyFrom := fun w h => List.mem_cons_of_mem _ (List.mem_append_left _ (List.mem_append_left _ (List.mem_append_left _ (List.mem_append_right _ h))))
  replace hl : lv_has ls 2 [(0, .ref (a 0)), (1, .ref (b 0))] := hl
  refine lv_aload_n hx hb dX1_copyFrom_0 rfl (lv_at hl 0 rfl) ?_
  refine x_get C0 hw 1 hiX1 rfl 0 rfl 0 (by decide) 1 rfl rfl dX1_copyFrom_1 ?_
  refine lv_aload_n hx hb dX1_copyFrom_4 rfl (lv_at hl 1 rfl) ?_
  refine x_get C0 hw 1 hiX1 rfl 23 rfl 0 (by decide) 1 rfl rfl dX1_copyFrom_5 ?_
  refine x_cVv (As := [.ref (b 1)]) (rest := []) (F := []) C0 hw (p_nil _) hl.1 1 3 rfl rfl (c_X3_copyFrom l E a b h) 1 gX1_copyFrom_X3_copyFrom rfl ⟨rfl, rfl⟩ (by decide +kernel) ⟨Nat.le_of_ble_eq_true rfl, Nat.le_of_ble_eq_true rfl⟩ rfl rfl (Nat.le_of_ble_eq_true rfl) dX1_copyFrom_8 ⟨Nat.zero_le _, Nat.zero_le _⟩ (fun u_15 H locs h hw => ?_)
  obtain ⟨v_1, v_2⟩ := u_15
  replace hw : mw E A s.heap H locs (List.flatten [cM E a v_1, cM E b v_2]) := hw.perm (p_nil _).symm
  refine lv_aload_n hx hb dX1_copyFrom_11 rfl (lv_at hl 0 rfl) ?_
  refine x_get C0 hw 1 hiX1 rfl 0 rfl 1 (by decide) 2 rfl rfl dX1_copyFrom_12 ?_
  refine lv_aload_n hx hb dX1_copyFrom_15 rfl (lv_at hl 1 rfl) ?_
  refine x_get C0 hw 1 hiX1 rfl 23 rfl 1 (by decide) 2 rfl rfl dX1_copyFrom_16 ?_
  refine x_cVv (As := [.ref (b 6)]) (rest := []) (F := []) C0 hw (p_nil _) hl.1 6 5 rfl rfl (c_X5_copyFrom l E a b h) 1 gX1_copyFrom_X5_copyFrom rfl ⟨rfl, rfl⟩ (by decide +kernel) ⟨Nat.le_of_ble_eq_true rfl, Nat.le_of_ble_eq_true rfl⟩ rfl rfl (Nat.le_of_ble_eq_true rfl) dX1_copyFrom_19 ⟨Nat.zero_le _, Nat.zero_le _⟩ (fun u_14 H locs h hw => ?_)
  obtain ⟨v_3, v_4⟩ := u_14
  replace hw : mw E A s.heap H locs (List.flatten [cM E a v_3, cM E b v_4]) := hw.perm (p_nil _).symm
  refine lv_aload_n hx hb dX1_copyFrom_22 rfl (lv_at hl 0 rfl) ?_
  refine x_get C0 hw 1 hiX1 rfl 0 rfl 2 (by decide) 3 rfl rfl dX1_copyFrom_23 ?_
  refine lv_aload_n hx hb dX1_copyFrom_26 rfl (lv_at hl 1 rfl) ?_
  refine x_get C0 hw 1 hiX1 rfl 23 rfl 2 (by decide) 3 rfl rfl dX1_copyFrom_27 ?_
  refine x_cVv (As := [.ref (b 16)]) (rest := []) (F := []) C0 hw (p_nil _) hl.1 16 2 rfl rfl (c_X2_copyFrom l E a b h) 1 gX1_copyFrom_X2_copyFrom rfl ⟨rfl, rfl⟩ (by decide +kernel) ⟨Nat.le_of_ble_eq_true rfl, Nat.le_of_ble_eq_true rfl⟩ rfl rfl (Nat.le_of_ble_eq_true rfl) dX1_copyFrom_30 ⟨Nat.zero_le _, Nat.zero_le _⟩ (fun u_13 H locs h hw => ?_)
  obtain ⟨v_5, v_6⟩ := u_13
  replace hw : mw E A s.heap H locs (List.flatten [cM E a v_5, cM E b v_6]) := hw.perm (p_nil _).symm
  refine lv_aload_n hx hb dX1_copyFrom_33 rfl (lv_at hl 1 rfl) ?_
  refine x_get C0 hw 1 hiX1 rfl 23 rfl 3 (by decide) 4 rfl rfl dX1_copyFrom_34 ?_
  refine lv_iconst (v := 0) hx hb dX1_copyFrom_37 (by decide) ?_
  refine lv_aload_n hx hb dX1_copyFrom_38 rfl (lv_at hl 0 rfl) ?_
  refine x_get C0 hw 1 hiX1 rfl 0 rfl 3 (by decide) 4 rfl rfl dX1_copyFrom_39 ?_
  refine lv_iconst (v := 0) hx hb dX1_copyFrom_42 (by decide) ?_
  refine lv_bipush (v := 6) hx hb dX1_copyFrom_43 (by decide) ?_
  refine x_copy (N := 6) (ws' := (List.flatten [cM E a ((sa v_5 22 (va_cpy (v_6 22) (v_5 22) 0 0 6))), cM E b v_6])) C0 hw hl.1 5 rfl 6 7 8 rfl rfl rfl 45 22 rfl rfl (by decide) rfl rfl (Nat.le_of_ble_eq_true rfl) (Nat.le_of_ble_eq_true rfl) dX1_copyFrom_45 (fun H locs hw => ?_)
  obtain ⟨v_7, e_v_7⟩ : ∃ z, z = sa v_5 22 (va_cpy (v_6 22) (v_5 22) 0 0 6) := ⟨_, rfl⟩
  rw [← e_v_7] at hw
  replace h := h v_7 e_v_7
  refine lv_aload_n hx hb dX1_copyFrom_48 rfl (lv_at hl 0 rfl) ?_
  refine lv_aload_n hx hb dX1_copyFrom_49 rfl (lv_at hl 1 rfl) ?_
  refine x_get C0 hw 1 hiX1 rfl 23 rfl 4 (by decide) 9 rfl rfl dX1_copyFrom_50 ?_
  refine x_put (ws' := (List.flatten [cM E a ((sc v_7 0 4 (v_6 0 4))), cM E b v_6])) C0 hw 1 hiX1 rfl tyX1 tyX1_ok nmX1 0 rfl 4 (by decide) 9 rfl rfl rfl rfl (Nat.le_of_ble_eq_true rfl) rfl dX1_copyFrom_53 (fun H locs hw => ?_)
  obtain ⟨v_8, e_v_8⟩ : ∃ z, z = sc v_7 0 4 (v_6 0 4) := ⟨_, rfl⟩
  rw [← e_v_8] at hw
  replace h := h v_8 e_v_8
  refine lv_aload_n hx hb dX1_copyFrom_56 rfl (lv_at hl 0 rfl) ?_
  refine lv_aload_n hx hb dX1_copyFrom_57 rfl (lv_at hl 1 rfl) ?_
  refine x_get C0 hw 1 hiX1 rfl 23 rfl 5 (by decide) 10 rfl rfl dX1_copyFrom_58 ?_
  refine x_put (ws' := (List.flatten [cM E a ((sc v_8 0 5 (v_6 0 5))), cM E b v_6])) C0 hw 1 hiX1 rfl tyX1 tyX1_ok nmX1 0 rfl 5 (by decide) 10 rfl rfl rfl rfl (Nat.le_of_ble_eq_true rfl) rfl dX1_copyFrom_61 (fun H locs hw => ?_)
  obtain ⟨v_9, e_v_9⟩ : ∃ z, z = sc v_8 0 5 (v_6 0 5) := ⟨_, rfl⟩
  rw [← e_v_9] at hw
  replace h := h v_9 e_v_9
  refine lv_aload_n hx hb dX1_copyFrom_64 rfl (lv_at hl 0 rfl) ?_
  refine lv_aload_n hx hb dX1_copyFrom_65 rfl (lv_at hl 1 rfl) ?_
  refine x_get C0 hw 1 hiX1 rfl 23 rfl 6 (by decide) 11 rfl rfl dX1_copyFrom_66 ?_
  refine x_put (ws' := (List.flatten [cM E a ((sc v_9 0 6 (v_6 0 6))), cM E b v_6])) C0 hw 1 hiX1 rfl tyX1 tyX1_ok nmX1 0 rfl 6 (by decide) 11 rfl rfl rfl rfl (Nat.le_of_ble_eq_true rfl) rfl dX1_copyFrom_69 (fun H locs hw => ?_)
  obtain ⟨v_10, e_v_10⟩ : ∃ z, z = sc v_9 0 6 (v_6 0 6) := ⟨_, rfl⟩
  rw [← e_v_10] at hw
  replace h := h v_10 e_v_10
  refine lv_aload_n hx hb dX1_copyFrom_72 rfl (lv_at hl 0 rfl) ?_
  refine lv_aload_n hx hb dX1_copyFrom_73 rfl (lv_at hl 1 rfl) ?_
  refine x_get C0 hw 1 hiX1 rfl 23 rfl 7 (by decide) 12 rfl rfl dX1_copyFrom_74 ?_
  refine x_put (ws' := (List.flatten [cM E a ((sc v_10 0 7 (v_6 0 7))), cM E b v_6])) C0 hw 1 hiX1 rfl tyX1 tyX1_ok nmX1 0 rfl 7 (by decide) 12 rfl rfl rfl rfl (Nat.le_of_ble_eq_true rfl) rfl dX1_copyFrom_77 (fun H locs hw => ?_)
  obtain ⟨v_11, e_v_11⟩ : ∃ z, z = sc v_10 0 7 (v_6 0 7) := ⟨_, rfl⟩
  rw [← e_v_11] at hw
  replace h := h v_11 e_v_11
  refine lv_aload_n hx hb dX1_copyFrom_80 rfl (lv_at hl 0 rfl) ?_
  refine lv_aload_n hx hb dX1_copyFrom_81 rfl (lv_at hl 1 rfl) ?_
  refine x_get C0 hw 1 hiX1 rfl 23 rfl 8 (by decide) 13 rfl rfl dX1_copyFrom_82 ?_
  refine x_put (ws' := (List.flatten [cM E a ((sc v_11 0 8 (v_6 0 8))), cM E b v_6])) C0 hw 1 hiX1 rfl tyX1 tyX1_ok nmX1 0 rfl 8 (by decide) 13 rfl rfl rfl rfl (Nat.le_of_ble_eq_true rfl) rfl dX1_copyFrom_85 (fun H locs hw => ?_)
  obtain ⟨v_12, e_v_12⟩ : ∃ z, z = sc v_11 0 8 (v_6 0 8) := ⟨_, rfl⟩
  rw [← e_v_12] at hw
  replace h := h v_12 e_v_12
  exact x_retv C0 ⟨v_12, v_6⟩ hw h dX1_copyFrom_88

abbrev rmX0_push : Room := { frames := 3, cells := 0, slots := 0, locals := 68 }
set_option maxRecDepth 100000 in
set_option maxHeartbeats 4000000 in
theorem c_X0_push (l : Launch) (E : EE) (aH : Nat → Nat) (h0 : Nat → Nat) (h1 : Nat → Nat) (h2 : Nat → Nat) (h3 : Nat → Nat) (a : Nat → Nat) {v0 : V} {v1 : V} {v2 : V} {v3 : V} {v4 : V} {v5 : V}   {post : V → V → V → V → V → V → Prop} (h : s_X0_push v0 v1 v2 v3 v4 v5 post) : KV l E yX0_push wsX0_push rmX0_push [.ref (aH 0), .ref (a 0)] (List.flatten [cH E aH (h0 0) (h1 0) (h2 0) (h3 0) v0, cM E h0 v1, cM E h1 v2, cM E h2 v3, cM E h3 v4, cM E a v5]) (S := V × V × V × V × V × V) (fun (u : V × V × V × V × V × V) => post u.1 u.2.1 u.2.2.1 u.2.2.2.1 u.2.2.2.2.1 u.2.2.2.2.2) (fun (u : V × V × V × V × V × V) => (List.flatten [cH E aH (h0 0) (h1 0) (h2 0) (h3 0) u.1, cM E h0 u.2.1, cM E h1 u.2.2.1, cM E h2 u.2.2.2.1, cM E h3 u.2.2.2.2.1, cM E a u.2.2.2.2.2])) := by
  unfold s_X0_push at h
  refine KV.go (cc := cX0_push) (ret := none) (maxL := 3) (own := RX0) (by decide) rfl (Nat.le_of_ble_eq_true rfl) rfl (fun p e s m below meth c A ls C0 hw hl => ?_)
  have hx := C0.1
  have hb := C0.2.1
  have hiX0 : ∀ w ∈ wsX00, w ∈ wsX0_push := fun w h => List.mem_cons_of_mem _ (List.mem_append_left _ (List.mem_append_left _ (List.mem_append_left _ (List.mem_append_left _ (List.mem_append_right _ h)))))
  replace hl : lv_has ls 3 [(0, .ref (aH 0)), (1, .ref (a 0))] := hl
  refine lv_aload_n hx hb dX0_push_0 rfl (lv_at hl 0 rfl) ?_
  refine x_get C0 hw 0 hiX0 rfl 0 rfl 2 (by decide) 1 rfl rfl dX0_push_1 ?_
  refine lv_iconst (v := 4) hx hb dX0_push_4 (by decide) ?_
  refine lv_icmp_ne (tgt := 30) hx hb dX0_push_5 (by decide) (fun c_39 => ?_) (fun c_39 => ?_)
  · replace h := h.1 c_39
    refine lv_aload_n hx hb dX0_push_30 rfl (lv_at hl 0 rfl) ?_
    refine x_get C0 hw 0 hiX0 rfl 0 rfl 0 (by decide) 3 rfl rfl dX0_push_31 ?_
    refine lv_aload_n hx hb dX0_push_34 rfl (lv_at hl 0 rfl) ?_
    refine x_get C0 hw 0 hiX0 rfl 0 rfl 1 (by decide) 2 rfl rfl dX0_push_35 ?_
    refine lv_aload_n hx hb dX0_push_38 rfl (lv_at hl 0 rfl) ?_
    refine x_get C0 hw 0 hiX0 rfl 0 rfl 2 (by decide) 1 rfl rfl dX0_push_39 ?_
    refine lv_iadd hx hb dX0_push_42 ?_
    refine lv_iconst (v := 4) hx hb dX0_push_43 (by decide) ?_
    refine x_cS (As := [.int ((v0 0 1) + (v0 0 2)), .int 4]) (rest := [.ref (aH 1)]) (F := (List.flatten [cH E aH (h0 0) (h1 0) (h2 0) (h3 0) v0, cM E h0 v1, cM E h1 v2, cM E h2 v3, cM E h3 v4, cM E a v5])) C0 hw (p_non _) hl.1 (c_J9_floorMod_7cf53 l E  h) 2 gX0_push_J9_floorMod_7cf53 rfl ⟨rfl, rfl⟩ (by decide +kernel) ⟨Nat.le_of_ble_eq_true rfl, Nat.le_of_ble_eq_true rfl⟩ rfl rfl (Nat.le_of_ble_eq_true rfl) dX0_push_44 ⟨Nat.zero_le _, Nat.zero_le _⟩ (fun r_1 _u H locs h (hw : mw E A s.heap H locs (List.flatten [cH E aH (h0 0) (h1 0) (h2 0) (h3 0) v0, cM E h0 v1, cM E h1 v2, cM E h2 v3, cM E h3 v4, cM E a v5])) => ?_)
    obtain ⟨hin, h⟩ := h
    rcases in4 hin with hc | hc | hc | hc
    · replace h := h.1 hc
      refine x_aldq (v := h0 0) C0 hw 1 rfl hin (by rw [hc]; rfl) dX0_push_47 ?_
      refine lv_astore_n (lv' := [(2, .ref (h0 0)), (0, .ref (aH 0)), (1, .ref (a 0))]) hx hb dX0_push_48 rfl hl (by decide) rfl (fun ls hl => ?_)
      refine lv_aload_n hx hb dX0_push_49 rfl (lv_at hl 0 rfl) ?_
      refine lv_ifnull hx hb dX0_push_50 ?_
      refine lv_aload_n hx hb dX0_push_53 rfl (lv_at hl 0 rfl) ?_
      refine lv_aload_n hx hb dX0_push_54 rfl (lv_at hl 2 rfl) ?_
      refine x_cVv (As := [.ref (a 0)]) (rest := []) (F := (List.flatten [cH E aH (h0 0) (h1 0) (h2 0) (h3 0) v0, cM E h1 v2, cM E h2 v3, cM E h3 v4])) C0 hw (p_fl (ds := [cM E h0 v1, cM E a v5]) ((p_pk _ 1 _ rfl).trans (List.Perm.cons _ ((p_pk _ 4 _ rfl).trans (List.Perm.cons _ (List.Perm.refl _)))))) hl.1 2 1 rfl rfl (c_X1_copyFrom l E h0 a h) 1 gX0_push_X1_copyFrom rfl ⟨rfl, rfl⟩ (by decide +kernel) ⟨Nat.le_of_ble_eq_true rfl, Nat.le_of_ble_eq_true rfl⟩ rfl rfl (Nat.le_of_ble_eq_true rfl) dX0_push_55 ⟨Nat.zero_le _, Nat.zero_le _⟩ (fun u_5 H locs h hw => ?_)
      obtain ⟨v_2, v_3⟩ := u_5
      replace hw : mw E A s.heap H locs (List.flatten [cH E aH (h0 0) (h1 0) (h2 0) (h3 0) v0, cM E h0 v_2, cM E h1 v2, cM E h2 v3, cM E h3 v4, cM E a v_3]) := hw.perm (p_bk (ds := [cM E h0 v_2, cM E a v_3]) ((p_pk _ 1 _ rfl).trans (List.Perm.cons _ ((p_pk _ 4 _ rfl).trans (List.Perm.cons _ (List.Perm.refl _))))))
      refine lv_aload_n hx hb dX0_push_58 rfl (lv_at hl 1 rfl) ?_
      refine lv_dup hx hb dX0_push_59 rfl ?_
      refine x_get C0 hw 0 hiX0 rfl 0 rfl 2 (by decide) 1 rfl rfl dX0_push_60 ?_
      refine lv_iconst (v := 1) hx hb dX0_push_63 (by decide) ?_
      refine lv_iadd hx hb dX0_push_64 ?_
      refine x_put (ws' := (List.flatten [cH E aH (h0 0) (h1 0) (h2 0) (h3 0) ((sc v0 0 2 ((v0 0 2) + 1))), cM E h0 v_2, cM E h1 v2, cM E h2 v3, cM E h3 v4, cM E a v_3])) C0 hw 0 hiX0 rfl tyX0 tyX0_ok nmX0 0 rfl 2 (by decide) 1 rfl rfl rfl rfl (Nat.le_of_ble_eq_true rfl) rfl dX0_push_65 (fun H locs hw => ?_)
      obtain ⟨v_4, e_v_4⟩ : ∃ z, z = sc v0 0 2 ((v0 0 2) + 1) := ⟨_, rfl⟩
      rw [← e_v_4] at hw
      replace h := h v_4 e_v_4
      exact x_retv C0 ⟨v_4, v_2, v2, v3, v4, v_3⟩ hw h dX0_push_68
    · replace h := h.2.1 hc
      refine x_aldq (v := h1 0) C0 hw 1 rfl hin (by rw [hc]; rfl) dX0_push_47 ?_
      refine lv_astore_n (lv' := [(2, .ref (h1 0)), (0, .ref (aH 0)), (1, .ref (a 0))]) hx hb dX0_push_48 rfl hl (by decide) rfl (fun ls hl => ?_)
      refine lv_aload_n hx hb dX0_push_49 rfl (lv_at hl 0 rfl) ?_
      refine lv_ifnull hx hb dX0_push_50 ?_
      refine lv_aload_n hx hb dX0_push_53 rfl (lv_at hl 0 rfl) ?_
      refine lv_aload_n hx hb dX0_push_54 rfl (lv_at hl 2 rfl) ?_
      refine x_cVv (As := [.ref (a 0)]) (rest := []) (F := (List.flatten [cH E aH (h0 0) (h1 0) (h2 0) (h3 0) v0, cM E h0 v1, cM E h2 v3, cM E h3 v4])) C0 hw (p_fl (ds := [cM E h1 v2, cM E a v5]) ((p_pk _ 2 _ rfl).trans (List.Perm.cons _ ((p_pk _ 4 _ rfl).trans (List.Perm.cons _ (List.Perm.refl _)))))) hl.1 25 1 rfl rfl (c_X1_copyFrom l E h1 a h) 1 gX0_push_X1_copyFrom rfl ⟨rfl, rfl⟩ (by decide +kernel) ⟨Nat.le_of_ble_eq_true rfl, Nat.le_of_ble_eq_true rfl⟩ rfl rfl (Nat.le_of_ble_eq_true rfl) dX0_push_55 ⟨Nat.zero_le _, Nat.zero_le _⟩ (fun u_9 H locs h hw => ?_)
      obtain ⟨v_6, v_7⟩ := u_9
      replace hw : mw E A s.heap H locs (List.flatten [cH E aH (h0 0) (h1 0) (h2 0) (h3 0) v0, cM E h0 v1, cM E h1 v_6, cM E h2 v3, cM E h3 v4, cM E a v_7]) := hw.perm (p_bk (ds := [cM E h1 v_6, cM E a v_7]) ((p_pk _ 2 _ rfl).trans (List.Perm.cons _ ((p_pk _ 4 _ rfl).trans (List.Perm.cons _ (List.Perm.refl _))))))
      refine lv_aload_n hx hb dX0_push_58 rfl (lv_at hl 1 rfl) ?_
      refine lv_dup hx hb dX0_push_59 rfl ?_
      refine x_get C0 hw 0 hiX0 rfl 0 rfl 2 (by decide) 1 rfl rfl dX0_push_60 ?_
      refine lv_iconst (v := 1) hx hb dX0_push_63 (by decide) ?_
      refine lv_iadd hx hb dX0_push_64 ?_
      refine x_put (ws' := (List.flatten [cH E aH (h0 0) (h1 0) (h2 0) (h3 0) ((sc v0 0 2 ((v0 0 2) + 1))), cM E h0 v1, cM E h1 v_6, cM E h2 v3, cM E h3 v4, cM E a v_7])) C0 hw 0 hiX0 rfl tyX0 tyX0_ok nmX0 0 rfl 2 (by decide) 1 rfl rfl rfl rfl (Nat.le_of_ble_eq_true rfl) rfl dX0_push_65 (fun H locs hw => ?_)
      obtain ⟨v_8, e_v_8⟩ : ∃ z, z = sc v0 0 2 ((v0 0 2) + 1) := ⟨_, rfl⟩
      rw [← e_v_8] at hw
      replace h := h v_8 e_v_8
      exact x_retv C0 ⟨v_8, v1, v_6, v3, v4, v_7⟩ hw h dX0_push_68
    · replace h := h.2.2.1 hc
      refine x_aldq (v := h2 0) C0 hw 1 rfl hin (by rw [hc]; rfl) dX0_push_47 ?_
      refine lv_astore_n (lv' := [(2, .ref (h2 0)), (0, .ref (aH 0)), (1, .ref (a 0))]) hx hb dX0_push_48 rfl hl (by decide) rfl (fun ls hl => ?_)
      refine lv_aload_n hx hb dX0_push_49 rfl (lv_at hl 0 rfl) ?_
      refine lv_ifnull hx hb dX0_push_50 ?_
      refine lv_aload_n hx hb dX0_push_53 rfl (lv_at hl 0 rfl) ?_
      refine lv_aload_n hx hb dX0_push_54 rfl (lv_at hl 2 rfl) ?_
      refine x_cVv (As := [.ref (a 0)]) (rest := []) (F := (List.flatten [cH E aH (h0 0) (h1 0) (h2 0) (h3 0) v0, cM E h0 v1, cM E h1 v2, cM E h3 v4])) C0 hw (p_fl (ds := [cM E h2 v3, cM E a v5]) ((p_pk _ 3 _ rfl).trans (List.Perm.cons _ ((p_pk _ 4 _ rfl).trans (List.Perm.cons _ (List.Perm.refl _)))))) hl.1 48 1 rfl rfl (c_X1_copyFrom l E h2 a h) 1 gX0_push_X1_copyFrom rfl ⟨rfl, rfl⟩ (by decide +kernel) ⟨Nat.le_of_ble_eq_true rfl, Nat.le_of_ble_eq_true rfl⟩ rfl rfl (Nat.le_of_ble_eq_true rfl) dX0_push_55 ⟨Nat.zero_le _, Nat.zero_le _⟩ (fun u_13 H locs h hw => ?_)
      obtain ⟨v_10, v_11⟩ := u_13
      replace hw : mw E A s.heap H locs (List.flatten [cH E aH (h0 0) (h1 0) (h2 0) (h3 0) v0, cM E h0 v1, cM E h1 v2, cM E h2 v_10, cM E h3 v4, cM E a v_11]) := hw.perm (p_bk (ds := [cM E h2 v_10, cM E a v_11]) ((p_pk _ 3 _ rfl).trans (List.Perm.cons _ ((p_pk _ 4 _ rfl).trans (List.Perm.cons _ (List.Perm.refl _))))))
      refine lv_aload_n hx hb dX0_push_58 rfl (lv_at hl 1 rfl) ?_
      refine lv_dup hx hb dX0_push_59 rfl ?_
      refine x_get C0 hw 0 hiX0 rfl 0 rfl 2 (by decide) 1 rfl rfl dX0_push_60 ?_
      refine lv_iconst (v := 1) hx hb dX0_push_63 (by decide) ?_
      refine lv_iadd hx hb dX0_push_64 ?_
      refine x_put (ws' := (List.flatten [cH E aH (h0 0) (h1 0) (h2 0) (h3 0) ((sc v0 0 2 ((v0 0 2) + 1))), cM E h0 v1, cM E h1 v2, cM E h2 v_10, cM E h3 v4, cM E a v_11])) C0 hw 0 hiX0 rfl tyX0 tyX0_ok nmX0 0 rfl 2 (by decide) 1 rfl rfl rfl rfl (Nat.le_of_ble_eq_true rfl) rfl dX0_push_65 (fun H locs hw => ?_)
      obtain ⟨v_12, e_v_12⟩ : ∃ z, z = sc v0 0 2 ((v0 0 2) + 1) := ⟨_, rfl⟩
      rw [← e_v_12] at hw
      replace h := h v_12 e_v_12
      exact x_retv C0 ⟨v_12, v1, v2, v_10, v4, v_11⟩ hw h dX0_push_68
    · replace h := h.2.2.2 hc
      refine x_aldq (v := h3 0) C0 hw 1 rfl hin (by rw [hc]; rfl) dX0_push_47 ?_
      refine lv_astore_n (lv' := [(2, .ref (h3 0)), (0, .ref (aH 0)), (1, .ref (a 0))]) hx hb dX0_push_48 rfl hl (by decide) rfl (fun ls hl => ?_)
      refine lv_aload_n hx hb dX0_push_49 rfl (lv_at hl 0 rfl) ?_
      refine lv_ifnull hx hb dX0_push_50 ?_
      refine lv_aload_n hx hb dX0_push_53 rfl (lv_at hl 0 rfl) ?_
      refine lv_aload_n hx hb dX0_push_54 rfl (lv_at hl 2 rfl) ?_
      refine x_cVv (As := [.ref (a 0)]) (rest := []) (F := (List.flatten [cH E aH (h0 0) (h1 0) (h2 0) (h3 0) v0, cM E h0 v1, cM E h1 v2, cM E h2 v3])) C0 hw (p_fl (ds := [cM E h3 v4, cM E a v5]) ((p_pk _ 4 _ rfl).trans (List.Perm.cons _ ((p_pk _ 4 _ rfl).trans (List.Perm.cons _ (List.Perm.refl _)))))) hl.1 71 1 rfl rfl (c_X1_copyFrom l E h3 a h) 1 gX0_push_X1_copyFrom rfl ⟨rfl, rfl⟩ (by decide +kernel) ⟨Nat.le_of_ble_eq_true rfl, Nat.le_of_ble_eq_true rfl⟩ rfl rfl (Nat.le_of_ble_eq_true rfl) dX0_push_55 ⟨Nat.zero_le _, Nat.zero_le _⟩ (fun u_17 H locs h hw => ?_)
      obtain ⟨v_14, v_15⟩ := u_17
      replace hw : mw E A s.heap H locs (List.flatten [cH E aH (h0 0) (h1 0) (h2 0) (h3 0) v0, cM E h0 v1, cM E h1 v2, cM E h2 v3, cM E h3 v_14, cM E a v_15]) := hw.perm (p_bk (ds := [cM E h3 v_14, cM E a v_15]) ((p_pk _ 4 _ rfl).trans (List.Perm.cons _ ((p_pk _ 4 _ rfl).trans (List.Perm.cons _ (List.Perm.refl _))))))
      refine lv_aload_n hx hb dX0_push_58 rfl (lv_at hl 1 rfl) ?_
      refine lv_dup hx hb dX0_push_59 rfl ?_
      refine x_get C0 hw 0 hiX0 rfl 0 rfl 2 (by decide) 1 rfl rfl dX0_push_60 ?_
      refine lv_iconst (v := 1) hx hb dX0_push_63 (by decide) ?_
      refine lv_iadd hx hb dX0_push_64 ?_
      refine x_put (ws' := (List.flatten [cH E aH (h0 0) (h1 0) (h2 0) (h3 0) ((sc v0 0 2 ((v0 0 2) + 1))), cM E h0 v1, cM E h1 v2, cM E h2 v3, cM E h3 v_14, cM E a v_15])) C0 hw 0 hiX0 rfl tyX0 tyX0_ok nmX0 0 rfl 2 (by decide) 1 rfl rfl rfl rfl (Nat.le_of_ble_eq_true rfl) rfl dX0_push_65 (fun H locs hw => ?_)
      obtain ⟨v_16, e_v_16⟩ : ∃ z, z = sc v0 0 2 ((v0 0 2) + 1) := ⟨_, rfl⟩
      rw [← e_v_16] at hw
      replace h := h v_16 e_v_16
      exact x_retv C0 ⟨v_16, v1, v2, v3, v_14, v_15⟩ hw h dX0_push_68
  · replace h := h.2 c_39
    refine lv_aload_n hx hb dX0_push_8 rfl (lv_at hl 0 rfl) ?_
    refine lv_aload_n hx hb dX0_push_9 rfl (lv_at hl 0 rfl) ?_
    refine x_get C0 hw 0 hiX0 rfl 0 rfl 1 (by decide) 2 rfl rfl dX0_push_10 ?_
    refine lv_iconst (v := 1) hx hb dX0_push_13 (by decide) ?_
    refine lv_iadd hx hb dX0_push_14 ?_
    refine lv_iconst (v := 4) hx hb dX0_push_15 (by decide) ?_
    refine lv_irem hx hb dX0_push_16 (by decide) ?_
    refine x_put (ws' := (List.flatten [cH E aH (h0 0) (h1 0) (h2 0) (h3 0) ((sc v0 0 1 (((v0 0 1) + 1) - ((v0 0 1) + 1) / 4 * 4))), cM E h0 v1, cM E h1 v2, cM E h2 v3, cM E h3 v4, cM E a v5])) C0 hw 0 hiX0 rfl tyX0 tyX0_ok nmX0 0 rfl 1 (by decide) 2 rfl rfl rfl rfl (Nat.le_of_ble_eq_true rfl) rfl dX0_push_17 (fun H locs hw => ?_)
    obtain ⟨v_19, e_v_19⟩ : ∃ z, z = sc v0 0 1 (((v0 0 1) + 1) - ((v0 0 1) + 1) / 4 * 4) := ⟨_, rfl⟩
    rw [← e_v_19] at hw
    replace h := h v_19 e_v_19
    refine lv_aload_n hx hb dX0_push_20 rfl (lv_at hl 0 rfl) ?_
    refine lv_dup hx hb dX0_push_21 rfl ?_
    refine x_get C0 hw 0 hiX0 rfl 0 rfl 2 (by decide) 1 rfl rfl dX0_push_22 ?_
    refine lv_iconst (v := 1) hx hb dX0_push_25 (by decide) ?_
    refine lv_isub hx hb dX0_push_26 ?_
    refine x_put (ws' := (List.flatten [cH E aH (h0 0) (h1 0) (h2 0) (h3 0) ((sc v_19 0 2 ((v_19 0 2) - 1))), cM E h0 v1, cM E h1 v2, cM E h2 v3, cM E h3 v4, cM E a v5])) C0 hw 0 hiX0 rfl tyX0 tyX0_ok nmX0 0 rfl 2 (by decide) 1 rfl rfl rfl rfl (Nat.le_of_ble_eq_true rfl) rfl dX0_push_27 (fun H locs hw => ?_)
    obtain ⟨v_20, e_v_20⟩ : ∃ z, z = sc v_19 0 2 ((v_19 0 2) - 1) := ⟨_, rfl⟩
    rw [← e_v_20] at hw
    replace h := h v_20 e_v_20
    refine lv_aload_n hx hb dX0_push_30 rfl (lv_at hl 0 rfl) ?_
    refine x_get C0 hw 0 hiX0 rfl 0 rfl 0 (by decide) 3 rfl rfl dX0_push_31 ?_
    refine lv_aload_n hx hb dX0_push_34 rfl (lv_at hl 0 rfl) ?_
    refine x_get C0 hw 0 hiX0 rfl 0 rfl 1 (by decide) 2 rfl rfl dX0_push_35 ?_
    refine lv_aload_n hx hb dX0_push_38 rfl (lv_at hl 0 rfl) ?_
    refine x_get C0 hw 0 hiX0 rfl 0 rfl 2 (by decide) 1 rfl rfl dX0_push_39 ?_
    refine lv_iadd hx hb dX0_push_42 ?_
    refine lv_iconst (v := 4) hx hb dX0_push_43 (by decide) ?_
    refine x_cS (As := [.int ((v_20 0 1) + (v_20 0 2)), .int 4]) (rest := [.ref (aH 1)]) (F := (List.flatten [cH E aH (h0 0) (h1 0) (h2 0) (h3 0) v_20, cM E h0 v1, cM E h1 v2, cM E h2 v3, cM E h3 v4, cM E a v5])) C0 hw (p_non _) hl.1 (c_J9_floorMod_7cf53 l E  h) 2 gX0_push_J9_floorMod_7cf53 rfl ⟨rfl, rfl⟩ (by decide +kernel) ⟨Nat.le_of_ble_eq_true rfl, Nat.le_of_ble_eq_true rfl⟩ rfl rfl (Nat.le_of_ble_eq_true rfl) dX0_push_44 ⟨Nat.zero_le _, Nat.zero_le _⟩ (fun r_21 _u H locs h (hw : mw E A s.heap H locs (List.flatten [cH E aH (h0 0) (h1 0) (h2 0) (h3 0) v_20, cM E h0 v1, cM E h1 v2, cM E h2 v3, cM E h3 v4, cM E a v5])) => ?_)
    obtain ⟨hin, h⟩ := h
    rcases in4 hin with hc | hc | hc | hc
    · replace h := h.1 hc
      refine x_aldq (v := h0 0) C0 hw 1 rfl hin (by rw [hc]; rfl) dX0_push_47 ?_
      refine lv_astore_n (lv' := [(2, .ref (h0 0)), (0, .ref (aH 0)), (1, .ref (a 0))]) hx hb dX0_push_48 rfl hl (by decide) rfl (fun ls hl => ?_)
      refine lv_aload_n hx hb dX0_push_49 rfl (lv_at hl 0 rfl) ?_
      refine lv_ifnull hx hb dX0_push_50 ?_
      refine lv_aload_n hx hb dX0_push_53 rfl (lv_at hl 0 rfl) ?_
      refine lv_aload_n hx hb dX0_push_54 rfl (lv_at hl 2 rfl) ?_
      refine x_cVv (As := [.ref (a 0)]) (rest := []) (F := (List.flatten [cH E aH (h0 0) (h1 0) (h2 0) (h3 0) v_20, cM E h1 v2, cM E h2 v3, cM E h3 v4])) C0 hw (p_fl (ds := [cM E h0 v1, cM E a v5]) ((p_pk _ 1 _ rfl).trans (List.Perm.cons _ ((p_pk _ 4 _ rfl).trans (List.Perm.cons _ (List.Perm.refl _)))))) hl.1 2 1 rfl rfl (c_X1_copyFrom l E h0 a h) 1 gX0_push_X1_copyFrom rfl ⟨rfl, rfl⟩ (by decide +kernel) ⟨Nat.le_of_ble_eq_true rfl, Nat.le_of_ble_eq_true rfl⟩ rfl rfl (Nat.le_of_ble_eq_true rfl) dX0_push_55 ⟨Nat.zero_le _, Nat.zero_le _⟩ (fun u_25 H locs h hw => ?_)
      obtain ⟨v_22, v_23⟩ := u_25
      replace hw : mw E A s.heap H locs (List.flatten [cH E aH (h0 0) (h1 0) (h2 0) (h3 0) v_20, cM E h0 v_22, cM E h1 v2, cM E h2 v3, cM E h3 v4, cM E a v_23]) := hw.perm (p_bk (ds := [cM E h0 v_22, cM E a v_23]) ((p_pk _ 1 _ rfl).trans (List.Perm.cons _ ((p_pk _ 4 _ rfl).trans (List.Perm.cons _ (List.Perm.refl _))))))
      refine lv_aload_n hx hb dX0_push_58 rfl (lv_at hl 1 rfl) ?_
      refine lv_dup hx hb dX0_push_59 rfl ?_
      refine x_get C0 hw 0 hiX0 rfl 0 rfl 2 (by decide) 1 rfl rfl dX0_push_60 ?_
      refine lv_iconst (v := 1) hx hb dX0_push_63 (by decide) ?_
      refine lv_iadd hx hb dX0_push_64 ?_
      refine x_put (ws' := (List.flatten [cH E aH (h0 0) (h1 0) (h2 0) (h3 0) ((sc v_20 0 2 ((v_20 0 2) + 1))), cM E h0 v_22, cM E h1 v2, cM E h2 v3, cM E h3 v4, cM E a v_23])) C0 hw 0 hiX0 rfl tyX0 tyX0_ok nmX0 0 rfl 2 (by decide) 1 rfl rfl rfl rfl (Nat.le_of_ble_eq_true rfl) rfl dX0_push_65 (fun H locs hw => ?_)
      obtain ⟨v_24, e_v_24⟩ : ∃ z, z = sc v_20 0 2 ((v_20 0 2) + 1) := ⟨_, rfl⟩
      rw [← e_v_24] at hw
      replace h := h v_24 e_v_24
      exact x_retv C0 ⟨v_24, v_22, v2, v3, v4, v_23⟩ hw h dX0_push_68
    · replace h := h.2.1 hc
      refine x_aldq (v := h1 0) C0 hw 1 rfl hin (by rw [hc]; rfl) dX0_push_47 ?_
      refine lv_astore_n (lv' := [(2, .ref (h1 0)), (0, .ref (aH 0)), (1, .ref (a 0))]) hx hb dX0_push_48 rfl hl (by decide) rfl (fun ls hl => ?_)
      refine lv_aload_n hx hb dX0_push_49 rfl (lv_at hl 0 rfl) ?_
      refine lv_ifnull hx hb dX0_push_50 ?_
      refine lv_aload_n hx hb dX0_push_53 rfl (lv_at hl 0 rfl) ?_
      refine lv_aload_n hx hb dX0_push_54 rfl (lv_at hl 2 rfl) ?_
      refine x_cVv (As := [.ref (a 0)]) (rest := []) (F := (List.flatten [cH E aH (h0 0) (h1 0) (h2 0) (h3 0) v_20, cM E h0 v1, cM E h2 v3, cM E h3 v4])) C0 hw (p_fl (ds := [cM E h1 v2, cM E a v5]) ((p_pk _ 2 _ rfl).trans (List.Perm.cons _ ((p_pk _ 4 _ rfl).trans (List.Perm.cons _ (List.Perm.refl _)))))) hl.1 25 1 rfl rfl (c_X1_copyFrom l E h1 a h) 1 gX0_push_X1_copyFrom rfl ⟨rfl, rfl⟩ (by decide +kernel) ⟨Nat.le_of_ble_eq_true rfl, Nat.le_of_ble_eq_true rfl⟩ rfl rfl (Nat.le_of_ble_eq_true rfl) dX0_push_55 ⟨Nat.zero_le _, Nat.zero_le _⟩ (fun u_29 H locs h hw => ?_)
      obtain ⟨v_26, v_27⟩ := u_29
      replace hw : mw E A s.heap H locs (List.flatten [cH E aH (h0 0) (h1 0) (h2 0) (h3 0) v_20, cM E h0 v1, cM E h1 v_26, cM E h2 v3, cM E h3 v4, cM E a v_27]) := hw.perm (p_bk (ds := [cM E h1 v_26, cM E a v_27]) ((p_pk _ 2 _ rfl).trans (List.Perm.cons _ ((p_pk _ 4 _ rfl).trans (List.Perm.cons _ (List.Perm.refl _))))))
      refine lv_aload_n hx hb dX0_push_58 rfl (lv_at hl 1 rfl) ?_
      refine lv_dup hx hb dX0_push_59 rfl ?_
      refine x_get C0 hw 0 hiX0 rfl 0 rfl 2 (by decide) 1 rfl rfl dX0_push_60 ?_
      refine lv_iconst (v := 1) hx hb dX0_push_63 (by decide) ?_
      refine lv_iadd hx hb dX0_push_64 ?_
      refine x_put (ws' := (List.flatten [cH E aH (h0 0) (h1 0) (h2 0) (h3 0) ((sc v_20 0 2 ((v_20 0 2) + 1))), cM E h0 v1, cM E h1 v_26, cM E h2 v3, cM E h3 v4, cM E a v_27])) C0 hw 0 hiX0 rfl tyX0 tyX0_ok nmX0 0 rfl 2 (by decide) 1 rfl rfl rfl rfl (Nat.le_of_ble_eq_true rfl) rfl dX0_push_65 (fun H locs hw => ?_)
      obtain ⟨v_28, e_v_28⟩ : ∃ z, z = sc v_20 0 2 ((v_20 0 2) + 1) := ⟨_, rfl⟩
      rw [← e_v_28] at hw
      replace h := h v_28 e_v_28
      exact x_retv C0 ⟨v_28, v1, v_26, v3, v4, v_27⟩ hw h dX0_push_68
    · replace h := h.2.2.1 hc
      refine x_aldq (v := h2 0) C0 hw 1 rfl hin (by rw [hc]; rfl) dX0_push_47 ?_
      refine lv_astore_n (lv' := [(2, .ref (h2 0)), (0, .ref (aH 0)), (1, .ref (a 0))]) hx hb dX0_push_48 rfl hl (by decide) rfl (fun ls hl => ?_)
      refine lv_aload_n hx hb dX0_push_49 rfl (lv_at hl 0 rfl) ?_
      refine lv_ifnull hx hb dX0_push_50 ?_
      refine lv_aload_n hx hb dX0_push_53 rfl (lv_at hl 0 rfl) ?_
      refine lv_aload_n hx hb dX0_push_54 rfl (lv_at hl 2 rfl) ?_
      refine x_cVv (As := [.ref (a 0)]) (rest := []) (F := (List.flatten [cH E aH (h0 0) (h1 0) (h2 0) (h3 0) v_20, cM E h0 v1, cM E h1 v2, cM E h3 v4])) C0 hw (p_fl (ds := [cM E h2 v3, cM E a v5]) ((p_pk _ 3 _ rfl).trans (List.Perm.cons _ ((p_pk _ 4 _ rfl).trans (List.Perm.cons _ (List.Perm.refl _)))))) hl.1 48 1 rfl rfl (c_X1_copyFrom l E h2 a h) 1 gX0_push_X1_copyFrom rfl ⟨rfl, rfl⟩ (by decide +kernel) ⟨Nat.le_of_ble_eq_true rfl, Nat.le_of_ble_eq_true rfl⟩ rfl rfl (Nat.le_of_ble_eq_true rfl) dX0_push_55 ⟨Nat.zero_le _, Nat.zero_le _⟩ (fun u_33 H locs h hw => ?_)
      obtain ⟨v_30, v_31⟩ := u_33
      replace hw : mw E A s.heap H locs (List.flatten [cH E aH (h0 0) (h1 0) (h2 0) (h3 0) v_20, cM E h0 v1, cM E h1 v2, cM E h2 v_30, cM E h3 v4, cM E a v_31]) := hw.perm (p_bk (ds := [cM E h2 v_30, cM E a v_31]) ((p_pk _ 3 _ rfl).trans (List.Perm.cons _ ((p_pk _ 4 _ rfl).trans (List.Perm.cons _ (List.Perm.refl _))))))
      refine lv_aload_n hx hb dX0_push_58 rfl (lv_at hl 1 rfl) ?_
      refine lv_dup hx hb dX0_push_59 rfl ?_
      refine x_get C0 hw 0 hiX0 rfl 0 rfl 2 (by decide) 1 rfl rfl dX0_push_60 ?_
      refine lv_iconst (v := 1) hx hb dX0_push_63 (by decide) ?_
      refine lv_iadd hx hb dX0_push_64 ?_
      refine x_put (ws' := (List.flatten [cH E aH (h0 0) (h1 0) (h2 0) (h3 0) ((sc v_20 0 2 ((v_20 0 2) + 1))), cM E h0 v1, cM E h1 v2, cM E h2 v_30, cM E h3 v4, cM E a v_31])) C0 hw 0 hiX0 rfl tyX0 tyX0_ok nmX0 0 rfl 2 (by decide) 1 rfl rfl rfl rfl (Nat.le_of_ble_eq_true rfl) rfl dX0_push_65 (fun H locs hw => ?_)
      obtain ⟨v_32, e_v_32⟩ : ∃ z, z = sc v_20 0 2 ((v_20 0 2) + 1) := ⟨_, rfl⟩
      rw [← e_v_32] at hw
      replace h := h v_32 e_v_32
      exact x_retv C0 ⟨v_32, v1, v2, v_30, v4, v_31⟩ hw h dX0_push_68
    · replace h := h.2.2.2 hc
      refine x_aldq (v := h3 0) C0 hw 1 rfl hin (by rw [hc]; rfl) dX0_push_47 ?_
      refine lv_astore_n (lv' := [(2, .ref (h3 0)), (0, .ref (aH 0)), (1, .ref (a 0))]) hx hb dX0_push_48 rfl hl (by decide) rfl (fun ls hl => ?_)
      refine lv_aload_n hx hb dX0_push_49 rfl (lv_at hl 0 rfl) ?_
      refine lv_ifnull hx hb dX0_push_50 ?_
      refine lv_aload_n hx hb dX0_push_53 rfl (lv_at hl 0 rfl) ?_
      refine lv_aload_n hx hb dX0_push_54 rfl (lv_at hl 2 rfl) ?_
      refine x_cVv (As := [.ref (a 0)]) (rest := []) (F := (List.flatten [cH E aH (h0 0) (h1 0) (h2 0) (h3 0) v_20, cM E h0 v1, cM E h1 v2, cM E h2 v3])) C0 hw (p_fl (ds := [cM E h3 v4, cM E a v5]) ((p_pk _ 4 _ rfl).trans (List.Perm.cons _ ((p_pk _ 4 _ rfl).trans (List.Perm.cons _ (List.Perm.refl _)))))) hl.1 71 1 rfl rfl (c_X1_copyFrom l E h3 a h) 1 gX0_push_X1_copyFrom rfl ⟨rfl, rfl⟩ (by decide +kernel) ⟨Nat.le_of_ble_eq_true rfl, Nat.le_of_ble_eq_true rfl⟩ rfl rfl (Nat.le_of_ble_eq_true rfl) dX0_push_55 ⟨Nat.zero_le _, Nat.zero_le _⟩ (fun u_37 H locs h hw => ?_)
      obtain ⟨v_34, v_35⟩ := u_37
      replace hw : mw E A s.heap H locs (List.flatten [cH E aH (h0 0) (h1 0) (h2 0) (h3 0) v_20, cM E h0 v1, cM E h1 v2, cM E h2 v3, cM E h3 v_34, cM E a v_35]) := hw.perm (p_bk (ds := [cM E h3 v_34, cM E a v_35]) ((p_pk _ 4 _ rfl).trans (List.Perm.cons _ ((p_pk _ 4 _ rfl).trans (List.Perm.cons _ (List.Perm.refl _))))))
      refine lv_aload_n hx hb dX0_push_58 rfl (lv_at hl 1 rfl) ?_
      refine lv_dup hx hb dX0_push_59 rfl ?_
      refine x_get C0 hw 0 hiX0 rfl 0 rfl 2 (by decide) 1 rfl rfl dX0_push_60 ?_
      refine lv_iconst (v := 1) hx hb dX0_push_63 (by decide) ?_
      refine lv_iadd hx hb dX0_push_64 ?_
      refine x_put (ws' := (List.flatten [cH E aH (h0 0) (h1 0) (h2 0) (h3 0) ((sc v_20 0 2 ((v_20 0 2) + 1))), cM E h0 v1, cM E h1 v2, cM E h2 v3, cM E h3 v_34, cM E a v_35])) C0 hw 0 hiX0 rfl tyX0 tyX0_ok nmX0 0 rfl 2 (by decide) 1 rfl rfl rfl rfl (Nat.le_of_ble_eq_true rfl) rfl dX0_push_65 (fun H locs hw => ?_)
      obtain ⟨v_36, e_v_36⟩ : ∃ z, z = sc v_20 0 2 ((v_20 0 2) + 1) := ⟨_, rfl⟩
      rw [← e_v_36] at hw
      replace h := h v_36 e_v_36
      exact x_retv C0 ⟨v_36, v1, v2, v3, v_34, v_35⟩ hw h dX0_push_68

abbrev rmX0_popInto : Room := { frames := 3, cells := 0, slots := 0, locals := 68 }
set_option maxRecDepth 100000 in
set_option maxHeartbeats 4000000 in
theorem c_X0_popInto (l : Launch) (E : EE) (aH : Nat → Nat) (h0 : Nat → Nat) (h1 : Nat → Nat) (h2 : Nat → Nat) (h3 : Nat → Nat) (a : Nat → Nat) {v0 : V} {v1 : V} {v2 : V} {v3 : V} {v4 : V} {v5 : V}   {post : V → V → V → V → V → V → Prop} (h : s_X0_popInto v0 v1 v2 v3 v4 v5 post) : KV l E yX0_popInto wsX0_popInto rmX0_popInto [.ref (aH 0), .ref (a 0)] (List.flatten [cH E aH (h0 0) (h1 0) (h2 0) (h3 0) v0, cM E h0 v1, cM E h1 v2, cM E h2 v3, cM E h3 v4, cM E a v5]) (S := V × V × V × V × V × V) (fun (u : V × V × V × V × V × V) => post u.1 u.2.1 u.2.2.1 u.2.2.2.1 u.2.2.2.2.1 u.2.2.2.2.2) (fun (u : V × V × V × V × V × V) => (List.flatten [cH E aH (h0 0) (h1 0) (h2 0) (h3 0) u.1, cM E h0 u.2.1, cM E h1 u.2.2.1, cM E h2 u.2.2.2.1, cM E h3 u.2.2.2.2.1, cM E a u.2.2.2.2.2])) := by
  unfold s_X0_popInto at h
  refine KV.go (cc := cX0_popInto) (ret := none) (maxL := 3) (own := RX0) (by decide) rfl (Nat.le_of_ble_eq_true rfl) rfl (fun p e s m below meth c A ls C0 hw hl => ?_)
  have hx := C0.1
  have hb := C0.2.1
  have hiX0 : ∀ w ∈ wsX00, w ∈ wsX0_popInto := fun w h => List.mem_cons_of_mem _ (List.mem_append_left _ (List.mem_append_left _ (List.mem_append_left _ (List.mem_append_left _ (List.mem_append_right _ h)))))
  replace hl : lv_has ls 3 [(0, .ref (aH 0)), (1, .ref (a 0))] := hl
  refine lv_aload_n hx hb dX0_popInto_0 rfl (lv_at hl 0 rfl) ?_
  refine x_get C0 hw 0 hiX0 rfl 0 rfl 2 (by decide) 1 rfl rfl dX0_popInto_1 ?_
  refine lv_if_ne (tgt := 8) hx hb dX0_popInto_4 (by decide) (fun c_19 => ?_) (fun c_19 => ?_)
  · replace h := h.1 c_19
    refine lv_aload_n hx hb dX0_popInto_8 rfl (lv_at hl 0 rfl) ?_
    refine x_get C0 hw 0 hiX0 rfl 0 rfl 0 (by decide) 2 rfl rfl dX0_popInto_9 ?_
    refine lv_aload_n hx hb dX0_popInto_12 rfl (lv_at hl 0 rfl) ?_
    refine x_get C0 hw 0 hiX0 rfl 0 rfl 1 (by decide) 3 rfl rfl dX0_popInto_13 ?_
    refine lv_aload_n hx hb dX0_popInto_16 rfl (lv_at hl 0 rfl) ?_
    refine x_get C0 hw 0 hiX0 rfl 0 rfl 2 (by decide) 1 rfl rfl dX0_popInto_17 ?_
    refine lv_iadd hx hb dX0_popInto_20 ?_
    refine lv_iconst (v := 1) hx hb dX0_popInto_21 (by decide) ?_
    refine lv_isub hx hb dX0_popInto_22 ?_
    refine lv_iconst (v := 4) hx hb dX0_popInto_23 (by decide) ?_
    refine x_cS (As := [.int (((v0 0 1) + (v0 0 2)) - 1), .int 4]) (rest := [.ref (aH 1)]) (F := (List.flatten [cH E aH (h0 0) (h1 0) (h2 0) (h3 0) v0, cM E h0 v1, cM E h1 v2, cM E h2 v3, cM E h3 v4, cM E a v5])) C0 hw (p_non _) hl.1 (c_J9_floorMod_7cf53 l E  h) 2 gX0_popInto_J9_floorMod_7cf53 rfl ⟨rfl, rfl⟩ (by decide +kernel) ⟨Nat.le_of_ble_eq_true rfl, Nat.le_of_ble_eq_true rfl⟩ rfl rfl (Nat.le_of_ble_eq_true rfl) dX0_popInto_24 ⟨Nat.zero_le _, Nat.zero_le _⟩ (fun r_1 _u H locs h (hw : mw E A s.heap H locs (List.flatten [cH E aH (h0 0) (h1 0) (h2 0) (h3 0) v0, cM E h0 v1, cM E h1 v2, cM E h2 v3, cM E h3 v4, cM E a v5])) => ?_)
    obtain ⟨hin, h⟩ := h
    rcases in4 hin with hc | hc | hc | hc
    · replace h := h.1 hc
      refine x_aldq (v := h0 0) C0 hw 1 rfl hin (by rw [hc]; rfl) dX0_popInto_27 ?_
      refine lv_astore_n (lv' := [(2, .ref (h0 0)), (0, .ref (aH 0)), (1, .ref (a 0))]) hx hb dX0_popInto_28 rfl hl (by decide) rfl (fun ls hl => ?_)
      refine lv_aload_n hx hb dX0_popInto_29 rfl (lv_at hl 0 rfl) ?_
      refine lv_ifnull hx hb dX0_popInto_30 ?_
      refine lv_aload_n hx hb dX0_popInto_33 rfl (lv_at hl 2 rfl) ?_
      refine lv_aload_n hx hb dX0_popInto_34 rfl (lv_at hl 0 rfl) ?_
      refine x_cVv (As := [.ref (h0 0)]) (rest := []) (F := (List.flatten [cH E aH (h0 0) (h1 0) (h2 0) (h3 0) v0, cM E h1 v2, cM E h2 v3, cM E h3 v4])) C0 hw (p_fl (ds := [cM E a v5, cM E h0 v1]) ((p_pk _ 5 _ rfl).trans (List.Perm.cons _ ((p_pk _ 1 _ rfl).trans (List.Perm.cons _ (List.Perm.refl _)))))) hl.1 94 1 rfl rfl (c_X1_copyFrom l E a h0 h) 1 gX0_popInto_X1_copyFrom rfl ⟨rfl, rfl⟩ (by decide +kernel) ⟨Nat.le_of_ble_eq_true rfl, Nat.le_of_ble_eq_true rfl⟩ rfl rfl (Nat.le_of_ble_eq_true rfl) dX0_popInto_35 ⟨Nat.zero_le _, Nat.zero_le _⟩ (fun u_5 H locs h hw => ?_)
      obtain ⟨v_2, v_3⟩ := u_5
      replace hw : mw E A s.heap H locs (List.flatten [cH E aH (h0 0) (h1 0) (h2 0) (h3 0) v0, cM E h0 v_3, cM E h1 v2, cM E h2 v3, cM E h3 v4, cM E a v_2]) := hw.perm (p_bk (ds := [cM E a v_2, cM E h0 v_3]) ((p_pk _ 5 _ rfl).trans (List.Perm.cons _ ((p_pk _ 1 _ rfl).trans (List.Perm.cons _ (List.Perm.refl _))))))
      refine lv_aload_n hx hb dX0_popInto_38 rfl (lv_at hl 1 rfl) ?_
      refine lv_dup hx hb dX0_popInto_39 rfl ?_
      refine x_get C0 hw 0 hiX0 rfl 0 rfl 2 (by decide) 1 rfl rfl dX0_popInto_40 ?_
      refine lv_iconst (v := 1) hx hb dX0_popInto_43 (by decide) ?_
      refine lv_isub hx hb dX0_popInto_44 ?_
      refine x_put (ws' := (List.flatten [cH E aH (h0 0) (h1 0) (h2 0) (h3 0) ((sc v0 0 2 ((v0 0 2) - 1))), cM E h0 v_3, cM E h1 v2, cM E h2 v3, cM E h3 v4, cM E a v_2])) C0 hw 0 hiX0 rfl tyX0 tyX0_ok nmX0 0 rfl 2 (by decide) 1 rfl rfl rfl rfl (Nat.le_of_ble_eq_true rfl) rfl dX0_popInto_45 (fun H locs hw => ?_)
      obtain ⟨v_4, e_v_4⟩ : ∃ z, z = sc v0 0 2 ((v0 0 2) - 1) := ⟨_, rfl⟩
      rw [← e_v_4] at hw
      replace h := h v_4 e_v_4
      exact x_retv C0 ⟨v_4, v_3, v2, v3, v4, v_2⟩ hw h dX0_popInto_48
    · replace h := h.2.1 hc
      refine x_aldq (v := h1 0) C0 hw 1 rfl hin (by rw [hc]; rfl) dX0_popInto_27 ?_
      refine lv_astore_n (lv' := [(2, .ref (h1 0)), (0, .ref (aH 0)), (1, .ref (a 0))]) hx hb dX0_popInto_28 rfl hl (by decide) rfl (fun ls hl => ?_)
      refine lv_aload_n hx hb dX0_popInto_29 rfl (lv_at hl 0 rfl) ?_
      refine lv_ifnull hx hb dX0_popInto_30 ?_
      refine lv_aload_n hx hb dX0_popInto_33 rfl (lv_at hl 2 rfl) ?_
      refine lv_aload_n hx hb dX0_popInto_34 rfl (lv_at hl 0 rfl) ?_
      refine x_cVv (As := [.ref (h1 0)]) (rest := []) (F := (List.flatten [cH E aH (h0 0) (h1 0) (h2 0) (h3 0) v0, cM E h0 v1, cM E h2 v3, cM E h3 v4])) C0 hw (p_fl (ds := [cM E a v5, cM E h1 v2]) ((p_pk _ 5 _ rfl).trans (List.Perm.cons _ ((p_pk _ 2 _ rfl).trans (List.Perm.cons _ (List.Perm.refl _)))))) hl.1 94 1 rfl rfl (c_X1_copyFrom l E a h1 h) 1 gX0_popInto_X1_copyFrom rfl ⟨rfl, rfl⟩ (by decide +kernel) ⟨Nat.le_of_ble_eq_true rfl, Nat.le_of_ble_eq_true rfl⟩ rfl rfl (Nat.le_of_ble_eq_true rfl) dX0_popInto_35 ⟨Nat.zero_le _, Nat.zero_le _⟩ (fun u_9 H locs h hw => ?_)
      obtain ⟨v_6, v_7⟩ := u_9
      replace hw : mw E A s.heap H locs (List.flatten [cH E aH (h0 0) (h1 0) (h2 0) (h3 0) v0, cM E h0 v1, cM E h1 v_7, cM E h2 v3, cM E h3 v4, cM E a v_6]) := hw.perm (p_bk (ds := [cM E a v_6, cM E h1 v_7]) ((p_pk _ 5 _ rfl).trans (List.Perm.cons _ ((p_pk _ 2 _ rfl).trans (List.Perm.cons _ (List.Perm.refl _))))))
      refine lv_aload_n hx hb dX0_popInto_38 rfl (lv_at hl 1 rfl) ?_
      refine lv_dup hx hb dX0_popInto_39 rfl ?_
      refine x_get C0 hw 0 hiX0 rfl 0 rfl 2 (by decide) 1 rfl rfl dX0_popInto_40 ?_
      refine lv_iconst (v := 1) hx hb dX0_popInto_43 (by decide) ?_
      refine lv_isub hx hb dX0_popInto_44 ?_
      refine x_put (ws' := (List.flatten [cH E aH (h0 0) (h1 0) (h2 0) (h3 0) ((sc v0 0 2 ((v0 0 2) - 1))), cM E h0 v1, cM E h1 v_7, cM E h2 v3, cM E h3 v4, cM E a v_6])) C0 hw 0 hiX0 rfl tyX0 tyX0_ok nmX0 0 rfl 2 (by decide) 1 rfl rfl rfl rfl (Nat.le_of_ble_eq_true rfl) rfl dX0_popInto_45 (fun H locs hw => ?_)
      obtain ⟨v_8, e_v_8⟩ : ∃ z, z = sc v0 0 2 ((v0 0 2) - 1) := ⟨_, rfl⟩
      rw [← e_v_8] at hw
      replace h := h v_8 e_v_8
      exact x_retv C0 ⟨v_8, v1, v_7, v3, v4, v_6⟩ hw h dX0_popInto_48
    · replace h := h.2.2.1 hc
      refine x_aldq (v := h2 0) C0 hw 1 rfl hin (by rw [hc]; rfl) dX0_popInto_27 ?_
      refine lv_astore_n (lv' := [(2, .ref (h2 0)), (0, .ref (aH 0)), (1, .ref (a 0))]) hx hb dX0_popInto_28 rfl hl (by decide) rfl (fun ls hl => ?_)
      refine lv_aload_n hx hb dX0_popInto_29 rfl (lv_at hl 0 rfl) ?_
      refine lv_ifnull hx hb dX0_popInto_30 ?_
      refine lv_aload_n hx hb dX0_popInto_33 rfl (lv_at hl 2 rfl) ?_
      refine lv_aload_n hx hb dX0_popInto_34 rfl (lv_at hl 0 rfl) ?_
      refine x_cVv (As := [.ref (h2 0)]) (rest := []) (F := (List.flatten [cH E aH (h0 0) (h1 0) (h2 0) (h3 0) v0, cM E h0 v1, cM E h1 v2, cM E h3 v4])) C0 hw (p_fl (ds := [cM E a v5, cM E h2 v3]) ((p_pk _ 5 _ rfl).trans (List.Perm.cons _ ((p_pk _ 3 _ rfl).trans (List.Perm.cons _ (List.Perm.refl _)))))) hl.1 94 1 rfl rfl (c_X1_copyFrom l E a h2 h) 1 gX0_popInto_X1_copyFrom rfl ⟨rfl, rfl⟩ (by decide +kernel) ⟨Nat.le_of_ble_eq_true rfl, Nat.le_of_ble_eq_true rfl⟩ rfl rfl (Nat.le_of_ble_eq_true rfl) dX0_popInto_35 ⟨Nat.zero_le _, Nat.zero_le _⟩ (fun u_13 H locs h hw => ?_)
      obtain ⟨v_10, v_11⟩ := u_13
      replace hw : mw E A s.heap H locs (List.flatten [cH E aH (h0 0) (h1 0) (h2 0) (h3 0) v0, cM E h0 v1, cM E h1 v2, cM E h2 v_11, cM E h3 v4, cM E a v_10]) := hw.perm (p_bk (ds := [cM E a v_10, cM E h2 v_11]) ((p_pk _ 5 _ rfl).trans (List.Perm.cons _ ((p_pk _ 3 _ rfl).trans (List.Perm.cons _ (List.Perm.refl _))))))
      refine lv_aload_n hx hb dX0_popInto_38 rfl (lv_at hl 1 rfl) ?_
      refine lv_dup hx hb dX0_popInto_39 rfl ?_
      refine x_get C0 hw 0 hiX0 rfl 0 rfl 2 (by decide) 1 rfl rfl dX0_popInto_40 ?_
      refine lv_iconst (v := 1) hx hb dX0_popInto_43 (by decide) ?_
      refine lv_isub hx hb dX0_popInto_44 ?_
      refine x_put (ws' := (List.flatten [cH E aH (h0 0) (h1 0) (h2 0) (h3 0) ((sc v0 0 2 ((v0 0 2) - 1))), cM E h0 v1, cM E h1 v2, cM E h2 v_11, cM E h3 v4, cM E a v_10])) C0 hw 0 hiX0 rfl tyX0 tyX0_ok nmX0 0 rfl 2 (by decide) 1 rfl rfl rfl rfl (Nat.le_of_ble_eq_true rfl) rfl dX0_popInto_45 (fun H locs hw => ?_)
      obtain ⟨v_12, e_v_12⟩ : ∃ z, z = sc v0 0 2 ((v0 0 2) - 1) := ⟨_, rfl⟩
      rw [← e_v_12] at hw
      replace h := h v_12 e_v_12
      exact x_retv C0 ⟨v_12, v1, v2, v_11, v4, v_10⟩ hw h dX0_popInto_48
    · replace h := h.2.2.2 hc
      refine x_aldq (v := h3 0) C0 hw 1 rfl hin (by rw [hc]; rfl) dX0_popInto_27 ?_
      refine lv_astore_n (lv' := [(2, .ref (h3 0)), (0, .ref (aH 0)), (1, .ref (a 0))]) hx hb dX0_popInto_28 rfl hl (by decide) rfl (fun ls hl => ?_)
      refine lv_aload_n hx hb dX0_popInto_29 rfl (lv_at hl 0 rfl) ?_
      refine lv_ifnull hx hb dX0_popInto_30 ?_
      refine lv_aload_n hx hb dX0_popInto_33 rfl (lv_at hl 2 rfl) ?_
      refine lv_aload_n hx hb dX0_popInto_34 rfl (lv_at hl 0 rfl) ?_
      refine x_cVv (As := [.ref (h3 0)]) (rest := []) (F := (List.flatten [cH E aH (h0 0) (h1 0) (h2 0) (h3 0) v0, cM E h0 v1, cM E h1 v2, cM E h2 v3])) C0 hw (p_fl (ds := [cM E a v5, cM E h3 v4]) ((p_pk _ 5 _ rfl).trans (List.Perm.cons _ ((p_pk _ 4 _ rfl).trans (List.Perm.cons _ (List.Perm.refl _)))))) hl.1 94 1 rfl rfl (c_X1_copyFrom l E a h3 h) 1 gX0_popInto_X1_copyFrom rfl ⟨rfl, rfl⟩ (by decide +kernel) ⟨Nat.le_of_ble_eq_true rfl, Nat.le_of_ble_eq_true rfl⟩ rfl rfl (Nat.le_of_ble_eq_true rfl) dX0_popInto_35 ⟨Nat.zero_le _, Nat.zero_le _⟩ (fun u_17 H locs h hw => ?_)
      obtain ⟨v_14, v_15⟩ := u_17
      replace hw : mw E A s.heap H locs (List.flatten [cH E aH (h0 0) (h1 0) (h2 0) (h3 0) v0, cM E h0 v1, cM E h1 v2, cM E h2 v3, cM E h3 v_15, cM E a v_14]) := hw.perm (p_bk (ds := [cM E a v_14, cM E h3 v_15]) ((p_pk _ 5 _ rfl).trans (List.Perm.cons _ ((p_pk _ 4 _ rfl).trans (List.Perm.cons _ (List.Perm.refl _))))))
      refine lv_aload_n hx hb dX0_popInto_38 rfl (lv_at hl 1 rfl) ?_
      refine lv_dup hx hb dX0_popInto_39 rfl ?_
      refine x_get C0 hw 0 hiX0 rfl 0 rfl 2 (by decide) 1 rfl rfl dX0_popInto_40 ?_
      refine lv_iconst (v := 1) hx hb dX0_popInto_43 (by decide) ?_
      refine lv_isub hx hb dX0_popInto_44 ?_
      refine x_put (ws' := (List.flatten [cH E aH (h0 0) (h1 0) (h2 0) (h3 0) ((sc v0 0 2 ((v0 0 2) - 1))), cM E h0 v1, cM E h1 v2, cM E h2 v3, cM E h3 v_15, cM E a v_14])) C0 hw 0 hiX0 rfl tyX0 tyX0_ok nmX0 0 rfl 2 (by decide) 1 rfl rfl rfl rfl (Nat.le_of_ble_eq_true rfl) rfl dX0_popInto_45 (fun H locs hw => ?_)
      obtain ⟨v_16, e_v_16⟩ : ∃ z, z = sc v0 0 2 ((v0 0 2) - 1) := ⟨_, rfl⟩
      rw [← e_v_16] at hw
      replace h := h v_16 e_v_16
      exact x_retv C0 ⟨v_16, v1, v2, v3, v_15, v_14⟩ hw h dX0_popInto_48
  · replace h := h.2 c_19
    exact x_retv C0 ⟨v0, v1, v2, v3, v4, v5⟩ hw h dX0_popInto_7

abbrev rmX1_hasDealer : Room := { frames := 0, cells := 0, slots := 0, locals := 0 }
set_option maxRecDepth 100000 in
set_option maxHeartbeats 4000000 in
theorem c_X1_hasDealer (l : Launch) (E : EE) (a : Nat → Nat) {v : V}  {p1 : Int32} {post : Int32 → V → Prop} (h : s_X1_hasDealer v p1 post) : KI l E yX1_hasDealer wsX1_hasDealer rmX1_hasDealer [.ref (a 0), .int p1] (cM E a v) post (fun u => cM E a u) := by
  unfold s_X1_hasDealer at h
  refine KI.go (cc := cX1_hasDealer) (ret := (some .boolean)) (maxL := 2) (own := RX1) (by decide) rfl (Nat.le_of_ble_eq_true rfl) rfl (fun p e s m below meth c A ls C0 hw hl => ?_)
  have hx := C0.1
  have hb := C0.2.1
  have hiX1 : ∀ w ∈ wsX10, w ∈ wsX1_hasDealer := fun w h => List.mem_cons_of_mem _ (List.mem_append_right _ h)
  replace hl : lv_has ls 2 [(0, .ref (a 0)), (1, .int p1)] := hl
  refine lv_iload_n hx hb dX1_hasDealer_0 rfl (lv_at hl 1 rfl) ?_
  refine lv_if_lt (tgt := 22) hx hb dX1_hasDealer_1 (by decide) (fun c_3 => ?_) (fun c_3 => ?_)
  · replace h := h.1 c_3
    refine lv_iconst (v := 0) hx hb dX1_hasDealer_22 (by decide) ?_
    exact x_retz C0 rfl v hw h dX1_hasDealer_23
  · replace h := h.2 c_3
    refine lv_iload_n hx hb dX1_hasDealer_4 rfl (lv_at hl 1 rfl) ?_
    refine lv_aload_n hx hb dX1_hasDealer_5 rfl (lv_at hl 0 rfl) ?_
    refine x_get C0 hw 1 hiX1 rfl 0 rfl 4 (by decide) 1 rfl rfl dX1_hasDealer_6 ?_
    refine lv_icmp_ge (tgt := 22) hx hb dX1_hasDealer_9 (by decide) (fun c_2 => ?_) (fun c_2 => ?_)
    · replace h := h.1 c_2
      refine lv_iconst (v := 0) hx hb dX1_hasDealer_22 (by decide) ?_
      exact x_retz C0 rfl v hw h dX1_hasDealer_23
    · replace h := h.2 c_2
      refine lv_iload_n hx hb dX1_hasDealer_12 rfl (lv_at hl 1 rfl) ?_
      refine lv_bipush (v := 6) hx hb dX1_hasDealer_13 (by decide) ?_
      refine lv_icmp_ge (tgt := 22) hx hb dX1_hasDealer_15 (by decide) (fun c_1 => ?_) (fun c_1 => ?_)
      · replace h := h.1 c_1
        refine lv_iconst (v := 0) hx hb dX1_hasDealer_22 (by decide) ?_
        exact x_retz C0 rfl v hw h dX1_hasDealer_23
      · replace h := h.2 c_1
        refine lv_iconst (v := 1) hx hb dX1_hasDealer_18 (by decide) ?_
        refine lv_goto (tgt := 23) hx hb dX1_hasDealer_19 (by decide) ?_
        exact x_retz C0 rfl v hw h dX1_hasDealer_23

abbrev rmX1_addDealer : Room := { frames := 0, cells := 0, slots := 0, locals := 0 }
set_option maxRecDepth 100000 in
set_option maxHeartbeats 4000000 in
theorem c_X1_addDealer (l : Launch) (E : EE) (a : Nat → Nat) {v : V}   {post : Int32 → V → Prop} (h : s_X1_addDealer v post) : KI l E yX1_addDealer wsX1_addDealer rmX1_addDealer [.ref (a 0)] (cM E a v) post (fun u => cM E a u) := by
  unfold s_X1_addDealer at h
  refine KI.go (cc := cX1_addDealer) (ret := (some .int)) (maxL := 1) (own := RX1) (by decide) rfl (Nat.le_of_ble_eq_true rfl) rfl (fun p e s m below meth c A ls C0 hw hl => ?_)
  have hx := C0.1
  have hb := C0.2.1
  have hiX1 : ∀ w ∈ wsX10, w ∈ wsX1_addDealer := fun w h => List.mem_cons_of_mem _ (List.mem_append_right _ h)
  replace hl : lv_has ls 1 [(0, .ref (a 0))] := hl
  refine lv_aload_n hx hb dX1_addDealer_0 rfl (lv_at hl 0 rfl) ?_
  refine x_get C0 hw 1 hiX1 rfl 0 rfl 4 (by decide) 1 rfl rfl dX1_addDealer_1 ?_
  refine lv_if_lt (tgt := 16) hx hb dX1_addDealer_4 (by decide) (fun c_4 => ?_) (fun c_4 => ?_)
  · replace h := h.1 c_4
    refine x_ldc (v := (-10000003)) C0 2 rfl dX1_addDealer_16 ?_
    exact x_ret C0 v hw h dX1_addDealer_18
  · replace h := h.2 c_4
    refine lv_aload_n hx hb dX1_addDealer_7 rfl (lv_at hl 0 rfl) ?_
    refine x_get C0 hw 1 hiX1 rfl 0 rfl 4 (by decide) 1 rfl rfl dX1_addDealer_8 ?_
    refine lv_bipush (v := 6) hx hb dX1_addDealer_11 (by decide) ?_
    refine lv_icmp_lt (tgt := 19) hx hb dX1_addDealer_13 (by decide) (fun c_3 => ?_) (fun c_3 => ?_)
    · replace h := h.1 c_3
      refine lv_aload_n hx hb dX1_addDealer_19 rfl (lv_at hl 0 rfl) ?_
      refine x_get C0 hw 1 hiX1 rfl 0 rfl 3 (by decide) 3 rfl rfl dX1_addDealer_20 ?_
      refine lv_aload_n hx hb dX1_addDealer_23 rfl (lv_at hl 0 rfl) ?_
      refine x_get C0 hw 1 hiX1 rfl 0 rfl 4 (by decide) 1 rfl rfl dX1_addDealer_24 ?_
      refine lv_iconst (v := 0) hx hb dX1_addDealer_27 (by decide) ?_
      obtain ⟨hin, h⟩ := h
      refine x_ast (ws' := (cM E a ((st v 22 (tn (v 0 4)) 0)))) C0 hw 22 rfl hin rfl dX1_addDealer_28 (fun H locs hw => ?_)
      obtain ⟨v_1, e_v_1⟩ : ∃ z, z = st v 22 (tn (v 0 4)) 0 := ⟨_, rfl⟩
      rw [← e_v_1] at hw
      replace h := h v_1 e_v_1
      refine lv_aload_n hx hb dX1_addDealer_29 rfl (lv_at hl 0 rfl) ?_
      refine lv_dup hx hb dX1_addDealer_30 rfl ?_
      refine x_get C0 hw 1 hiX1 rfl 0 rfl 4 (by decide) 1 rfl rfl dX1_addDealer_31 ?_
      refine lv_iconst (v := 1) hx hb dX1_addDealer_34 (by decide) ?_
      refine lv_iadd hx hb dX1_addDealer_35 ?_
      refine x_put (ws' := (cM E a ((sc v_1 0 4 ((v_1 0 4) + 1))))) C0 hw 1 hiX1 rfl tyX1 tyX1_ok nmX1 0 rfl 4 (by decide) 1 rfl rfl rfl rfl (Nat.le_of_ble_eq_true rfl) rfl dX1_addDealer_36 (fun H locs hw => ?_)
      obtain ⟨v_2, e_v_2⟩ : ∃ z, z = sc v_1 0 4 ((v_1 0 4) + 1) := ⟨_, rfl⟩
      rw [← e_v_2] at hw
      replace h := h v_2 e_v_2
      refine lv_aload_n hx hb dX1_addDealer_39 rfl (lv_at hl 0 rfl) ?_
      refine x_get C0 hw 1 hiX1 rfl 0 rfl 4 (by decide) 1 rfl rfl dX1_addDealer_40 ?_
      refine lv_iconst (v := 1) hx hb dX1_addDealer_43 (by decide) ?_
      refine lv_isub hx hb dX1_addDealer_44 ?_
      exact x_ret C0 v_2 hw h dX1_addDealer_45
    · replace h := h.2 c_3
      refine x_ldc (v := (-10000003)) C0 2 rfl dX1_addDealer_16 ?_
      exact x_ret C0 v hw h dX1_addDealer_18

abbrev rmX5_add : Room := { frames := 0, cells := 0, slots := 0, locals := 0 }
set_option maxRecDepth 100000 in
set_option maxHeartbeats 4000000 in
theorem c_X5_add (l : Launch) (E : EE) (a : Nat → Nat) {v : V}  {p1 : Int32} {p2 : Int32} {p3 : Int32} {p4 : Int32} {post : Int32 → V → Prop} (h : s_X5_add v p1 p2 p3 p4 post) : KI l E yX5_add wsX5_add rmX5_add [.ref (a 6), .int p1, .int p2, .int p3, .int p4] (cM E a v) post (fun u => cM E a u) := by
  unfold s_X5_add at h
  refine KI.go (cc := cX5_add) (ret := (some .int)) (maxL := 6) (own := RX5) (by decide) rfl (Nat.le_of_ble_eq_true rfl) rfl (fun p e s m below meth c A ls C0 hw hl => ?_)
  have hx := C0.1
  have hb := C0.2.1
  have hiX5 : ∀ w ∈ wsX50, w ∈ wsX5_add := fun w h => List.mem_cons_of_mem _ (List.mem_append_right _ h)
  replace hl : lv_has ls 6 [(0, .ref (a 6)), (1, .int p1), (2, .int p2), (3, .int p3), (4, .int p4)] := hl
  refine lv_aload_n hx hb dX5_add_0 rfl (lv_at hl 0 rfl) ?_
  refine x_get C0 hw 5 hiX5 rfl 6 rfl 0 (by decide) 1 rfl rfl dX5_add_1 ?_
  refine lv_if_lt (tgt := 16) hx hb dX5_add_4 (by decide) (fun c_12 => ?_) (fun c_12 => ?_)
  · replace h := h.1 c_12
    refine lv_iconst (v := (-1)) hx hb dX5_add_16 (by decide) ?_
    exact x_ret C0 v hw h dX5_add_17
  · replace h := h.2 c_12
    refine lv_aload_n hx hb dX5_add_7 rfl (lv_at hl 0 rfl) ?_
    refine x_get C0 hw 5 hiX5 rfl 6 rfl 0 (by decide) 1 rfl rfl dX5_add_8 ?_
    refine lv_bipush (v := 20) hx hb dX5_add_11 (by decide) ?_
    refine lv_icmp_lt (tgt := 18) hx hb dX5_add_13 (by decide) (fun c_11 => ?_) (fun c_11 => ?_)
    · replace h := h.1 c_11
      refine lv_aload_n hx hb dX5_add_18 rfl (lv_at hl 0 rfl) ?_
      refine x_get C0 hw 5 hiX5 rfl 6 rfl 0 (by decide) 1 rfl rfl dX5_add_19 ?_
      refine lv_istore (lv' := [(5, .int (v 6 0)), (0, .ref (a 6)), (1, .int p1), (2, .int p2), (3, .int p3), (4, .int p4)]) hx hb dX5_add_22 hl (by decide) rfl (fun ls hl => ?_)
      refine lv_aload_n hx hb dX5_add_24 rfl (lv_at hl 1 rfl) ?_
      refine x_get C0 hw 5 hiX5 rfl 6 rfl 1 (by decide) 2 rfl rfl dX5_add_25 ?_
      refine lv_iload hx hb dX5_add_28 (lv_at hl 0 rfl) ?_
      refine lv_iload_n hx hb dX5_add_30 rfl (lv_at hl 3 rfl) ?_
      obtain ⟨hin, h⟩ := h
      refine x_ast (ws' := (cM E a ((st v 7 (tn (v 6 0)) p2)))) C0 hw 7 rfl hin rfl dX5_add_31 (fun H locs hw => ?_)
      obtain ⟨v_1, e_v_1⟩ : ∃ z, z = st v 7 (tn (v 6 0)) p2 := ⟨_, rfl⟩
      rw [← e_v_1] at hw
      replace h := h v_1 e_v_1
      refine lv_aload_n hx hb dX5_add_32 rfl (lv_at hl 1 rfl) ?_
      refine x_get C0 hw 5 hiX5 rfl 6 rfl 2 (by decide) 3 rfl rfl dX5_add_33 ?_
      refine lv_iload hx hb dX5_add_36 (lv_at hl 0 rfl) ?_
      refine lv_iload_n hx hb dX5_add_38 rfl (lv_at hl 4 rfl) ?_
      obtain ⟨hin, h⟩ := h
      refine x_ast (ws' := (cM E a ((st v_1 8 (tn (v 6 0)) p3)))) C0 hw 8 rfl hin rfl dX5_add_39 (fun H locs hw => ?_)
      obtain ⟨v_2, e_v_2⟩ : ∃ z, z = st v_1 8 (tn (v 6 0)) p3 := ⟨_, rfl⟩
      rw [← e_v_2] at hw
      replace h := h v_2 e_v_2
      refine lv_aload_n hx hb dX5_add_40 rfl (lv_at hl 1 rfl) ?_
      refine x_get C0 hw 5 hiX5 rfl 6 rfl 3 (by decide) 4 rfl rfl dX5_add_41 ?_
      refine lv_iload hx hb dX5_add_44 (lv_at hl 0 rfl) ?_
      refine lv_iload hx hb dX5_add_46 (lv_at hl 5 rfl) ?_
      obtain ⟨hin, h⟩ := h
      refine x_ast (ws' := (cM E a ((st v_2 9 (tn (v 6 0)) p4)))) C0 hw 9 rfl hin rfl dX5_add_48 (fun H locs hw => ?_)
      obtain ⟨v_3, e_v_3⟩ : ∃ z, z = st v_2 9 (tn (v 6 0)) p4 := ⟨_, rfl⟩
      rw [← e_v_3] at hw
      replace h := h v_3 e_v_3
      refine lv_aload_n hx hb dX5_add_49 rfl (lv_at hl 1 rfl) ?_
      refine x_get C0 hw 5 hiX5 rfl 6 rfl 4 (by decide) 5 rfl rfl dX5_add_50 ?_
      refine lv_iload hx hb dX5_add_53 (lv_at hl 0 rfl) ?_
      refine lv_iload_n hx hb dX5_add_55 rfl (lv_at hl 2 rfl) ?_
      obtain ⟨hin, h⟩ := h
      refine x_ast (ws' := (cM E a ((st v_3 10 (tn (v 6 0)) p1)))) C0 hw 10 rfl hin rfl dX5_add_56 (fun H locs hw => ?_)
      obtain ⟨v_4, e_v_4⟩ : ∃ z, z = st v_3 10 (tn (v 6 0)) p1 := ⟨_, rfl⟩
      rw [← e_v_4] at hw
      replace h := h v_4 e_v_4
      refine lv_aload_n hx hb dX5_add_57 rfl (lv_at hl 1 rfl) ?_
      refine x_get C0 hw 5 hiX5 rfl 6 rfl 5 (by decide) 6 rfl rfl dX5_add_58 ?_
      refine lv_iload hx hb dX5_add_61 (lv_at hl 0 rfl) ?_
      refine lv_iload_n hx hb dX5_add_63 rfl (lv_at hl 2 rfl) ?_
      obtain ⟨hin, h⟩ := h
      refine x_ast (ws' := (cM E a ((st v_4 11 (tn (v 6 0)) p1)))) C0 hw 11 rfl hin rfl dX5_add_64 (fun H locs hw => ?_)
      obtain ⟨v_5, e_v_5⟩ : ∃ z, z = st v_4 11 (tn (v 6 0)) p1 := ⟨_, rfl⟩
      rw [← e_v_5] at hw
      replace h := h v_5 e_v_5
      refine lv_aload_n hx hb dX5_add_65 rfl (lv_at hl 1 rfl) ?_
      refine x_get C0 hw 5 hiX5 rfl 6 rfl 6 (by decide) 7 rfl rfl dX5_add_66 ?_
      refine lv_iload hx hb dX5_add_69 (lv_at hl 0 rfl) ?_
      refine lv_iconst (v := (-1)) hx hb dX5_add_71 (by decide) ?_
      obtain ⟨hin, h⟩ := h
      refine x_ast (ws' := (cM E a ((st v_5 12 (tn (v 6 0)) (-1))))) C0 hw 12 rfl hin rfl dX5_add_72 (fun H locs hw => ?_)
      obtain ⟨v_6, e_v_6⟩ : ∃ z, z = st v_5 12 (tn (v 6 0)) (-1) := ⟨_, rfl⟩
      rw [← e_v_6] at hw
      replace h := h v_6 e_v_6
      refine lv_aload_n hx hb dX5_add_73 rfl (lv_at hl 1 rfl) ?_
      refine x_get C0 hw 5 hiX5 rfl 6 rfl 7 (by decide) 8 rfl rfl dX5_add_74 ?_
      refine lv_iload hx hb dX5_add_77 (lv_at hl 0 rfl) ?_
      refine lv_iconst (v := 0) hx hb dX5_add_79 (by decide) ?_
      obtain ⟨hin, h⟩ := h
      refine x_ast (ws' := (cM E a ((st v_6 13 (tn (v 6 0)) 0)))) C0 hw 13 rfl hin rfl dX5_add_80 (fun H locs hw => ?_)
      obtain ⟨v_7, e_v_7⟩ : ∃ z, z = st v_6 13 (tn (v 6 0)) 0 := ⟨_, rfl⟩
      rw [← e_v_7] at hw
      replace h := h v_7 e_v_7
      refine lv_aload_n hx hb dX5_add_81 rfl (lv_at hl 1 rfl) ?_
      refine x_get C0 hw 5 hiX5 rfl 6 rfl 8 (by decide) 9 rfl rfl dX5_add_82 ?_
      refine lv_iload hx hb dX5_add_85 (lv_at hl 0 rfl) ?_
      refine lv_iconst (v := 0) hx hb dX5_add_87 (by decide) ?_
      obtain ⟨hin, h⟩ := h
      refine x_ast (ws' := (cM E a ((st v_7 14 (tn (v 6 0)) 0)))) C0 hw 14 rfl hin rfl dX5_add_88 (fun H locs hw => ?_)
      obtain ⟨v_8, e_v_8⟩ : ∃ z, z = st v_7 14 (tn (v 6 0)) 0 := ⟨_, rfl⟩
      rw [← e_v_8] at hw
      replace h := h v_8 e_v_8
      refine lv_aload_n hx hb dX5_add_89 rfl (lv_at hl 1 rfl) ?_
      refine x_get C0 hw 5 hiX5 rfl 6 rfl 9 (by decide) 10 rfl rfl dX5_add_90 ?_
      refine lv_iload hx hb dX5_add_93 (lv_at hl 0 rfl) ?_
      refine lv_iconst (v := 0) hx hb dX5_add_95 (by decide) ?_
      obtain ⟨hin, h⟩ := h
      refine x_ast (ws' := (cM E a ((st v_8 15 (tn (v 6 0)) 0)))) C0 hw 15 rfl hin rfl dX5_add_96 (fun H locs hw => ?_)
      obtain ⟨v_9, e_v_9⟩ : ∃ z, z = st v_8 15 (tn (v 6 0)) 0 := ⟨_, rfl⟩
      rw [← e_v_9] at hw
      replace h := h v_9 e_v_9
      refine lv_aload_n hx hb dX5_add_97 rfl (lv_at hl 1 rfl) ?_
      refine lv_dup hx hb dX5_add_98 rfl ?_
      refine x_get C0 hw 5 hiX5 rfl 6 rfl 0 (by decide) 1 rfl rfl dX5_add_99 ?_
      refine lv_iconst (v := 1) hx hb dX5_add_102 (by decide) ?_
      refine lv_iadd hx hb dX5_add_103 ?_
      refine x_put (ws' := (cM E a ((sc v_9 6 0 ((v_9 6 0) + 1))))) C0 hw 5 hiX5 rfl tyX5 tyX5_ok nmX5 6 rfl 0 (by decide) 1 rfl rfl rfl rfl (Nat.le_of_ble_eq_true rfl) rfl dX5_add_104 (fun H locs hw => ?_)
      obtain ⟨v_10, e_v_10⟩ : ∃ z, z = sc v_9 6 0 ((v_9 6 0) + 1) := ⟨_, rfl⟩
      rw [← e_v_10] at hw
      replace h := h v_10 e_v_10
      refine lv_iload hx hb dX5_add_107 (lv_at hl 0 rfl) ?_
      exact x_ret C0 v_10 hw h dX5_add_109
    · replace h := h.2 c_11
      refine lv_iconst (v := (-1)) hx hb dX5_add_16 (by decide) ?_
      exact x_ret C0 v hw h dX5_add_17

abbrev rmX6_isLook : Room := { frames := 0, cells := 0, slots := 0, locals := 0 }
set_option maxRecDepth 100000 in
set_option maxHeartbeats 4000000 in
theorem c_X6_isLook (l : Launch) (E : EE)    {p0 : Int32} {p1 : Int32} {post : Int32 → Prop} (h : s_X6_isLook p0 p1 post) : KI l E yX6_isLook wsX6_isLook rmX6_isLook [.int p0, .int p1] ([] : va_W) (S := Unit) (fun r (_ : Unit) => post r) (fun (_ : Unit) => ([] : va_W)) := by
  unfold s_X6_isLook at h
  refine KI.go (cc := cX6_isLook) (ret := (some .boolean)) (maxL := 2) (own := RX6) (by decide) rfl (Nat.le_of_ble_eq_true rfl) rfl (fun p e s m below meth c A ls C0 hw hl => ?_)
  have hx := C0.1
  have hb := C0.2.1
  replace hl : lv_has ls 2 [(0, .int p0), (1, .int p1)] := hl
  refine lv_iload_n hx hb dX6_isLook_0 rfl (lv_at hl 0 rfl) ?_
  refine lv_if_lt (tgt := 24) hx hb dX6_isLook_1 (by decide) (fun c_4 => ?_) (fun c_4 => ?_)
  · replace h := h.1 c_4
    refine lv_iconst (v := 0) hx hb dX6_isLook_24 (by decide) ?_
    exact x_retz C0 rfl () hw h dX6_isLook_25
  · replace h := h.2 c_4
    refine lv_iload_n hx hb dX6_isLook_4 rfl (lv_at hl 0 rfl) ?_
    refine lv_bipush (v := 10) hx hb dX6_isLook_5 (by decide) ?_
    refine lv_icmp_ge (tgt := 24) hx hb dX6_isLook_7 (by decide) (fun c_3 => ?_) (fun c_3 => ?_)
    · replace h := h.1 c_3
      refine lv_iconst (v := 0) hx hb dX6_isLook_24 (by decide) ?_
      exact x_retz C0 rfl () hw h dX6_isLook_25
    · replace h := h.2 c_3
      refine lv_iload_n hx hb dX6_isLook_10 rfl (lv_at hl 1 rfl) ?_
      refine lv_if_lt (tgt := 24) hx hb dX6_isLook_11 (by decide) (fun c_2 => ?_) (fun c_2 => ?_)
      · replace h := h.1 c_2
        refine lv_iconst (v := 0) hx hb dX6_isLook_24 (by decide) ?_
        exact x_retz C0 rfl () hw h dX6_isLook_25
      · replace h := h.2 c_2
        refine lv_iload_n hx hb dX6_isLook_14 rfl (lv_at hl 1 rfl) ?_
        refine lv_bipush (v := 8) hx hb dX6_isLook_15 (by decide) ?_
        refine lv_icmp_ge (tgt := 24) hx hb dX6_isLook_17 (by decide) (fun c_1 => ?_) (fun c_1 => ?_)
        · replace h := h.1 c_1
          refine lv_iconst (v := 0) hx hb dX6_isLook_24 (by decide) ?_
          exact x_retz C0 rfl () hw h dX6_isLook_25
        · replace h := h.2 c_1
          refine lv_iconst (v := 1) hx hb dX6_isLook_20 (by decide) ?_
          refine lv_goto (tgt := 25) hx hb dX6_isLook_21 (by decide) ?_
          exact x_retz C0 rfl () hw h dX6_isLook_25

abbrev rmX1_addStone : Room := { frames := 1, cells := 0, slots := 0, locals := 25 }
set_option maxRecDepth 100000 in
set_option maxHeartbeats 4000000 in
theorem c_X1_addStone (l : Launch) (E : EE) (a : Nat → Nat) {v : V}  {p1 : Int32} {p2 : Int32} {p3 : Int32} {p4 : Int32} {post : Int32 → V → Prop} (h : s_X1_addStone v p1 p2 p3 p4 post) : KI l E yX1_addStone wsX1_addStone rmX1_addStone [.ref (a 0), .int p1, .int p2, .int p3, .int p4] (cM E a v) post (fun u => cM E a u) := by
  unfold s_X1_addStone at h
  refine KI.go (cc := cX1_addStone) (ret := (some .int)) (maxL := 6) (own := RX1) (by decide) rfl (Nat.le_of_ble_eq_true rfl) rfl (fun p e s m below meth c A ls C0 hw hl => ?_)
  have hx := C0.1
  have hb := C0.2.1
  have hiX1 : ∀ w ∈ wsX10, w ∈ wsX1_addStone := fun w h => List.mem_cons_of_mem _ (List.mem_append_left _ (List.mem_append_right _ h))
  replace hl : lv_has ls 6 [(0, .ref (a 0)), (1, .int p1), (2, .int p2), (3, .int p3), (4, .int p4)] := hl
  refine lv_aload_n hx hb dX1_addStone_0 rfl (lv_at hl 0 rfl) ?_
  refine lv_iload_n hx hb dX1_addStone_1 rfl (lv_at hl 1 rfl) ?_
  refine x_cV (As := [.int p1]) (rest := []) (F := []) C0 hw (p_nil _) hl.1 0 1 rfl rfl (c_X1_hasDealer l E a h) 1 gX1_addStone_X1_hasDealer rfl ⟨rfl, rfl⟩ (by decide +kernel) ⟨Nat.le_of_ble_eq_true rfl, Nat.le_of_ble_eq_true rfl⟩ rfl rfl (Nat.le_of_ble_eq_true rfl) dX1_addStone_2 ⟨Nat.zero_le _, Nat.zero_le _⟩ (fun r_1 v_2 H locs h (hw : mw E A s.heap H locs (cM E a v_2)) => ?_)
  refine lv_if_eq (tgt := 29) hx hb dX1_addStone_5 (by decide) (fun c_11 => ?_) (fun c_11 => ?_)
  · replace h := h.1 c_11
    refine x_ldc (v := (-10000001)) C0 1 rfl dX1_addStone_29 ?_
    exact x_ret C0 v_2 hw h dX1_addStone_31
  · replace h := h.2 c_11
    refine lv_iload_n hx hb dX1_addStone_8 rfl (lv_at hl 2 rfl) ?_
    refine lv_iconst (v := 1) hx hb dX1_addStone_9 (by decide) ?_
    refine lv_icmp_lt (tgt := 29) hx hb dX1_addStone_10 (by decide) (fun c_10 => ?_) (fun c_10 => ?_)
    · replace h := h.1 c_10
      refine x_ldc (v := (-10000001)) C0 1 rfl dX1_addStone_29 ?_
      exact x_ret C0 v_2 hw h dX1_addStone_31
    · replace h := h.2 c_10
      refine lv_iload_n hx hb dX1_addStone_13 rfl (lv_at hl 2 rfl) ?_
      refine lv_sipush (v := 999) hx hb dX1_addStone_14 (by decide) ?_
      refine lv_icmp_gt (tgt := 29) hx hb dX1_addStone_17 (by decide) (fun c_9 => ?_) (fun c_9 => ?_)
      · replace h := h.1 c_9
        refine x_ldc (v := (-10000001)) C0 1 rfl dX1_addStone_29 ?_
        exact x_ret C0 v_2 hw h dX1_addStone_31
      · replace h := h.2 c_9
        refine lv_iload_n hx hb dX1_addStone_20 rfl (lv_at hl 3 rfl) ?_
        refine lv_iload hx hb dX1_addStone_21 (lv_at hl 4 rfl) ?_
        refine x_cSN (As := [.int p3, .int p4]) (rest := []) (F := (cM E a v_2)) C0 hw (p_non _) hl.1 (c_X6_isLook l E  h) 2 gX1_addStone_X6_isLook_n73 rfl ⟨rfl, rfl⟩ 29 rfl 11 rfl 10 rfl (by decide +kernel) ⟨Nat.le_of_ble_eq_true rfl, Nat.le_of_ble_eq_true rfl⟩ rfl rfl (Nat.le_of_ble_eq_true rfl) dX1_addStone_23 ⟨Nat.zero_le _, Nat.zero_le _⟩ (fun r_3 _u H locs h (hw : mw E A s.heap H locs (cM E a v_2)) => ?_)
        refine lv_if_ne (tgt := 32) hx hb dX1_addStone_26 (by decide) (fun c_7 => ?_) (fun c_7 => ?_)
        · replace h := h.1 c_7
          refine lv_aload_n hx hb dX1_addStone_32 rfl (lv_at hl 0 rfl) ?_
          refine x_get C0 hw 1 hiX1 rfl 0 rfl 1 (by decide) 2 rfl rfl dX1_addStone_33 ?_
          refine lv_iload_n hx hb dX1_addStone_36 rfl (lv_at hl 1 rfl) ?_
          refine lv_iload_n hx hb dX1_addStone_37 rfl (lv_at hl 2 rfl) ?_
          refine lv_iload_n hx hb dX1_addStone_38 rfl (lv_at hl 3 rfl) ?_
          refine lv_iload hx hb dX1_addStone_39 (lv_at hl 4 rfl) ?_
          refine x_cV (As := [.int p1, .int p2, .int p3, .int p4]) (rest := []) (F := []) C0 hw (p_nil _) hl.1 6 5 rfl rfl (c_X5_add l E a h) 4 gX1_addStone_X5_add rfl ⟨rfl, rfl⟩ (by decide +kernel) ⟨Nat.le_of_ble_eq_true rfl, Nat.le_of_ble_eq_true rfl⟩ rfl rfl (Nat.le_of_ble_eq_true rfl) dX1_addStone_41 ⟨Nat.zero_le _, Nat.zero_le _⟩ (fun r_4 v_5 H locs h (hw : mw E A s.heap H locs (cM E a v_5)) => ?_)
          refine lv_istore (lv' := [(5, .int r_4), (0, .ref (a 0)), (1, .int p1), (2, .int p2), (3, .int p3), (4, .int p4)]) hx hb dX1_addStone_44 hl (by decide) rfl (fun ls hl => ?_)
          refine lv_iload hx hb dX1_addStone_46 (lv_at hl 0 rfl) ?_
          refine lv_iconst (v := (-1)) hx hb dX1_addStone_48 (by decide) ?_
          refine lv_icmp_ne (tgt := 57) hx hb dX1_addStone_49 (by decide) (fun c_6 => ?_) (fun c_6 => ?_)
          · replace h := h.1 c_6
            refine lv_iload hx hb dX1_addStone_57 (lv_at hl 0 rfl) ?_
            exact x_ret C0 v_5 hw h dX1_addStone_59
          · replace h := h.2 c_6
            refine x_ldc (v := (-10000003)) C0 3 rfl dX1_addStone_52 ?_
            refine lv_goto (tgt := 59) hx hb dX1_addStone_54 (by decide) ?_
            exact x_ret C0 v_5 hw h dX1_addStone_59
        · replace h := h.2 c_7
          refine x_ldc (v := (-10000001)) C0 1 rfl dX1_addStone_29 ?_
          exact x_ret C0 v_2 hw h dX1_addStone_31

abbrev rmX3_add : Room := { frames := 0, cells := 0, slots := 0, locals := 0 }
set_option maxRecDepth 100000 in
set_option maxHeartbeats 4000000 in
theorem w_X3_add_3 {p : Program} {l : Launch} {e : Env} {s : State} {m : MethodId} {below : List Frame} {meth : Method} {c : Code} {E : EE} {A : Nat → Prop} {a : Nat → Nat} {args : Array Value} (C0 : Cx E p s m args meth c A cX3_add 6 RX3 wsX3_add (some .boolean)) {post : Int32 → V → Prop}  {f1 : Int32} {f2 : Int32} {f3 : Int32} {f4 : Int32} {k0 : Int32 → V → Prop} : ∀ (n : Nat) (x5 : Int32) (v : V), sl_X3_add_3 post f1 f2 f3 f4 k0 n x5 v → ∀ (H : Heap) (locs : List Loc) (ls : Array Slot), mw E A s.heap H locs (cM E a v) → lv_has ls 6 [(0, .ref (a 1)), (1, .int f1), (2, .int f2), (3, .int f3), (4, .int f4), (5, .int x5)] → (∀ (x5 : Int32) (v : V) (H : Heap) (locs : List Loc) (ls : Array Slot), k0 x5 v → mw E A s.heap H locs (cM E a v) → lv_has ls 6 [(0, .ref (a 1)), (1, .int f1), (2, .int f2), (3, .int f3), (4, .int f4), (5, .int x5)] → W p l e rmX3_add s m args below meth c H locs 0 0 (qI E A post (fun u => cM E a u) below args s) (F0 m 61 ls [])) → W p l e rmX3_add s m args below meth c H locs 0 0 (qI E A post (fun u => cM E a u) below args s) (F0 m 3 ls []) := by
  have hx := C0.1
  have hb := C0.2.1
  have hiX3 : ∀ w ∈ wsX30, w ∈ wsX3_add := fun w h => List.mem_cons_of_mem _ (List.mem_append_right _ h)
  intro n
  induction n with
  | zero => intro x5 v h; exact False.elim h
  | succ n ih =>
    intro x5 v h H locs ls hw hl hk0
    replace h : sb_X3_add_3 post f1 f2 f3 f4 k0 (sl_X3_add_3 post f1 f2 f3 f4 k0 n) x5 v := h
    unfold sb_X3_add_3 at h
    refine lv_iload hx hb dX3_add_3 (lv_at hl 5 rfl) ?_
    refine lv_bipush (v := 24) hx hb dX3_add_5 (by decide) ?_
    refine lv_icmp_ge (tgt := 61) hx hb dX3_add_7 (by decide) (fun c_6 => ?_) (fun c_6 => ?_)
    · replace h := h.1 c_6
      exact hk0 _ _ _ _ _ h hw (lv_sub hl [0, 1, 2, 3, 4, 5] rfl)
    · replace h := h.2 c_6
      refine lv_aload_n hx hb dX3_add_10 rfl (lv_at hl 0 rfl) ?_
      refine x_get C0 hw 3 hiX3 rfl 1 rfl 3 (by decide) 1 rfl rfl dX3_add_11 ?_
      refine lv_iload hx hb dX3_add_14 (lv_at hl 5 rfl) ?_
      obtain ⟨hin, h⟩ := h
      refine x_ald C0 hw 5 rfl hin dX3_add_16 ?_
      refine lv_if_ne (tgt := 55) hx hb dX3_add_17 (by decide) (fun c_5 => ?_) (fun c_5 => ?_)
      · replace h := h.1 c_5
        refine lv_iinc (v := (x5 + 1)) (lv' := [(5, .int (x5 + 1)), (0, .ref (a 1)), (1, .int f1), (2, .int f2), (3, .int f3), (4, .int f4)]) hx hb dX3_add_55 hl (k := 5) rfl rfl (by decide) rfl (fun ls hl => ?_)
        refine lv_goto (tgt := 3) hx hb dX3_add_58 (by decide) ?_
        exact ih _ _ h _ _ _ hw (lv_sub hl [1, 2, 3, 4, 5, 0] rfl) hk0
      · replace h := h.2 c_5
        refine lv_aload_n hx hb dX3_add_20 rfl (lv_at hl 0 rfl) ?_
        refine x_get C0 hw 3 hiX3 rfl 1 rfl 0 (by decide) 2 rfl rfl dX3_add_21 ?_
        refine lv_iload hx hb dX3_add_24 (lv_at hl 5 rfl) ?_
        refine lv_iload_n hx hb dX3_add_26 rfl (lv_at hl 1 rfl) ?_
        obtain ⟨hin, h⟩ := h
        refine x_ast (ws' := (cM E a ((st v 2 (tn x5) f1)))) C0 hw 2 rfl hin rfl dX3_add_27 (fun H locs hw => ?_)
        obtain ⟨v_1, e_v_1⟩ : ∃ z, z = st v 2 (tn x5) f1 := ⟨_, rfl⟩
        rw [← e_v_1] at hw
        replace h := h v_1 e_v_1
        refine lv_aload_n hx hb dX3_add_28 rfl (lv_at hl 0 rfl) ?_
        refine x_get C0 hw 3 hiX3 rfl 1 rfl 1 (by decide) 3 rfl rfl dX3_add_29 ?_
        refine lv_iload hx hb dX3_add_32 (lv_at hl 5 rfl) ?_
        refine lv_iload_n hx hb dX3_add_34 rfl (lv_at hl 2 rfl) ?_
        obtain ⟨hin, h⟩ := h
        refine x_ast (ws' := (cM E a ((st v_1 3 (tn x5) f2)))) C0 hw 3 rfl hin rfl dX3_add_35 (fun H locs hw => ?_)
        obtain ⟨v_2, e_v_2⟩ : ∃ z, z = st v_1 3 (tn x5) f2 := ⟨_, rfl⟩
        rw [← e_v_2] at hw
        replace h := h v_2 e_v_2
        refine lv_aload_n hx hb dX3_add_36 rfl (lv_at hl 0 rfl) ?_
        refine x_get C0 hw 3 hiX3 rfl 1 rfl 2 (by decide) 4 rfl rfl dX3_add_37 ?_
        refine lv_iload hx hb dX3_add_40 (lv_at hl 5 rfl) ?_
        refine lv_iload_n hx hb dX3_add_42 rfl (lv_at hl 3 rfl) ?_
        obtain ⟨hin, h⟩ := h
        refine x_ast (ws' := (cM E a ((st v_2 4 (tn x5) f3)))) C0 hw 4 rfl hin rfl dX3_add_43 (fun H locs hw => ?_)
        obtain ⟨v_3, e_v_3⟩ : ∃ z, z = st v_2 4 (tn x5) f3 := ⟨_, rfl⟩
        rw [← e_v_3] at hw
        replace h := h v_3 e_v_3
        refine lv_aload_n hx hb dX3_add_44 rfl (lv_at hl 0 rfl) ?_
        refine x_get C0 hw 3 hiX3 rfl 1 rfl 3 (by decide) 1 rfl rfl dX3_add_45 ?_
        refine lv_iload hx hb dX3_add_48 (lv_at hl 5 rfl) ?_
        refine lv_iload hx hb dX3_add_50 (lv_at hl 4 rfl) ?_
        obtain ⟨hin, h⟩ := h
        refine x_ast (ws' := (cM E a ((st v_3 5 (tn x5) f4)))) C0 hw 5 rfl hin rfl dX3_add_52 (fun H locs hw => ?_)
        obtain ⟨v_4, e_v_4⟩ : ∃ z, z = st v_3 5 (tn x5) f4 := ⟨_, rfl⟩
        rw [← e_v_4] at hw
        replace h := h v_4 e_v_4
        refine lv_iconst (v := 1) hx hb dX3_add_53 (by decide) ?_
        exact x_retz C0 rfl v_4 hw h dX3_add_54
set_option maxRecDepth 100000 in
set_option maxHeartbeats 4000000 in
theorem c_X3_add (l : Launch) (E : EE) (a : Nat → Nat) {v : V}  {p1 : Int32} {p2 : Int32} {p3 : Int32} {p4 : Int32} {post : Int32 → V → Prop} (h : s_X3_add v p1 p2 p3 p4 post) : KI l E yX3_add wsX3_add rmX3_add [.ref (a 1), .int p1, .int p2, .int p3, .int p4] (cM E a v) post (fun u => cM E a u) := by
  unfold s_X3_add at h
  refine KI.go (cc := cX3_add) (ret := (some .boolean)) (maxL := 6) (own := RX3) (by decide) rfl (Nat.le_of_ble_eq_true rfl) rfl (fun p e s m below meth c A ls C0 hw hl => ?_)
  have hx := C0.1
  have hb := C0.2.1
  have hiX3 : ∀ w ∈ wsX30, w ∈ wsX3_add := fun w h => List.mem_cons_of_mem _ (List.mem_append_right _ h)
  replace hl : lv_has ls 6 [(0, .ref (a 1)), (1, .int p1), (2, .int p2), (3, .int p3), (4, .int p4)] := hl
  refine lv_iconst (v := 0) hx hb dX3_add_0 (by decide) ?_
  refine lv_istore (lv' := [(5, .int 0), (0, .ref (a 1)), (1, .int p1), (2, .int p2), (3, .int p3), (4, .int p4)]) hx hb dX3_add_1 hl (by decide) rfl (fun ls hl => ?_)
  obtain ⟨n_7, h⟩ := h
  refine w_X3_add_3 C0 _ _ _ h _ _ _ hw (lv_sub hl [1, 2, 3, 4, 5, 0] rfl) ?_
  · intro x5_8 v_9 H locs ls h hw hl
    refine lv_iconst (v := 0) hx hb dX3_add_61 (by decide) ?_
    exact x_retz C0 rfl v_9 hw h dX3_add_62

abbrev rmX3_isEntryOf : Room := { frames := 0, cells := 0, slots := 0, locals := 0 }
set_option maxRecDepth 100000 in
set_option maxHeartbeats 4000000 in
theorem c_X3_isEntryOf (l : Launch) (E : EE) (a : Nat → Nat) {v : V}  {p1 : Int32} {p2 : Int32} {p3 : Int32} {p4 : Int32} {post : Int32 → V → Prop} (h : s_X3_isEntryOf v p1 p2 p3 p4 post) : KI l E yX3_isEntryOf wsX3_isEntryOf rmX3_isEntryOf [.ref (a 1), .int p1, .int p2, .int p3, .int p4] (cM E a v) post (fun u => cM E a u) := by
  unfold s_X3_isEntryOf at h
  refine KI.go (cc := cX3_isEntryOf) (ret := (some .boolean)) (maxL := 5) (own := RX3) (by decide) rfl (Nat.le_of_ble_eq_true rfl) rfl (fun p e s m below meth c A ls C0 hw hl => ?_)
  have hx := C0.1
  have hb := C0.2.1
  have hiX3 : ∀ w ∈ wsX30, w ∈ wsX3_isEntryOf := fun w h => List.mem_cons_of_mem _ (List.mem_append_right _ h)
  replace hl : lv_has ls 5 [(0, .ref (a 1)), (1, .int p1), (2, .int p2), (3, .int p3), (4, .int p4)] := hl
  refine lv_aload_n hx hb dX3_isEntryOf_0 rfl (lv_at hl 0 rfl) ?_
  refine x_get C0 hw 3 hiX3 rfl 1 rfl 3 (by decide) 1 rfl rfl dX3_isEntryOf_1 ?_
  refine lv_iload_n hx hb dX3_isEntryOf_4 rfl (lv_at hl 1 rfl) ?_
  obtain ⟨hin, h⟩ := h
  refine x_ald C0 hw 5 rfl hin dX3_isEntryOf_5 ?_
  refine lv_if_eq (tgt := 44) hx hb dX3_isEntryOf_6 (by decide) (fun c_4 => ?_) (fun c_4 => ?_)
  · replace h := h.1 c_4
    refine lv_iconst (v := 0) hx hb dX3_isEntryOf_44 (by decide) ?_
    exact x_retz C0 rfl v hw h dX3_isEntryOf_45
  · replace h := h.2 c_4
    refine lv_aload_n hx hb dX3_isEntryOf_9 rfl (lv_at hl 0 rfl) ?_
    refine x_get C0 hw 3 hiX3 rfl 1 rfl 0 (by decide) 2 rfl rfl dX3_isEntryOf_10 ?_
    refine lv_iload_n hx hb dX3_isEntryOf_13 rfl (lv_at hl 1 rfl) ?_
    obtain ⟨hin, h⟩ := h
    refine x_ald C0 hw 2 rfl hin dX3_isEntryOf_14 ?_
    refine lv_iload_n hx hb dX3_isEntryOf_15 rfl (lv_at hl 2 rfl) ?_
    refine lv_icmp_ne (tgt := 44) hx hb dX3_isEntryOf_16 (by decide) (fun c_3 => ?_) (fun c_3 => ?_)
    · replace h := h.1 c_3
      refine lv_iconst (v := 0) hx hb dX3_isEntryOf_44 (by decide) ?_
      exact x_retz C0 rfl v hw h dX3_isEntryOf_45
    · replace h := h.2 c_3
      refine lv_aload_n hx hb dX3_isEntryOf_19 rfl (lv_at hl 0 rfl) ?_
      refine x_get C0 hw 3 hiX3 rfl 1 rfl 1 (by decide) 3 rfl rfl dX3_isEntryOf_20 ?_
      refine lv_iload_n hx hb dX3_isEntryOf_23 rfl (lv_at hl 1 rfl) ?_
      obtain ⟨hin, h⟩ := h
      refine x_ald C0 hw 3 rfl hin dX3_isEntryOf_24 ?_
      refine lv_iload_n hx hb dX3_isEntryOf_25 rfl (lv_at hl 3 rfl) ?_
      refine lv_icmp_ne (tgt := 44) hx hb dX3_isEntryOf_26 (by decide) (fun c_2 => ?_) (fun c_2 => ?_)
      · replace h := h.1 c_2
        refine lv_iconst (v := 0) hx hb dX3_isEntryOf_44 (by decide) ?_
        exact x_retz C0 rfl v hw h dX3_isEntryOf_45
      · replace h := h.2 c_2
        refine lv_aload_n hx hb dX3_isEntryOf_29 rfl (lv_at hl 0 rfl) ?_
        refine x_get C0 hw 3 hiX3 rfl 1 rfl 2 (by decide) 4 rfl rfl dX3_isEntryOf_30 ?_
        refine lv_iload_n hx hb dX3_isEntryOf_33 rfl (lv_at hl 1 rfl) ?_
        obtain ⟨hin, h⟩ := h
        refine x_ald C0 hw 4 rfl hin dX3_isEntryOf_34 ?_
        refine lv_iload hx hb dX3_isEntryOf_35 (lv_at hl 4 rfl) ?_
        refine lv_icmp_ne (tgt := 44) hx hb dX3_isEntryOf_37 (by decide) (fun c_1 => ?_) (fun c_1 => ?_)
        · replace h := h.1 c_1
          refine lv_iconst (v := 0) hx hb dX3_isEntryOf_44 (by decide) ?_
          exact x_retz C0 rfl v hw h dX3_isEntryOf_45
        · replace h := h.2 c_1
          refine lv_iconst (v := 1) hx hb dX3_isEntryOf_40 (by decide) ?_
          refine lv_goto (tgt := 45) hx hb dX3_isEntryOf_41 (by decide) ?_
          exact x_retz C0 rfl v hw h dX3_isEntryOf_45

abbrev rmX3_change : Room := { frames := 1, cells := 0, slots := 0, locals := 24 }
set_option maxRecDepth 100000 in
set_option maxHeartbeats 4000000 in
theorem w_X3_change_3 {p : Program} {l : Launch} {e : Env} {s : State} {m : MethodId} {below : List Frame} {meth : Method} {c : Code} {E : EE} {A : Nat → Prop} {a : Nat → Nat} {args : Array Value} (C0 : Cx E p s m args meth c A cX3_change 6 RX3 wsX3_change none) {post : V → Prop}  {f1 : Int32} {f2 : Int32} {f3 : Int32} {f4 : Int32} {k0 : Int32 → V → Prop} : ∀ (n : Nat) (x5 : Int32) (v : V), sl_X3_change_3 post f1 f2 f3 f4 k0 n x5 v → ∀ (H : Heap) (locs : List Loc) (ls : Array Slot), mw E A s.heap H locs (cM E a v) → lv_has ls 6 [(0, .ref (a 1)), (1, .int f1), (2, .int f2), (3, .int f3), (4, .int f4), (5, .int x5)] → (∀ (x5 : Int32) (v : V) (H : Heap) (locs : List Loc) (ls : Array Slot), k0 x5 v → mw E A s.heap H locs (cM E a v) → lv_has ls 6 [(0, .ref (a 1)), (1, .int f1), (2, .int f2), (3, .int f3), (4, .int f4), (5, .int x5)] → W p l e rmX3_change s m args below meth c H locs 0 0 (qV E A post (fun u => cM E a u) below args s) (F0 m 37 ls [])) → W p l e rmX3_change s m args below meth c H locs 0 0 (qV E A post (fun u => cM E a u) below args s) (F0 m 3 ls []) := by
  have hx := C0.1
  have hb := C0.2.1
  have hiX3 : ∀ w ∈ wsX30, w ∈ wsX3_change := fun w h => List.mem_cons_of_mem _ (List.mem_append_right _ h)
  intro n
  induction n with
  | zero => intro x5 v h; exact False.elim h
  | succ n ih =>
    intro x5 v h H locs ls hw hl hk0
    replace h : sb_X3_change_3 post f1 f2 f3 f4 k0 (sl_X3_change_3 post f1 f2 f3 f4 k0 n) x5 v := h
    unfold sb_X3_change_3 at h
    refine lv_iload hx hb dX3_change_3 (lv_at hl 5 rfl) ?_
    refine lv_bipush (v := 24) hx hb dX3_change_5 (by decide) ?_
    refine lv_icmp_ge (tgt := 37) hx hb dX3_change_7 (by decide) (fun c_5 => ?_) (fun c_5 => ?_)
    · replace h := h.1 c_5
      exact hk0 _ _ _ _ _ h hw (lv_sub hl [0, 1, 2, 3, 4, 5] rfl)
    · replace h := h.2 c_5
      refine lv_aload_n hx hb dX3_change_10 rfl (lv_at hl 0 rfl) ?_
      refine lv_iload hx hb dX3_change_11 (lv_at hl 5 rfl) ?_
      refine lv_iload_n hx hb dX3_change_13 rfl (lv_at hl 1 rfl) ?_
      refine lv_iload_n hx hb dX3_change_14 rfl (lv_at hl 2 rfl) ?_
      refine lv_iload_n hx hb dX3_change_15 rfl (lv_at hl 3 rfl) ?_
      refine x_cV (As := [.int x5, .int f1, .int f2, .int f3]) (rest := []) (F := []) C0 hw (p_nil _) hl.1 1 3 rfl rfl (c_X3_isEntryOf l E a h) 4 gX3_change_X3_isEntryOf rfl ⟨rfl, rfl⟩ (by decide +kernel) ⟨Nat.le_of_ble_eq_true rfl, Nat.le_of_ble_eq_true rfl⟩ rfl rfl (Nat.le_of_ble_eq_true rfl) dX3_change_16 ⟨Nat.zero_le _, Nat.zero_le _⟩ (fun r_1 v_2 H locs h (hw : mw E A s.heap H locs (cM E a v_2)) => ?_)
      refine lv_if_eq (tgt := 31) hx hb dX3_change_19 (by decide) (fun c_4 => ?_) (fun c_4 => ?_)
      · replace h := h.1 c_4
        refine lv_iinc (v := (x5 + 1)) (lv' := [(5, .int (x5 + 1)), (0, .ref (a 1)), (1, .int f1), (2, .int f2), (3, .int f3), (4, .int f4)]) hx hb dX3_change_31 hl (k := 5) rfl rfl (by decide) rfl (fun ls hl => ?_)
        refine lv_goto (tgt := 3) hx hb dX3_change_34 (by decide) ?_
        exact ih _ _ h _ _ _ hw (lv_sub hl [1, 2, 3, 4, 5, 0] rfl) hk0
      · replace h := h.2 c_4
        refine lv_aload_n hx hb dX3_change_22 rfl (lv_at hl 0 rfl) ?_
        refine x_get C0 hw 3 hiX3 rfl 1 rfl 3 (by decide) 1 rfl rfl dX3_change_23 ?_
        refine lv_iload hx hb dX3_change_26 (lv_at hl 5 rfl) ?_
        refine lv_iload hx hb dX3_change_28 (lv_at hl 4 rfl) ?_
        obtain ⟨hin, h⟩ := h
        refine x_ast (ws' := (cM E a ((st v_2 5 (tn x5) f4)))) C0 hw 5 rfl hin rfl dX3_change_30 (fun H locs hw => ?_)
        obtain ⟨v_3, e_v_3⟩ : ∃ z, z = st v_2 5 (tn x5) f4 := ⟨_, rfl⟩
        rw [← e_v_3] at hw
        replace h := h v_3 e_v_3
        refine lv_iinc (v := (x5 + 1)) (lv' := [(5, .int (x5 + 1)), (0, .ref (a 1)), (1, .int f1), (2, .int f2), (3, .int f3), (4, .int f4)]) hx hb dX3_change_31 hl (k := 5) rfl rfl (by decide) rfl (fun ls hl => ?_)
        refine lv_goto (tgt := 3) hx hb dX3_change_34 (by decide) ?_
        exact ih _ _ h _ _ _ hw (lv_sub hl [1, 2, 3, 4, 5, 0] rfl) hk0
set_option maxRecDepth 100000 in
set_option maxHeartbeats 4000000 in
theorem c_X3_change (l : Launch) (E : EE) (a : Nat → Nat) {v : V}  {p1 : Int32} {p2 : Int32} {p3 : Int32} {p4 : Int32} {post : V → Prop} (h : s_X3_change v p1 p2 p3 p4 post) : KV l E yX3_change wsX3_change rmX3_change [.ref (a 1), .int p1, .int p2, .int p3, .int p4] (cM E a v) post (fun u => cM E a u) := by
  unfold s_X3_change at h
  refine KV.go (cc := cX3_change) (ret := none) (maxL := 6) (own := RX3) (by decide) rfl (Nat.le_of_ble_eq_true rfl) rfl (fun p e s m below meth c A ls C0 hw hl => ?_)
  have hx := C0.1
  have hb := C0.2.1
  have hiX3 : ∀ w ∈ wsX30, w ∈ wsX3_change := fun w h => List.mem_cons_of_mem _ (List.mem_append_right _ h)
  replace hl : lv_has ls 6 [(0, .ref (a 1)), (1, .int p1), (2, .int p2), (3, .int p3), (4, .int p4)] := hl
  refine lv_iconst (v := 0) hx hb dX3_change_0 (by decide) ?_
  refine lv_istore (lv' := [(5, .int 0), (0, .ref (a 1)), (1, .int p1), (2, .int p2), (3, .int p3), (4, .int p4)]) hx hb dX3_change_1 hl (by decide) rfl (fun ls hl => ?_)
  obtain ⟨n_6, h⟩ := h
  refine w_X3_change_3 C0 _ _ _ h _ _ _ hw (lv_sub hl [1, 2, 3, 4, 5, 0] rfl) ?_
  · intro x5_7 v_8 H locs ls h hw hl
    exact x_retv C0 v_8 hw h dX3_change_37

abbrev rmX3_ownRate : Room := { frames := 1, cells := 0, slots := 0, locals := 24 }
set_option maxRecDepth 100000 in
set_option maxHeartbeats 4000000 in
theorem w_X3_ownRate_3 {p : Program} {l : Launch} {e : Env} {s : State} {m : MethodId} {below : List Frame} {meth : Method} {c : Code} {E : EE} {A : Nat → Prop} {a : Nat → Nat} {args : Array Value} (C0 : Cx E p s m args meth c A cX3_ownRate 5 RX3 wsX3_ownRate (some .int)) {post : Int32 → V → Prop}  {f1 : Int32} {f2 : Int32} {f3 : Int32} {k0 : Int32 → V → Prop} : ∀ (n : Nat) (x4 : Int32) (v : V), sl_X3_ownRate_3 post f1 f2 f3 k0 n x4 v → ∀ (H : Heap) (locs : List Loc) (ls : Array Slot), mw E A s.heap H locs (cM E a v) → lv_has ls 5 [(0, .ref (a 1)), (1, .int f1), (2, .int f2), (3, .int f3), (4, .int x4)] → (∀ (x4 : Int32) (v : V) (H : Heap) (locs : List Loc) (ls : Array Slot), k0 x4 v → mw E A s.heap H locs (cM E a v) → lv_has ls 5 [(0, .ref (a 1)), (1, .int f1), (2, .int f2), (3, .int f3), (4, .int x4)] → W p l e rmX3_ownRate s m args below meth c H locs 0 0 (qI E A post (fun u => cM E a u) below args s) (F0 m 36 ls [])) → W p l e rmX3_ownRate s m args below meth c H locs 0 0 (qI E A post (fun u => cM E a u) below args s) (F0 m 3 ls []) := by
  have hx := C0.1
  have hb := C0.2.1
  have hiX3 : ∀ w ∈ wsX30, w ∈ wsX3_ownRate := fun w h => List.mem_cons_of_mem _ (List.mem_append_right _ h)
  intro n
  induction n with
  | zero => intro x4 v h; exact False.elim h
  | succ n ih =>
    intro x4 v h H locs ls hw hl hk0
    replace h : sb_X3_ownRate_3 post f1 f2 f3 k0 (sl_X3_ownRate_3 post f1 f2 f3 k0 n) x4 v := h
    unfold sb_X3_ownRate_3 at h
    refine lv_iload hx hb dX3_ownRate_3 (lv_at hl 4 rfl) ?_
    refine lv_bipush (v := 24) hx hb dX3_ownRate_5 (by decide) ?_
    refine lv_icmp_ge (tgt := 36) hx hb dX3_ownRate_7 (by decide) (fun c_4 => ?_) (fun c_4 => ?_)
    · replace h := h.1 c_4
      exact hk0 _ _ _ _ _ h hw (lv_sub hl [0, 1, 2, 3, 4] rfl)
    · replace h := h.2 c_4
      refine lv_aload_n hx hb dX3_ownRate_10 rfl (lv_at hl 0 rfl) ?_
      refine lv_iload hx hb dX3_ownRate_11 (lv_at hl 4 rfl) ?_
      refine lv_iload_n hx hb dX3_ownRate_13 rfl (lv_at hl 1 rfl) ?_
      refine lv_iload_n hx hb dX3_ownRate_14 rfl (lv_at hl 2 rfl) ?_
      refine lv_iload_n hx hb dX3_ownRate_15 rfl (lv_at hl 3 rfl) ?_
      refine x_cV (As := [.int x4, .int f1, .int f2, .int f3]) (rest := []) (F := []) C0 hw (p_nil _) hl.1 1 3 rfl rfl (c_X3_isEntryOf l E a h) 4 gX3_ownRate_X3_isEntryOf rfl ⟨rfl, rfl⟩ (by decide +kernel) ⟨Nat.le_of_ble_eq_true rfl, Nat.le_of_ble_eq_true rfl⟩ rfl rfl (Nat.le_of_ble_eq_true rfl) dX3_ownRate_16 ⟨Nat.zero_le _, Nat.zero_le _⟩ (fun r_1 v_2 H locs h (hw : mw E A s.heap H locs (cM E a v_2)) => ?_)
      refine lv_if_eq (tgt := 30) hx hb dX3_ownRate_19 (by decide) (fun c_3 => ?_) (fun c_3 => ?_)
      · replace h := h.1 c_3
        refine lv_iinc (v := (x4 + 1)) (lv' := [(4, .int (x4 + 1)), (0, .ref (a 1)), (1, .int f1), (2, .int f2), (3, .int f3)]) hx hb dX3_ownRate_30 hl (k := 4) rfl rfl (by decide) rfl (fun ls hl => ?_)
        refine lv_goto (tgt := 3) hx hb dX3_ownRate_33 (by decide) ?_
        exact ih _ _ h _ _ _ hw (lv_sub hl [1, 2, 3, 4, 0] rfl) hk0
      · replace h := h.2 c_3
        refine lv_aload_n hx hb dX3_ownRate_22 rfl (lv_at hl 0 rfl) ?_
        refine x_get C0 hw 3 hiX3 rfl 1 rfl 3 (by decide) 1 rfl rfl dX3_ownRate_23 ?_
        refine lv_iload hx hb dX3_ownRate_26 (lv_at hl 4 rfl) ?_
        obtain ⟨hin, h⟩ := h
        refine x_ald C0 hw 5 rfl hin dX3_ownRate_28 ?_
        exact x_ret C0 v_2 hw h dX3_ownRate_29
set_option maxRecDepth 100000 in
set_option maxHeartbeats 4000000 in
theorem c_X3_ownRate (l : Launch) (E : EE) (a : Nat → Nat) {v : V}  {p1 : Int32} {p2 : Int32} {p3 : Int32} {post : Int32 → V → Prop} (h : s_X3_ownRate v p1 p2 p3 post) : KI l E yX3_ownRate wsX3_ownRate rmX3_ownRate [.ref (a 1), .int p1, .int p2, .int p3] (cM E a v) post (fun u => cM E a u) := by
  unfold s_X3_ownRate at h
  refine KI.go (cc := cX3_ownRate) (ret := (some .int)) (maxL := 5) (own := RX3) (by decide) rfl (Nat.le_of_ble_eq_true rfl) rfl (fun p e s m below meth c A ls C0 hw hl => ?_)
  have hx := C0.1
  have hb := C0.2.1
  have hiX3 : ∀ w ∈ wsX30, w ∈ wsX3_ownRate := fun w h => List.mem_cons_of_mem _ (List.mem_append_right _ h)
  replace hl : lv_has ls 5 [(0, .ref (a 1)), (1, .int p1), (2, .int p2), (3, .int p3)] := hl
  refine lv_iconst (v := 0) hx hb dX3_ownRate_0 (by decide) ?_
  refine lv_istore (lv' := [(4, .int 0), (0, .ref (a 1)), (1, .int p1), (2, .int p2), (3, .int p3)]) hx hb dX3_ownRate_1 hl (by decide) rfl (fun ls hl => ?_)
  obtain ⟨n_5, h⟩ := h
  refine w_X3_ownRate_3 C0 _ _ _ h _ _ _ hw (lv_sub hl [1, 2, 3, 4, 0] rfl) ?_
  · intro x4_6 v_7 H locs ls h hw hl
    refine lv_iconst (v := 0) hx hb dX3_ownRate_36 (by decide) ?_
    exact x_ret C0 v_7 hw h dX3_ownRate_37

abbrev rmX6_isGrade : Room := { frames := 1, cells := 0, slots := 0, locals := 21 }
set_option maxRecDepth 100000 in
set_option maxHeartbeats 4000000 in
theorem c_X6_isGrade (l : Launch) (E : EE)    {p0 : Int32} {p1 : Int32} {p2 : Int32} {post : Int32 → Prop} (h : s_X6_isGrade p0 p1 p2 post) : KI l E yX6_isGrade wsX6_isGrade rmX6_isGrade [.int p0, .int p1, .int p2] ([] : va_W) (S := Unit) (fun r (_ : Unit) => post r) (fun (_ : Unit) => ([] : va_W)) := by
  unfold s_X6_isGrade at h
  refine KI.go (cc := cX6_isGrade) (ret := (some .boolean)) (maxL := 3) (own := RX6) (by decide) rfl (Nat.le_of_ble_eq_true rfl) rfl (fun p e s m below meth c A ls C0 hw hl => ?_)
  have hx := C0.1
  have hb := C0.2.1
  replace hl : lv_has ls 3 [(0, .int p0), (1, .int p1), (2, .int p2)] := hl
  refine lv_iload_n hx hb dX6_isGrade_0 rfl (lv_at hl 0 rfl) ?_
  refine lv_if_lt (tgt := 21) hx hb dX6_isGrade_1 (by decide) (fun c_5 => ?_) (fun c_5 => ?_)
  · replace h := h.1 c_5
    refine lv_iconst (v := 0) hx hb dX6_isGrade_21 (by decide) ?_
    exact x_retz C0 rfl () hw h dX6_isGrade_22
  · replace h := h.2 c_5
    refine lv_iload_n hx hb dX6_isGrade_4 rfl (lv_at hl 0 rfl) ?_
    refine lv_iconst (v := 5) hx hb dX6_isGrade_5 (by decide) ?_
    refine lv_icmp_ge (tgt := 21) hx hb dX6_isGrade_6 (by decide) (fun c_4 => ?_) (fun c_4 => ?_)
    · replace h := h.1 c_4
      refine lv_iconst (v := 0) hx hb dX6_isGrade_21 (by decide) ?_
      exact x_retz C0 rfl () hw h dX6_isGrade_22
    · replace h := h.2 c_4
      refine lv_iload_n hx hb dX6_isGrade_9 rfl (lv_at hl 1 rfl) ?_
      refine lv_iload_n hx hb dX6_isGrade_10 rfl (lv_at hl 2 rfl) ?_
      refine x_cS (As := [.int p1, .int p2]) (rest := []) (F := ([] : va_W)) C0 hw (p_non _) hl.1 (c_X6_isLook l E  h) 2 gX6_isGrade_X6_isLook rfl ⟨rfl, rfl⟩ (by decide +kernel) ⟨Nat.le_of_ble_eq_true rfl, Nat.le_of_ble_eq_true rfl⟩ rfl rfl (Nat.le_of_ble_eq_true rfl) dX6_isGrade_11 ⟨Nat.zero_le _, Nat.zero_le _⟩ (fun r_1 _u H locs h (hw : mw E A s.heap H locs ([] : va_W)) => ?_)
      refine lv_if_eq (tgt := 21) hx hb dX6_isGrade_14 (by decide) (fun c_2 => ?_) (fun c_2 => ?_)
      · replace h := h.1 c_2
        refine lv_iconst (v := 0) hx hb dX6_isGrade_21 (by decide) ?_
        exact x_retz C0 rfl () hw h dX6_isGrade_22
      · replace h := h.2 c_2
        refine lv_iconst (v := 1) hx hb dX6_isGrade_17 (by decide) ?_
        refine lv_goto (tgt := 22) hx hb dX6_isGrade_18 (by decide) ?_
        exact x_retz C0 rfl () hw h dX6_isGrade_22

abbrev rmX1_putRate : Room := { frames := 2, cells := 0, slots := 0, locals := 49 }
set_option maxRecDepth 100000 in
set_option maxHeartbeats 4000000 in
theorem c_X1_putRate (l : Launch) (E : EE) (a : Nat → Nat) {v : V}  {p1 : Int32} {p2 : Int32} {p3 : Int32} {p4 : Int32} {post : Int32 → V → Prop} (h : s_X1_putRate v p1 p2 p3 p4 post) : KI l E yX1_putRate wsX1_putRate rmX1_putRate [.ref (a 0), .int p1, .int p2, .int p3, .int p4] (cM E a v) post (fun u => cM E a u) := by
  unfold s_X1_putRate at h
  refine KI.go (cc := cX1_putRate) (ret := (some .int)) (maxL := 6) (own := RX1) (by decide) rfl (Nat.le_of_ble_eq_true rfl) rfl (fun p e s m below meth c A ls C0 hw hl => ?_)
  have hx := C0.1
  have hb := C0.2.1
  have hiX1 : ∀ w ∈ wsX10, w ∈ wsX1_putRate := fun w h => List.mem_cons_of_mem _ (List.mem_append_left _ (List.mem_append_right _ h))
  replace hl : lv_has ls 6 [(0, .ref (a 0)), (1, .int p1), (2, .int p2), (3, .int p3), (4, .int p4)] := hl
  refine lv_iload_n hx hb dX1_putRate_0 rfl (lv_at hl 1 rfl) ?_
  refine lv_iload_n hx hb dX1_putRate_1 rfl (lv_at hl 2 rfl) ?_
  refine lv_iload_n hx hb dX1_putRate_2 rfl (lv_at hl 3 rfl) ?_
  refine x_cSN (As := [.int p1, .int p2, .int p3]) (rest := []) (F := (cM E a v)) C0 hw (p_non _) hl.1 (c_X6_isGrade l E  h) 3 gX1_putRate_X6_isGrade_n82 rfl ⟨rfl, rfl⟩ 30 rfl 5 rfl 4 rfl (by decide +kernel) ⟨Nat.le_of_ble_eq_true rfl, Nat.le_of_ble_eq_true rfl⟩ rfl rfl (Nat.le_of_ble_eq_true rfl) dX1_putRate_3 ⟨Nat.zero_le _, Nat.zero_le _⟩ (fun r_1 _u H locs h (hw : mw E A s.heap H locs (cM E a v)) => ?_)
  refine lv_if_eq (tgt := 23) hx hb dX1_putRate_6 (by decide) (fun c_11 => ?_) (fun c_11 => ?_)
  · replace h := h.1 c_11
    refine x_ldc (v := (-10000001)) C0 1 rfl dX1_putRate_23 ?_
    exact x_ret C0 v hw h dX1_putRate_25
  · replace h := h.2 c_11
    refine lv_iload hx hb dX1_putRate_9 (lv_at hl 4 rfl) ?_
    refine lv_iconst (v := 1) hx hb dX1_putRate_11 (by decide) ?_
    refine lv_icmp_lt (tgt := 23) hx hb dX1_putRate_12 (by decide) (fun c_10 => ?_) (fun c_10 => ?_)
    · replace h := h.1 c_10
      refine x_ldc (v := (-10000001)) C0 1 rfl dX1_putRate_23 ?_
      exact x_ret C0 v hw h dX1_putRate_25
    · replace h := h.2 c_10
      refine lv_iload hx hb dX1_putRate_15 (lv_at hl 4 rfl) ?_
      refine lv_sipush (v := 9999) hx hb dX1_putRate_17 (by decide) ?_
      refine lv_icmp_le (tgt := 26) hx hb dX1_putRate_20 (by decide) (fun c_9 => ?_) (fun c_9 => ?_)
      · replace h := h.1 c_9
        refine lv_aload_n hx hb dX1_putRate_26 rfl (lv_at hl 0 rfl) ?_
        refine x_get C0 hw 1 hiX1 rfl 0 rfl 0 (by decide) 2 rfl rfl dX1_putRate_27 ?_
        refine lv_iload_n hx hb dX1_putRate_30 rfl (lv_at hl 1 rfl) ?_
        refine lv_iload_n hx hb dX1_putRate_31 rfl (lv_at hl 2 rfl) ?_
        refine lv_iload_n hx hb dX1_putRate_32 rfl (lv_at hl 3 rfl) ?_
        refine x_cV (As := [.int p1, .int p2, .int p3]) (rest := []) (F := []) C0 hw (p_nil _) hl.1 1 3 rfl rfl (c_X3_ownRate l E a h) 3 gX1_putRate_X3_ownRate rfl ⟨rfl, rfl⟩ (by decide +kernel) ⟨Nat.le_of_ble_eq_true rfl, Nat.le_of_ble_eq_true rfl⟩ rfl rfl (Nat.le_of_ble_eq_true rfl) dX1_putRate_33 ⟨Nat.zero_le _, Nat.zero_le _⟩ (fun r_2 v_3 H locs h (hw : mw E A s.heap H locs (cM E a v_3)) => ?_)
        refine lv_istore (lv' := [(5, .int r_2), (0, .ref (a 0)), (1, .int p1), (2, .int p2), (3, .int p3), (4, .int p4)]) hx hb dX1_putRate_36 hl (by decide) rfl (fun ls hl => ?_)
        refine lv_iload hx hb dX1_putRate_38 (lv_at hl 0 rfl) ?_
        refine lv_if_eq (tgt := 58) hx hb dX1_putRate_40 (by decide) (fun c_8 => ?_) (fun c_8 => ?_)
        · replace h := h.1 c_8
          refine lv_aload_n hx hb dX1_putRate_58 rfl (lv_at hl 1 rfl) ?_
          refine x_get C0 hw 1 hiX1 rfl 0 rfl 0 (by decide) 2 rfl rfl dX1_putRate_59 ?_
          refine lv_iload_n hx hb dX1_putRate_62 rfl (lv_at hl 2 rfl) ?_
          refine lv_iload_n hx hb dX1_putRate_63 rfl (lv_at hl 3 rfl) ?_
          refine lv_iload_n hx hb dX1_putRate_64 rfl (lv_at hl 4 rfl) ?_
          refine lv_iload hx hb dX1_putRate_65 (lv_at hl 5 rfl) ?_
          refine x_cV (As := [.int p1, .int p2, .int p3, .int p4]) (rest := []) (F := []) C0 hw (p_nil _) hl.1 1 3 rfl rfl (c_X3_add l E a h) 4 gX1_putRate_X3_add rfl ⟨rfl, rfl⟩ (by decide +kernel) ⟨Nat.le_of_ble_eq_true rfl, Nat.le_of_ble_eq_true rfl⟩ rfl rfl (Nat.le_of_ble_eq_true rfl) dX1_putRate_67 ⟨Nat.zero_le _, Nat.zero_le _⟩ (fun r_4 v_5 H locs h (hw : mw E A s.heap H locs (cM E a v_5)) => ?_)
          refine lv_if_eq (tgt := 77) hx hb dX1_putRate_70 (by decide) (fun c_6 => ?_) (fun c_6 => ?_)
          · replace h := h.1 c_6
            refine x_ldc (v := (-10000003)) C0 3 rfl dX1_putRate_77 ?_
            exact x_ret C0 v_5 hw h dX1_putRate_79
          · replace h := h.2 c_6
            refine lv_iconst (v := 0) hx hb dX1_putRate_73 (by decide) ?_
            refine lv_goto (tgt := 79) hx hb dX1_putRate_74 (by decide) ?_
            exact x_ret C0 v_5 hw h dX1_putRate_79
        · replace h := h.2 c_8
          refine lv_aload_n hx hb dX1_putRate_43 rfl (lv_at hl 1 rfl) ?_
          refine x_get C0 hw 1 hiX1 rfl 0 rfl 0 (by decide) 2 rfl rfl dX1_putRate_44 ?_
          refine lv_iload_n hx hb dX1_putRate_47 rfl (lv_at hl 2 rfl) ?_
          refine lv_iload_n hx hb dX1_putRate_48 rfl (lv_at hl 3 rfl) ?_
          refine lv_iload_n hx hb dX1_putRate_49 rfl (lv_at hl 4 rfl) ?_
          refine lv_iload hx hb dX1_putRate_50 (lv_at hl 5 rfl) ?_
          refine x_cVv (As := [.int p1, .int p2, .int p3, .int p4]) (rest := []) (F := []) C0 hw (p_nil _) hl.1 1 3 rfl rfl (c_X3_change l E a h) 4 gX1_putRate_X3_change rfl ⟨rfl, rfl⟩ (by decide +kernel) ⟨Nat.le_of_ble_eq_true rfl, Nat.le_of_ble_eq_true rfl⟩ rfl rfl (Nat.le_of_ble_eq_true rfl) dX1_putRate_52 ⟨Nat.zero_le _, Nat.zero_le _⟩ (fun v_7 H locs h (hw : mw E A s.heap H locs (cM E a v_7)) => ?_)
          refine lv_iload hx hb dX1_putRate_55 (lv_at hl 0 rfl) ?_
          exact x_ret C0 v_7 hw h dX1_putRate_57
      · replace h := h.2 c_9
        refine x_ldc (v := (-10000001)) C0 1 rfl dX1_putRate_23 ?_
        exact x_ret C0 v hw h dX1_putRate_25

abbrev rmX1_takeRate : Room := { frames := 2, cells := 0, slots := 0, locals := 49 }
set_option maxRecDepth 100000 in
set_option maxHeartbeats 4000000 in
theorem c_X1_takeRate (l : Launch) (E : EE) (a : Nat → Nat) {v : V}  {p1 : Int32} {p2 : Int32} {p3 : Int32} {post : Int32 → V → Prop} (h : s_X1_takeRate v p1 p2 p3 post) : KI l E yX1_takeRate wsX1_takeRate rmX1_takeRate [.ref (a 0), .int p1, .int p2, .int p3] (cM E a v) post (fun u => cM E a u) := by
  unfold s_X1_takeRate at h
  refine KI.go (cc := cX1_takeRate) (ret := (some .int)) (maxL := 5) (own := RX1) (by decide) rfl (Nat.le_of_ble_eq_true rfl) rfl (fun p e s m below meth c A ls C0 hw hl => ?_)
  have hx := C0.1
  have hb := C0.2.1
  have hiX1 : ∀ w ∈ wsX10, w ∈ wsX1_takeRate := fun w h => List.mem_cons_of_mem _ (List.mem_append_left _ (List.mem_append_right _ h))
  replace hl : lv_has ls 5 [(0, .ref (a 0)), (1, .int p1), (2, .int p2), (3, .int p3)] := hl
  refine lv_iload_n hx hb dX1_takeRate_0 rfl (lv_at hl 1 rfl) ?_
  refine lv_iload_n hx hb dX1_takeRate_1 rfl (lv_at hl 2 rfl) ?_
  refine lv_iload_n hx hb dX1_takeRate_2 rfl (lv_at hl 3 rfl) ?_
  refine x_cSN (As := [.int p1, .int p2, .int p3]) (rest := []) (F := (cM E a v)) C0 hw (p_non _) hl.1 (c_X6_isGrade l E  h) 3 gX1_takeRate_X6_isGrade_n82 rfl ⟨rfl, rfl⟩ 30 rfl 5 rfl 4 rfl (by decide +kernel) ⟨Nat.le_of_ble_eq_true rfl, Nat.le_of_ble_eq_true rfl⟩ rfl rfl (Nat.le_of_ble_eq_true rfl) dX1_takeRate_3 ⟨Nat.zero_le _, Nat.zero_le _⟩ (fun r_1 _u H locs h (hw : mw E A s.heap H locs (cM E a v)) => ?_)
  refine lv_if_ne (tgt := 12) hx hb dX1_takeRate_6 (by decide) (fun c_6 => ?_) (fun c_6 => ?_)
  · replace h := h.1 c_6
    refine lv_aload_n hx hb dX1_takeRate_12 rfl (lv_at hl 0 rfl) ?_
    refine x_get C0 hw 1 hiX1 rfl 0 rfl 0 (by decide) 2 rfl rfl dX1_takeRate_13 ?_
    refine lv_iload_n hx hb dX1_takeRate_16 rfl (lv_at hl 1 rfl) ?_
    refine lv_iload_n hx hb dX1_takeRate_17 rfl (lv_at hl 2 rfl) ?_
    refine lv_iload_n hx hb dX1_takeRate_18 rfl (lv_at hl 3 rfl) ?_
    refine x_cV (As := [.int p1, .int p2, .int p3]) (rest := []) (F := []) C0 hw (p_nil _) hl.1 1 3 rfl rfl (c_X3_ownRate l E a h) 3 gX1_takeRate_X3_ownRate rfl ⟨rfl, rfl⟩ (by decide +kernel) ⟨Nat.le_of_ble_eq_true rfl, Nat.le_of_ble_eq_true rfl⟩ rfl rfl (Nat.le_of_ble_eq_true rfl) dX1_takeRate_19 ⟨Nat.zero_le _, Nat.zero_le _⟩ (fun r_2 v_3 H locs h (hw : mw E A s.heap H locs (cM E a v_3)) => ?_)
    refine lv_istore (lv' := [(4, .int r_2), (0, .ref (a 0)), (1, .int p1), (2, .int p2), (3, .int p3)]) hx hb dX1_takeRate_22 hl (by decide) rfl (fun ls hl => ?_)
    refine lv_iload hx hb dX1_takeRate_24 (lv_at hl 0 rfl) ?_
    refine lv_if_ne (tgt := 32) hx hb dX1_takeRate_26 (by decide) (fun c_5 => ?_) (fun c_5 => ?_)
    · replace h := h.1 c_5
      refine lv_aload_n hx hb dX1_takeRate_32 rfl (lv_at hl 1 rfl) ?_
      refine x_get C0 hw 1 hiX1 rfl 0 rfl 0 (by decide) 2 rfl rfl dX1_takeRate_33 ?_
      refine lv_iload_n hx hb dX1_takeRate_36 rfl (lv_at hl 2 rfl) ?_
      refine lv_iload_n hx hb dX1_takeRate_37 rfl (lv_at hl 3 rfl) ?_
      refine lv_iload_n hx hb dX1_takeRate_38 rfl (lv_at hl 4 rfl) ?_
      refine lv_iconst (v := 0) hx hb dX1_takeRate_39 (by decide) ?_
      refine x_cVv (As := [.int p1, .int p2, .int p3, .int 0]) (rest := []) (F := []) C0 hw (p_nil _) hl.1 1 3 rfl rfl (c_X3_change l E a h) 4 gX1_takeRate_X3_change rfl ⟨rfl, rfl⟩ (by decide +kernel) ⟨Nat.le_of_ble_eq_true rfl, Nat.le_of_ble_eq_true rfl⟩ rfl rfl (Nat.le_of_ble_eq_true rfl) dX1_takeRate_40 ⟨Nat.zero_le _, Nat.zero_le _⟩ (fun v_4 H locs h (hw : mw E A s.heap H locs (cM E a v_4)) => ?_)
      refine lv_iload hx hb dX1_takeRate_43 (lv_at hl 0 rfl) ?_
      exact x_ret C0 v_4 hw h dX1_takeRate_45
    · replace h := h.2 c_5
      refine x_ldc (v := (-10000002)) C0 3 rfl dX1_takeRate_29 ?_
      exact x_ret C0 v_3 hw h dX1_takeRate_31
  · replace h := h.2 c_6
    refine x_ldc (v := (-10000001)) C0 1 rfl dX1_takeRate_9 ?_
    exact x_ret C0 v hw h dX1_takeRate_11

abbrev rmX3_rateFor : Room := { frames := 0, cells := 0, slots := 0, locals := 0 }
set_option maxRecDepth 100000 in
set_option maxHeartbeats 4000000 in
theorem w_X3_rateFor_6 {p : Program} {l : Launch} {e : Env} {s : State} {m : MethodId} {below : List Frame} {meth : Method} {c : Code} {E : EE} {A : Nat → Prop} {a : Nat → Nat} {args : Array Value} (C0 : Cx E p s m args meth c A cX3_rateFor 6 RX3 wsX3_rateFor (some .int)) {post : Int32 → V → Prop}  {f1 : Int32} {f2 : Int32} {f3 : Int32} {k0 : Int32 → Int32 → V → Prop} : ∀ (n : Nat) (x4 : Int32) (x5 : Int32) (v : V), sl_X3_rateFor_6 post f1 f2 f3 k0 n x4 x5 v → ∀ (H : Heap) (locs : List Loc) (ls : Array Slot), mw E A s.heap H locs (cM E a v) → lv_has ls 6 [(0, .ref (a 1)), (1, .int f1), (2, .int f2), (3, .int f3), (4, .int x4), (5, .int x5)] → (∀ (x4 : Int32) (x5 : Int32) (v : V) (H : Heap) (locs : List Loc) (ls : Array Slot), k0 x4 x5 v → mw E A s.heap H locs (cM E a v) → lv_has ls 6 [(0, .ref (a 1)), (1, .int f1), (2, .int f2), (3, .int f3), (4, .int x4), (5, .int x5)] → W p l e rmX3_rateFor s m args below meth c H locs 0 0 (qI E A post (fun u => cM E a u) below args s) (F0 m 116 ls [])) → W p l e rmX3_rateFor s m args below meth c H locs 0 0 (qI E A post (fun u => cM E a u) below args s) (F0 m 6 ls []) := by
  have hx := C0.1
  have hb := C0.2.1
  have hiX3 : ∀ w ∈ wsX30, w ∈ wsX3_rateFor := fun w h => List.mem_cons_of_mem _ (List.mem_append_right _ h)
  intro n
  induction n with
  | zero => intro x4 x5 v h; exact False.elim h
  | succ n ih =>
    intro x4 x5 v h H locs ls hw hl hk0
    replace h : sb_X3_rateFor_6 post f1 f2 f3 k0 (sl_X3_rateFor_6 post f1 f2 f3 k0 n) x4 x5 v := h
    unfold sb_X3_rateFor_6 at h
    refine lv_iload hx hb dX3_rateFor_6 (lv_at hl 5 rfl) ?_
    refine lv_bipush (v := 24) hx hb dX3_rateFor_8 (by decide) ?_
    refine lv_icmp_ge (tgt := 116) hx hb dX3_rateFor_10 (by decide) (fun c_9 => ?_) (fun c_9 => ?_)
    · replace h := h.1 c_9
      exact hk0 _ _ _ _ _ _ h hw (lv_sub hl [0, 1, 2, 3, 4, 5] rfl)
    · replace h := h.2 c_9
      refine lv_aload_n hx hb dX3_rateFor_13 rfl (lv_at hl 0 rfl) ?_
      refine x_get C0 hw 3 hiX3 rfl 1 rfl 3 (by decide) 1 rfl rfl dX3_rateFor_14 ?_
      refine lv_iload hx hb dX3_rateFor_17 (lv_at hl 5 rfl) ?_
      obtain ⟨hin, h⟩ := h
      refine x_ald C0 hw 5 rfl hin dX3_rateFor_19 ?_
      refine lv_if_eq (tgt := 110) hx hb dX3_rateFor_20 (by decide) (fun c_8 => ?_) (fun c_8 => ?_)
      · replace h := h.1 c_8
        refine lv_iinc (v := (x5 + 1)) (lv' := [(5, .int (x5 + 1)), (0, .ref (a 1)), (1, .int f1), (2, .int f2), (3, .int f3), (4, .int x4)]) hx hb dX3_rateFor_110 hl (k := 5) rfl rfl (by decide) rfl (fun ls hl => ?_)
        refine lv_goto (tgt := 6) hx hb dX3_rateFor_113 (by decide) ?_
        exact ih _ _ _ h _ _ _ hw (lv_sub hl [1, 2, 3, 4, 5, 0] rfl) hk0
      · replace h := h.2 c_8
        refine lv_aload_n hx hb dX3_rateFor_23 rfl (lv_at hl 0 rfl) ?_
        refine x_get C0 hw 3 hiX3 rfl 1 rfl 0 (by decide) 2 rfl rfl dX3_rateFor_24 ?_
        refine lv_iload hx hb dX3_rateFor_27 (lv_at hl 5 rfl) ?_
        obtain ⟨hin, h⟩ := h
        refine x_ald C0 hw 2 rfl hin dX3_rateFor_29 ?_
        refine lv_iload_n hx hb dX3_rateFor_30 rfl (lv_at hl 1 rfl) ?_
        refine lv_icmp_ne (tgt := 110) hx hb dX3_rateFor_31 (by decide) (fun c_7 => ?_) (fun c_7 => ?_)
        · replace h := h.1 c_7
          refine lv_iinc (v := (x5 + 1)) (lv' := [(5, .int (x5 + 1)), (0, .ref (a 1)), (1, .int f1), (2, .int f2), (3, .int f3), (4, .int x4)]) hx hb dX3_rateFor_110 hl (k := 5) rfl rfl (by decide) rfl (fun ls hl => ?_)
          refine lv_goto (tgt := 6) hx hb dX3_rateFor_113 (by decide) ?_
          exact ih _ _ _ h _ _ _ hw (lv_sub hl [1, 2, 3, 4, 5, 0] rfl) hk0
        · replace h := h.2 c_7
          refine lv_aload_n hx hb dX3_rateFor_34 rfl (lv_at hl 0 rfl) ?_
          refine x_get C0 hw 3 hiX3 rfl 1 rfl 1 (by decide) 3 rfl rfl dX3_rateFor_35 ?_
          refine lv_iload hx hb dX3_rateFor_38 (lv_at hl 5 rfl) ?_
          obtain ⟨hin, h⟩ := h
          refine x_ald C0 hw 3 rfl hin dX3_rateFor_40 ?_
          refine lv_iload_n hx hb dX3_rateFor_41 rfl (lv_at hl 2 rfl) ?_
          refine lv_icmp_lt (tgt := 110) hx hb dX3_rateFor_42 (by decide) (fun c_6 => ?_) (fun c_6 => ?_)
          · replace h := h.1 c_6
            refine lv_iinc (v := (x5 + 1)) (lv' := [(5, .int (x5 + 1)), (0, .ref (a 1)), (1, .int f1), (2, .int f2), (3, .int f3), (4, .int x4)]) hx hb dX3_rateFor_110 hl (k := 5) rfl rfl (by decide) rfl (fun ls hl => ?_)
            refine lv_goto (tgt := 6) hx hb dX3_rateFor_113 (by decide) ?_
            exact ih _ _ _ h _ _ _ hw (lv_sub hl [1, 2, 3, 4, 5, 0] rfl) hk0
          · replace h := h.2 c_6
            refine lv_aload_n hx hb dX3_rateFor_45 rfl (lv_at hl 0 rfl) ?_
            refine x_get C0 hw 3 hiX3 rfl 1 rfl 2 (by decide) 4 rfl rfl dX3_rateFor_46 ?_
            refine lv_iload hx hb dX3_rateFor_49 (lv_at hl 5 rfl) ?_
            obtain ⟨hin, h⟩ := h
            refine x_ald C0 hw 4 rfl hin dX3_rateFor_51 ?_
            refine lv_iload_n hx hb dX3_rateFor_52 rfl (lv_at hl 3 rfl) ?_
            refine lv_icmp_ge (tgt := 59) hx hb dX3_rateFor_53 (by decide) (fun c_5 => ?_) (fun c_5 => ?_)
            · replace h := h.1 c_5
              refine lv_aload_n hx hb dX3_rateFor_59 rfl (lv_at hl 0 rfl) ?_
              refine x_get C0 hw 3 hiX3 rfl 1 rfl 1 (by decide) 3 rfl rfl dX3_rateFor_60 ?_
              refine lv_iload hx hb dX3_rateFor_63 (lv_at hl 5 rfl) ?_
              obtain ⟨hin, h⟩ := h
              refine x_ald C0 hw 3 rfl hin dX3_rateFor_65 ?_
              refine lv_iload_n hx hb dX3_rateFor_66 rfl (lv_at hl 2 rfl) ?_
              refine lv_icmp_ne (tgt := 89) hx hb dX3_rateFor_67 (by decide) (fun c_4 => ?_) (fun c_4 => ?_)
              · replace h := h.1 c_4
                refine lv_aload_n hx hb dX3_rateFor_89 rfl (lv_at hl 0 rfl) ?_
                refine x_get C0 hw 3 hiX3 rfl 1 rfl 3 (by decide) 1 rfl rfl dX3_rateFor_90 ?_
                refine lv_iload hx hb dX3_rateFor_93 (lv_at hl 5 rfl) ?_
                obtain ⟨hin, h⟩ := h
                refine x_ald C0 hw 5 rfl hin dX3_rateFor_95 ?_
                refine lv_iload hx hb dX3_rateFor_96 (lv_at hl 4 rfl) ?_
                refine lv_icmp_le (tgt := 110) hx hb dX3_rateFor_98 (by decide) (fun c_1 => ?_) (fun c_1 => ?_)
                · replace h := h.1 c_1
                  refine lv_iinc (v := (x5 + 1)) (lv' := [(5, .int (x5 + 1)), (0, .ref (a 1)), (1, .int f1), (2, .int f2), (3, .int f3), (4, .int x4)]) hx hb dX3_rateFor_110 hl (k := 5) rfl rfl (by decide) rfl (fun ls hl => ?_)
                  refine lv_goto (tgt := 6) hx hb dX3_rateFor_113 (by decide) ?_
                  exact ih _ _ _ h _ _ _ hw (lv_sub hl [1, 2, 3, 4, 5, 0] rfl) hk0
                · replace h := h.2 c_1
                  refine lv_aload_n hx hb dX3_rateFor_101 rfl (lv_at hl 0 rfl) ?_
                  refine x_get C0 hw 3 hiX3 rfl 1 rfl 3 (by decide) 1 rfl rfl dX3_rateFor_102 ?_
                  refine lv_iload hx hb dX3_rateFor_105 (lv_at hl 5 rfl) ?_
                  obtain ⟨hin, h⟩ := h
                  refine x_ald C0 hw 5 rfl hin dX3_rateFor_107 ?_
                  refine lv_istore (lv' := [(4, .int (v 5 (tn x5))), (0, .ref (a 1)), (1, .int f1), (2, .int f2), (3, .int f3), (5, .int x5)]) hx hb dX3_rateFor_108 hl (by decide) rfl (fun ls hl => ?_)
                  refine lv_iinc (v := (x5 + 1)) (lv' := [(5, .int (x5 + 1)), (4, .int (v 5 (tn x5))), (0, .ref (a 1)), (1, .int f1), (2, .int f2), (3, .int f3)]) hx hb dX3_rateFor_110 hl (k := 5) rfl rfl (by decide) rfl (fun ls hl => ?_)
                  refine lv_goto (tgt := 6) hx hb dX3_rateFor_113 (by decide) ?_
                  exact ih _ _ _ h _ _ _ hw (lv_sub hl [2, 3, 4, 5, 1, 0] rfl) hk0
              · replace h := h.2 c_4
                refine lv_aload_n hx hb dX3_rateFor_70 rfl (lv_at hl 0 rfl) ?_
                refine x_get C0 hw 3 hiX3 rfl 1 rfl 2 (by decide) 4 rfl rfl dX3_rateFor_71 ?_
                refine lv_iload hx hb dX3_rateFor_74 (lv_at hl 5 rfl) ?_
                obtain ⟨hin, h⟩ := h
                refine x_ald C0 hw 4 rfl hin dX3_rateFor_76 ?_
                refine lv_iload_n hx hb dX3_rateFor_77 rfl (lv_at hl 3 rfl) ?_
                refine lv_icmp_ne (tgt := 89) hx hb dX3_rateFor_78 (by decide) (fun c_3 => ?_) (fun c_3 => ?_)
                · replace h := h.1 c_3
                  refine lv_aload_n hx hb dX3_rateFor_89 rfl (lv_at hl 0 rfl) ?_
                  refine x_get C0 hw 3 hiX3 rfl 1 rfl 3 (by decide) 1 rfl rfl dX3_rateFor_90 ?_
                  refine lv_iload hx hb dX3_rateFor_93 (lv_at hl 5 rfl) ?_
                  obtain ⟨hin, h⟩ := h
                  refine x_ald C0 hw 5 rfl hin dX3_rateFor_95 ?_
                  refine lv_iload hx hb dX3_rateFor_96 (lv_at hl 4 rfl) ?_
                  refine lv_icmp_le (tgt := 110) hx hb dX3_rateFor_98 (by decide) (fun c_2 => ?_) (fun c_2 => ?_)
                  · replace h := h.1 c_2
                    refine lv_iinc (v := (x5 + 1)) (lv' := [(5, .int (x5 + 1)), (0, .ref (a 1)), (1, .int f1), (2, .int f2), (3, .int f3), (4, .int x4)]) hx hb dX3_rateFor_110 hl (k := 5) rfl rfl (by decide) rfl (fun ls hl => ?_)
                    refine lv_goto (tgt := 6) hx hb dX3_rateFor_113 (by decide) ?_
                    exact ih _ _ _ h _ _ _ hw (lv_sub hl [1, 2, 3, 4, 5, 0] rfl) hk0
                  · replace h := h.2 c_2
                    refine lv_aload_n hx hb dX3_rateFor_101 rfl (lv_at hl 0 rfl) ?_
                    refine x_get C0 hw 3 hiX3 rfl 1 rfl 3 (by decide) 1 rfl rfl dX3_rateFor_102 ?_
                    refine lv_iload hx hb dX3_rateFor_105 (lv_at hl 5 rfl) ?_
                    obtain ⟨hin, h⟩ := h
                    refine x_ald C0 hw 5 rfl hin dX3_rateFor_107 ?_
                    refine lv_istore (lv' := [(4, .int (v 5 (tn x5))), (0, .ref (a 1)), (1, .int f1), (2, .int f2), (3, .int f3), (5, .int x5)]) hx hb dX3_rateFor_108 hl (by decide) rfl (fun ls hl => ?_)
                    refine lv_iinc (v := (x5 + 1)) (lv' := [(5, .int (x5 + 1)), (4, .int (v 5 (tn x5))), (0, .ref (a 1)), (1, .int f1), (2, .int f2), (3, .int f3)]) hx hb dX3_rateFor_110 hl (k := 5) rfl rfl (by decide) rfl (fun ls hl => ?_)
                    refine lv_goto (tgt := 6) hx hb dX3_rateFor_113 (by decide) ?_
                    exact ih _ _ _ h _ _ _ hw (lv_sub hl [2, 3, 4, 5, 1, 0] rfl) hk0
                · replace h := h.2 c_3
                  refine lv_aload_n hx hb dX3_rateFor_81 rfl (lv_at hl 0 rfl) ?_
                  refine x_get C0 hw 3 hiX3 rfl 1 rfl 3 (by decide) 1 rfl rfl dX3_rateFor_82 ?_
                  refine lv_iload hx hb dX3_rateFor_85 (lv_at hl 5 rfl) ?_
                  obtain ⟨hin, h⟩ := h
                  refine x_ald C0 hw 5 rfl hin dX3_rateFor_87 ?_
                  exact x_ret C0 v hw h dX3_rateFor_88
            · replace h := h.2 c_5
              refine lv_goto (tgt := 110) hx hb dX3_rateFor_56 (by decide) ?_
              refine lv_iinc (v := (x5 + 1)) (lv' := [(5, .int (x5 + 1)), (0, .ref (a 1)), (1, .int f1), (2, .int f2), (3, .int f3), (4, .int x4)]) hx hb dX3_rateFor_110 hl (k := 5) rfl rfl (by decide) rfl (fun ls hl => ?_)
              refine lv_goto (tgt := 6) hx hb dX3_rateFor_113 (by decide) ?_
              exact ih _ _ _ h _ _ _ hw (lv_sub hl [1, 2, 3, 4, 5, 0] rfl) hk0
set_option maxRecDepth 100000 in
set_option maxHeartbeats 4000000 in
theorem c_X3_rateFor (l : Launch) (E : EE) (a : Nat → Nat) {v : V}  {p1 : Int32} {p2 : Int32} {p3 : Int32} {post : Int32 → V → Prop} (h : s_X3_rateFor v p1 p2 p3 post) : KI l E yX3_rateFor wsX3_rateFor rmX3_rateFor [.ref (a 1), .int p1, .int p2, .int p3] (cM E a v) post (fun u => cM E a u) := by
  unfold s_X3_rateFor at h
  refine KI.go (cc := cX3_rateFor) (ret := (some .int)) (maxL := 6) (own := RX3) (by decide) rfl (Nat.le_of_ble_eq_true rfl) rfl (fun p e s m below meth c A ls C0 hw hl => ?_)
  have hx := C0.1
  have hb := C0.2.1
  have hiX3 : ∀ w ∈ wsX30, w ∈ wsX3_rateFor := fun w h => List.mem_cons_of_mem _ (List.mem_append_right _ h)
  replace hl : lv_has ls 6 [(0, .ref (a 1)), (1, .int p1), (2, .int p2), (3, .int p3)] := hl
  refine lv_iconst (v := 0) hx hb dX3_rateFor_0 (by decide) ?_
  refine lv_istore (lv' := [(4, .int 0), (0, .ref (a 1)), (1, .int p1), (2, .int p2), (3, .int p3)]) hx hb dX3_rateFor_1 hl (by decide) rfl (fun ls hl => ?_)
  refine lv_iconst (v := 0) hx hb dX3_rateFor_3 (by decide) ?_
  refine lv_istore (lv' := [(5, .int 0), (4, .int 0), (0, .ref (a 1)), (1, .int p1), (2, .int p2), (3, .int p3)]) hx hb dX3_rateFor_4 hl (by decide) rfl (fun ls hl => ?_)
  obtain ⟨n_10, h⟩ := h
  refine w_X3_rateFor_6 C0 _ _ _ _ h _ _ _ hw (lv_sub hl [2, 3, 4, 5, 1, 0] rfl) ?_
  · intro x4_11 x5_12 v_13 H locs ls h hw hl
    refine lv_iload hx hb dX3_rateFor_116 (lv_at hl 4 rfl) ?_
    exact x_ret C0 v_13 hw h dX3_rateFor_118
