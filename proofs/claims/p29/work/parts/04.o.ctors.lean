abbrev rmX3_init : Room := { frames := 1, cells := 4, slots := 96, locals := 12 }
set_option maxRecDepth 100000 in
set_option maxHeartbeats 8000000 in
theorem c_X3_init (l : Launch) (E : EE) (q : Nat) : KN l E yX3_init wsX3_init rmX3_init q [(q, .inr (3, [.null, .null, .null, .null]))] 4 96 (S := (Nat → Nat)) (fun u => u 0 = q) (fun u => c3 E u) := by
  refine KN.go (cc := cX3_init) (ret := none) (maxL := 1) (own := RX3) (by decide) rfl rfl (Nat.le_of_ble_eq_true rfl) rfl (fun p e s m below meth c A ls hin C0 hw hl => ?_)
  have hx := C0.1
  have hb := C0.2.1
  have hiX3 : ∀ w ∈ wsX30, w ∈ wsX3_init := fun w h => List.mem_cons_of_mem _ (List.mem_append_right _ h)
  replace hw : mw E A s.heap s.heap [] (List.flatten [[(q, .inr (3, [.null, .null, .null, .null]))]]) := hw
  refine lv_aload_n hx hb dX3_init_0 rfl (lv_at hl 0 rfl) ?_
  refine x_obj C0 hl.1 1 2 3 rfl rfl rfl (Nat.le_of_ble_eq_true rfl) (Nat.le_of_ble_eq_true rfl) dX3_init_1 ?_
  refine lv_aload_n hx hb dX3_init_4 rfl (lv_at hl 0 rfl) ?_
  refine lv_bipush (v := 24) hx hb dX3_init_5 (by decide) ?_
  refine x_newi (N := 24) C0 hw 4 rfl (by decide) rfl (Nat.le_of_ble_eq_true rfl) (Nat.le_of_ble_eq_true rfl) dX3_init_7 (fun q_1 H (hw : mw E A s.heap H _ (List.flatten [[(q, .inr (3, [.null, .null, .null, .null]))], [(q_1, .inl (E.2.1, 24, .inl (fun _ => 0)))]])) => ?_)
  refine x_putF (ws' := (List.flatten [[(q, .inr (3, [.ref q_1, .null, .null, .null]))], [(q_1, .inl (E.2.1, 24, .inl (fun _ => 0)))]])) C0 hin hw 3 hiX3 rfl tyX3 tyX3_ok nmX3 0 rfl 0 (by decide) 5 rfl rfl rfl rfl rfl (Nat.le_of_ble_eq_true rfl) rfl dX3_init_9 (fun H locs hw => ?_)
  refine lv_aload_n hx hb dX3_init_12 rfl (lv_at hl 0 rfl) ?_
  refine lv_bipush (v := 24) hx hb dX3_init_13 (by decide) ?_
  refine x_newi (N := 24) C0 hw 4 rfl (by decide) rfl (Nat.le_of_ble_eq_true rfl) (Nat.le_of_ble_eq_true rfl) dX3_init_15 (fun q_2 H (hw : mw E A s.heap H _ (List.flatten [[(q, .inr (3, [.ref q_1, .null, .null, .null]))], [(q_1, .inl (E.2.1, 24, .inl (fun _ => 0)))], [(q_2, .inl (E.2.1, 24, .inl (fun _ => 0)))]])) => ?_)
  refine x_putF (ws' := (List.flatten [[(q, .inr (3, [.ref q_1, .ref q_2, .null, .null]))], [(q_1, .inl (E.2.1, 24, .inl (fun _ => 0)))], [(q_2, .inl (E.2.1, 24, .inl (fun _ => 0)))]])) C0 hin hw 3 hiX3 rfl tyX3 tyX3_ok nmX3 0 rfl 1 (by decide) 6 rfl rfl rfl rfl rfl (Nat.le_of_ble_eq_true rfl) rfl dX3_init_17 (fun H locs hw => ?_)
  refine lv_aload_n hx hb dX3_init_20 rfl (lv_at hl 0 rfl) ?_
  refine lv_bipush (v := 24) hx hb dX3_init_21 (by decide) ?_
  refine x_newi (N := 24) C0 hw 4 rfl (by decide) rfl (Nat.le_of_ble_eq_true rfl) (Nat.le_of_ble_eq_true rfl) dX3_init_23 (fun q_3 H (hw : mw E A s.heap H _ (List.flatten [[(q, .inr (3, [.ref q_1, .ref q_2, .null, .null]))], [(q_1, .inl (E.2.1, 24, .inl (fun _ => 0)))], [(q_2, .inl (E.2.1, 24, .inl (fun _ => 0)))], [(q_3, .inl (E.2.1, 24, .inl (fun _ => 0)))]])) => ?_)
  refine x_putF (ws' := (List.flatten [[(q, .inr (3, [.ref q_1, .ref q_2, .ref q_3, .null]))], [(q_1, .inl (E.2.1, 24, .inl (fun _ => 0)))], [(q_2, .inl (E.2.1, 24, .inl (fun _ => 0)))], [(q_3, .inl (E.2.1, 24, .inl (fun _ => 0)))]])) C0 hin hw 3 hiX3 rfl tyX3 tyX3_ok nmX3 0 rfl 2 (by decide) 7 rfl rfl rfl rfl rfl (Nat.le_of_ble_eq_true rfl) rfl dX3_init_25 (fun H locs hw => ?_)
  refine lv_aload_n hx hb dX3_init_28 rfl (lv_at hl 0 rfl) ?_
  refine lv_bipush (v := 24) hx hb dX3_init_29 (by decide) ?_
  refine x_newi (N := 24) C0 hw 4 rfl (by decide) rfl (Nat.le_of_ble_eq_true rfl) (Nat.le_of_ble_eq_true rfl) dX3_init_31 (fun q_4 H (hw : mw E A s.heap H _ (List.flatten [[(q, .inr (3, [.ref q_1, .ref q_2, .ref q_3, .null]))], [(q_1, .inl (E.2.1, 24, .inl (fun _ => 0)))], [(q_2, .inl (E.2.1, 24, .inl (fun _ => 0)))], [(q_3, .inl (E.2.1, 24, .inl (fun _ => 0)))], [(q_4, .inl (E.2.1, 24, .inl (fun _ => 0)))]])) => ?_)
  refine x_putF (ws' := (List.flatten [[(q, .inr (3, [.ref q_1, .ref q_2, .ref q_3, .ref q_4]))], [(q_1, .inl (E.2.1, 24, .inl (fun _ => 0)))], [(q_2, .inl (E.2.1, 24, .inl (fun _ => 0)))], [(q_3, .inl (E.2.1, 24, .inl (fun _ => 0)))], [(q_4, .inl (E.2.1, 24, .inl (fun _ => 0)))]])) C0 hin hw 3 hiX3 rfl tyX3 tyX3_ok nmX3 0 rfl 3 (by decide) 8 rfl rfl rfl rfl rfl (Nat.le_of_ble_eq_true rfl) rfl dX3_init_33 (fun H locs hw => ?_)
  exact x_retN C0 (adr [q, q_1, q_2, q_3, q_4]) hw rfl (Nat.le_of_ble_eq_true rfl) (Nat.le_of_ble_eq_true rfl) dX3_init_36

abbrev rmX5_init : Room := { frames := 1, cells := 9, slots := 180, locals := 12 }
set_option maxRecDepth 100000 in
set_option maxHeartbeats 8000000 in
theorem c_X5_init (l : Launch) (E : EE) (q : Nat) : KN l E yX5_init wsX5_init rmX5_init q [(q, .inr (5, [.int 0, .null, .null, .null, .null, .null, .null, .null, .null, .null]))] 9 180 (S := (Nat → Nat)) (fun u => u 0 = q) (fun u => c5 E u) := by
  refine KN.go (cc := cX5_init) (ret := none) (maxL := 1) (own := RX5) (by decide) rfl rfl (Nat.le_of_ble_eq_true rfl) rfl (fun p e s m below meth c A ls hin C0 hw hl => ?_)
  have hx := C0.1
  have hb := C0.2.1
  have hiX5 : ∀ w ∈ wsX50, w ∈ wsX5_init := fun w h => List.mem_cons_of_mem _ (List.mem_append_right _ h)
  replace hw : mw E A s.heap s.heap [] (List.flatten [[(q, .inr (5, [.int 0, .null, .null, .null, .null, .null, .null, .null, .null, .null]))]]) := hw
  refine lv_aload_n hx hb dX5_init_0 rfl (lv_at hl 0 rfl) ?_
  refine x_obj C0 hl.1 1 2 3 rfl rfl rfl (Nat.le_of_ble_eq_true rfl) (Nat.le_of_ble_eq_true rfl) dX5_init_1 ?_
  refine lv_aload_n hx hb dX5_init_4 rfl (lv_at hl 0 rfl) ?_
  refine lv_iconst (v := 0) hx hb dX5_init_5 (by decide) ?_
  refine x_put (ws' := (List.flatten [[(q, .inr (5, [.int 0, .null, .null, .null, .null, .null, .null, .null, .null, .null]))]])) C0 hw 5 hiX5 rfl tyX5 tyX5_ok nmX5 0 rfl 0 (by decide) 4 rfl rfl rfl rfl (Nat.le_of_ble_eq_true rfl) rfl dX5_init_6 (fun H locs hw => ?_)
  refine lv_aload_n hx hb dX5_init_9 rfl (lv_at hl 0 rfl) ?_
  refine lv_bipush (v := 20) hx hb dX5_init_10 (by decide) ?_
  refine x_newi (N := 20) C0 hw 5 rfl (by decide) rfl (Nat.le_of_ble_eq_true rfl) (Nat.le_of_ble_eq_true rfl) dX5_init_12 (fun q_1 H (hw : mw E A s.heap H _ (List.flatten [[(q, .inr (5, [.int 0, .null, .null, .null, .null, .null, .null, .null, .null, .null]))], [(q_1, .inl (E.2.1, 20, .inl (fun _ => 0)))]])) => ?_)
  refine x_putF (ws' := (List.flatten [[(q, .inr (5, [.int 0, .ref q_1, .null, .null, .null, .null, .null, .null, .null, .null]))], [(q_1, .inl (E.2.1, 20, .inl (fun _ => 0)))]])) C0 hin hw 5 hiX5 rfl tyX5 tyX5_ok nmX5 0 rfl 1 (by decide) 6 rfl rfl rfl rfl rfl (Nat.le_of_ble_eq_true rfl) rfl dX5_init_14 (fun H locs hw => ?_)
  refine lv_aload_n hx hb dX5_init_17 rfl (lv_at hl 0 rfl) ?_
  refine lv_bipush (v := 20) hx hb dX5_init_18 (by decide) ?_
  refine x_newi (N := 20) C0 hw 5 rfl (by decide) rfl (Nat.le_of_ble_eq_true rfl) (Nat.le_of_ble_eq_true rfl) dX5_init_20 (fun q_2 H (hw : mw E A s.heap H _ (List.flatten [[(q, .inr (5, [.int 0, .ref q_1, .null, .null, .null, .null, .null, .null, .null, .null]))], [(q_1, .inl (E.2.1, 20, .inl (fun _ => 0)))], [(q_2, .inl (E.2.1, 20, .inl (fun _ => 0)))]])) => ?_)
  refine x_putF (ws' := (List.flatten [[(q, .inr (5, [.int 0, .ref q_1, .ref q_2, .null, .null, .null, .null, .null, .null, .null]))], [(q_1, .inl (E.2.1, 20, .inl (fun _ => 0)))], [(q_2, .inl (E.2.1, 20, .inl (fun _ => 0)))]])) C0 hin hw 5 hiX5 rfl tyX5 tyX5_ok nmX5 0 rfl 2 (by decide) 7 rfl rfl rfl rfl rfl (Nat.le_of_ble_eq_true rfl) rfl dX5_init_22 (fun H locs hw => ?_)
  refine lv_aload_n hx hb dX5_init_25 rfl (lv_at hl 0 rfl) ?_
  refine lv_bipush (v := 20) hx hb dX5_init_26 (by decide) ?_
  refine x_newi (N := 20) C0 hw 5 rfl (by decide) rfl (Nat.le_of_ble_eq_true rfl) (Nat.le_of_ble_eq_true rfl) dX5_init_28 (fun q_3 H (hw : mw E A s.heap H _ (List.flatten [[(q, .inr (5, [.int 0, .ref q_1, .ref q_2, .null, .null, .null, .null, .null, .null, .null]))], [(q_1, .inl (E.2.1, 20, .inl (fun _ => 0)))], [(q_2, .inl (E.2.1, 20, .inl (fun _ => 0)))], [(q_3, .inl (E.2.1, 20, .inl (fun _ => 0)))]])) => ?_)
  refine x_putF (ws' := (List.flatten [[(q, .inr (5, [.int 0, .ref q_1, .ref q_2, .ref q_3, .null, .null, .null, .null, .null, .null]))], [(q_1, .inl (E.2.1, 20, .inl (fun _ => 0)))], [(q_2, .inl (E.2.1, 20, .inl (fun _ => 0)))], [(q_3, .inl (E.2.1, 20, .inl (fun _ => 0)))]])) C0 hin hw 5 hiX5 rfl tyX5 tyX5_ok nmX5 0 rfl 3 (by decide) 8 rfl rfl rfl rfl rfl (Nat.le_of_ble_eq_true rfl) rfl dX5_init_30 (fun H locs hw => ?_)
  refine lv_aload_n hx hb dX5_init_33 rfl (lv_at hl 0 rfl) ?_
  refine lv_bipush (v := 20) hx hb dX5_init_34 (by decide) ?_
  refine x_newi (N := 20) C0 hw 5 rfl (by decide) rfl (Nat.le_of_ble_eq_true rfl) (Nat.le_of_ble_eq_true rfl) dX5_init_36 (fun q_4 H (hw : mw E A s.heap H _ (List.flatten [[(q, .inr (5, [.int 0, .ref q_1, .ref q_2, .ref q_3, .null, .null, .null, .null, .null, .null]))], [(q_1, .inl (E.2.1, 20, .inl (fun _ => 0)))], [(q_2, .inl (E.2.1, 20, .inl (fun _ => 0)))], [(q_3, .inl (E.2.1, 20, .inl (fun _ => 0)))], [(q_4, .inl (E.2.1, 20, .inl (fun _ => 0)))]])) => ?_)
  refine x_putF (ws' := (List.flatten [[(q, .inr (5, [.int 0, .ref q_1, .ref q_2, .ref q_3, .ref q_4, .null, .null, .null, .null, .null]))], [(q_1, .inl (E.2.1, 20, .inl (fun _ => 0)))], [(q_2, .inl (E.2.1, 20, .inl (fun _ => 0)))], [(q_3, .inl (E.2.1, 20, .inl (fun _ => 0)))], [(q_4, .inl (E.2.1, 20, .inl (fun _ => 0)))]])) C0 hin hw 5 hiX5 rfl tyX5 tyX5_ok nmX5 0 rfl 4 (by decide) 9 rfl rfl rfl rfl rfl (Nat.le_of_ble_eq_true rfl) rfl dX5_init_38 (fun H locs hw => ?_)
  refine lv_aload_n hx hb dX5_init_41 rfl (lv_at hl 0 rfl) ?_
  refine lv_bipush (v := 20) hx hb dX5_init_42 (by decide) ?_
  refine x_newi (N := 20) C0 hw 5 rfl (by decide) rfl (Nat.le_of_ble_eq_true rfl) (Nat.le_of_ble_eq_true rfl) dX5_init_44 (fun q_5 H (hw : mw E A s.heap H _ (List.flatten [[(q, .inr (5, [.int 0, .ref q_1, .ref q_2, .ref q_3, .ref q_4, .null, .null, .null, .null, .null]))], [(q_1, .inl (E.2.1, 20, .inl (fun _ => 0)))], [(q_2, .inl (E.2.1, 20, .inl (fun _ => 0)))], [(q_3, .inl (E.2.1, 20, .inl (fun _ => 0)))], [(q_4, .inl (E.2.1, 20, .inl (fun _ => 0)))], [(q_5, .inl (E.2.1, 20, .inl (fun _ => 0)))]])) => ?_)
  refine x_putF (ws' := (List.flatten [[(q, .inr (5, [.int 0, .ref q_1, .ref q_2, .ref q_3, .ref q_4, .ref q_5, .null, .null, .null, .null]))], [(q_1, .inl (E.2.1, 20, .inl (fun _ => 0)))], [(q_2, .inl (E.2.1, 20, .inl (fun _ => 0)))], [(q_3, .inl (E.2.1, 20, .inl (fun _ => 0)))], [(q_4, .inl (E.2.1, 20, .inl (fun _ => 0)))], [(q_5, .inl (E.2.1, 20, .inl (fun _ => 0)))]])) C0 hin hw 5 hiX5 rfl tyX5 tyX5_ok nmX5 0 rfl 5 (by decide) 10 rfl rfl rfl rfl rfl (Nat.le_of_ble_eq_true rfl) rfl dX5_init_46 (fun H locs hw => ?_)
  refine lv_aload_n hx hb dX5_init_49 rfl (lv_at hl 0 rfl) ?_
  refine lv_bipush (v := 20) hx hb dX5_init_50 (by decide) ?_
  refine x_newi (N := 20) C0 hw 5 rfl (by decide) rfl (Nat.le_of_ble_eq_true rfl) (Nat.le_of_ble_eq_true rfl) dX5_init_52 (fun q_6 H (hw : mw E A s.heap H _ (List.flatten [[(q, .inr (5, [.int 0, .ref q_1, .ref q_2, .ref q_3, .ref q_4, .ref q_5, .null, .null, .null, .null]))], [(q_1, .inl (E.2.1, 20, .inl (fun _ => 0)))], [(q_2, .inl (E.2.1, 20, .inl (fun _ => 0)))], [(q_3, .inl (E.2.1, 20, .inl (fun _ => 0)))], [(q_4, .inl (E.2.1, 20, .inl (fun _ => 0)))], [(q_5, .inl (E.2.1, 20, .inl (fun _ => 0)))], [(q_6, .inl (E.2.1, 20, .inl (fun _ => 0)))]])) => ?_)
  refine x_putF (ws' := (List.flatten [[(q, .inr (5, [.int 0, .ref q_1, .ref q_2, .ref q_3, .ref q_4, .ref q_5, .ref q_6, .null, .null, .null]))], [(q_1, .inl (E.2.1, 20, .inl (fun _ => 0)))], [(q_2, .inl (E.2.1, 20, .inl (fun _ => 0)))], [(q_3, .inl (E.2.1, 20, .inl (fun _ => 0)))], [(q_4, .inl (E.2.1, 20, .inl (fun _ => 0)))], [(q_5, .inl (E.2.1, 20, .inl (fun _ => 0)))], [(q_6, .inl (E.2.1, 20, .inl (fun _ => 0)))]])) C0 hin hw 5 hiX5 rfl tyX5 tyX5_ok nmX5 0 rfl 6 (by decide) 11 rfl rfl rfl rfl rfl (Nat.le_of_ble_eq_true rfl) rfl dX5_init_54 (fun H locs hw => ?_)
  refine lv_aload_n hx hb dX5_init_57 rfl (lv_at hl 0 rfl) ?_
  refine lv_bipush (v := 20) hx hb dX5_init_58 (by decide) ?_
  refine x_newi (N := 20) C0 hw 5 rfl (by decide) rfl (Nat.le_of_ble_eq_true rfl) (Nat.le_of_ble_eq_true rfl) dX5_init_60 (fun q_7 H (hw : mw E A s.heap H _ (List.flatten [[(q, .inr (5, [.int 0, .ref q_1, .ref q_2, .ref q_3, .ref q_4, .ref q_5, .ref q_6, .null, .null, .null]))], [(q_1, .inl (E.2.1, 20, .inl (fun _ => 0)))], [(q_2, .inl (E.2.1, 20, .inl (fun _ => 0)))], [(q_3, .inl (E.2.1, 20, .inl (fun _ => 0)))], [(q_4, .inl (E.2.1, 20, .inl (fun _ => 0)))], [(q_5, .inl (E.2.1, 20, .inl (fun _ => 0)))], [(q_6, .inl (E.2.1, 20, .inl (fun _ => 0)))], [(q_7, .inl (E.2.1, 20, .inl (fun _ => 0)))]])) => ?_)
  refine x_putF (ws' := (List.flatten [[(q, .inr (5, [.int 0, .ref q_1, .ref q_2, .ref q_3, .ref q_4, .ref q_5, .ref q_6, .ref q_7, .null, .null]))], [(q_1, .inl (E.2.1, 20, .inl (fun _ => 0)))], [(q_2, .inl (E.2.1, 20, .inl (fun _ => 0)))], [(q_3, .inl (E.2.1, 20, .inl (fun _ => 0)))], [(q_4, .inl (E.2.1, 20, .inl (fun _ => 0)))], [(q_5, .inl (E.2.1, 20, .inl (fun _ => 0)))], [(q_6, .inl (E.2.1, 20, .inl (fun _ => 0)))], [(q_7, .inl (E.2.1, 20, .inl (fun _ => 0)))]])) C0 hin hw 5 hiX5 rfl tyX5 tyX5_ok nmX5 0 rfl 7 (by decide) 12 rfl rfl rfl rfl rfl (Nat.le_of_ble_eq_true rfl) rfl dX5_init_62 (fun H locs hw => ?_)
  refine lv_aload_n hx hb dX5_init_65 rfl (lv_at hl 0 rfl) ?_
  refine lv_bipush (v := 20) hx hb dX5_init_66 (by decide) ?_
  refine x_newi (N := 20) C0 hw 5 rfl (by decide) rfl (Nat.le_of_ble_eq_true rfl) (Nat.le_of_ble_eq_true rfl) dX5_init_68 (fun q_8 H (hw : mw E A s.heap H _ (List.flatten [[(q, .inr (5, [.int 0, .ref q_1, .ref q_2, .ref q_3, .ref q_4, .ref q_5, .ref q_6, .ref q_7, .null, .null]))], [(q_1, .inl (E.2.1, 20, .inl (fun _ => 0)))], [(q_2, .inl (E.2.1, 20, .inl (fun _ => 0)))], [(q_3, .inl (E.2.1, 20, .inl (fun _ => 0)))], [(q_4, .inl (E.2.1, 20, .inl (fun _ => 0)))], [(q_5, .inl (E.2.1, 20, .inl (fun _ => 0)))], [(q_6, .inl (E.2.1, 20, .inl (fun _ => 0)))], [(q_7, .inl (E.2.1, 20, .inl (fun _ => 0)))], [(q_8, .inl (E.2.1, 20, .inl (fun _ => 0)))]])) => ?_)
  refine x_putF (ws' := (List.flatten [[(q, .inr (5, [.int 0, .ref q_1, .ref q_2, .ref q_3, .ref q_4, .ref q_5, .ref q_6, .ref q_7, .ref q_8, .null]))], [(q_1, .inl (E.2.1, 20, .inl (fun _ => 0)))], [(q_2, .inl (E.2.1, 20, .inl (fun _ => 0)))], [(q_3, .inl (E.2.1, 20, .inl (fun _ => 0)))], [(q_4, .inl (E.2.1, 20, .inl (fun _ => 0)))], [(q_5, .inl (E.2.1, 20, .inl (fun _ => 0)))], [(q_6, .inl (E.2.1, 20, .inl (fun _ => 0)))], [(q_7, .inl (E.2.1, 20, .inl (fun _ => 0)))], [(q_8, .inl (E.2.1, 20, .inl (fun _ => 0)))]])) C0 hin hw 5 hiX5 rfl tyX5 tyX5_ok nmX5 0 rfl 8 (by decide) 13 rfl rfl rfl rfl rfl (Nat.le_of_ble_eq_true rfl) rfl dX5_init_70 (fun H locs hw => ?_)
  refine lv_aload_n hx hb dX5_init_73 rfl (lv_at hl 0 rfl) ?_
  refine lv_bipush (v := 20) hx hb dX5_init_74 (by decide) ?_
  refine x_newi (N := 20) C0 hw 5 rfl (by decide) rfl (Nat.le_of_ble_eq_true rfl) (Nat.le_of_ble_eq_true rfl) dX5_init_76 (fun q_9 H (hw : mw E A s.heap H _ (List.flatten [[(q, .inr (5, [.int 0, .ref q_1, .ref q_2, .ref q_3, .ref q_4, .ref q_5, .ref q_6, .ref q_7, .ref q_8, .null]))], [(q_1, .inl (E.2.1, 20, .inl (fun _ => 0)))], [(q_2, .inl (E.2.1, 20, .inl (fun _ => 0)))], [(q_3, .inl (E.2.1, 20, .inl (fun _ => 0)))], [(q_4, .inl (E.2.1, 20, .inl (fun _ => 0)))], [(q_5, .inl (E.2.1, 20, .inl (fun _ => 0)))], [(q_6, .inl (E.2.1, 20, .inl (fun _ => 0)))], [(q_7, .inl (E.2.1, 20, .inl (fun _ => 0)))], [(q_8, .inl (E.2.1, 20, .inl (fun _ => 0)))], [(q_9, .inl (E.2.1, 20, .inl (fun _ => 0)))]])) => ?_)
  refine x_putF (ws' := (List.flatten [[(q, .inr (5, [.int 0, .ref q_1, .ref q_2, .ref q_3, .ref q_4, .ref q_5, .ref q_6, .ref q_7, .ref q_8, .ref q_9]))], [(q_1, .inl (E.2.1, 20, .inl (fun _ => 0)))], [(q_2, .inl (E.2.1, 20, .inl (fun _ => 0)))], [(q_3, .inl (E.2.1, 20, .inl (fun _ => 0)))], [(q_4, .inl (E.2.1, 20, .inl (fun _ => 0)))], [(q_5, .inl (E.2.1, 20, .inl (fun _ => 0)))], [(q_6, .inl (E.2.1, 20, .inl (fun _ => 0)))], [(q_7, .inl (E.2.1, 20, .inl (fun _ => 0)))], [(q_8, .inl (E.2.1, 20, .inl (fun _ => 0)))], [(q_9, .inl (E.2.1, 20, .inl (fun _ => 0)))]])) C0 hin hw 5 hiX5 rfl tyX5 tyX5_ok nmX5 0 rfl 9 (by decide) 14 rfl rfl rfl rfl rfl (Nat.le_of_ble_eq_true rfl) rfl dX5_init_78 (fun H locs hw => ?_)
  exact x_retN C0 (adr [q, q_1, q_2, q_3, q_4, q_5, q_6, q_7, q_8, q_9]) hw rfl (Nat.le_of_ble_eq_true rfl) (Nat.le_of_ble_eq_true rfl) dX5_init_81

abbrev rmX2_init : Room := { frames := 1, cells := 5, slots := 50, locals := 12 }
set_option maxRecDepth 100000 in
set_option maxHeartbeats 8000000 in
theorem c_X2_init (l : Launch) (E : EE) (q : Nat) : KN l E yX2_init wsX2_init rmX2_init q [(q, .inr (2, [.int 0, .null, .null, .null, .null, .null]))] 5 50 (S := (Nat → Nat)) (fun u => u 0 = q) (fun u => c2 E u) := by
  refine KN.go (cc := cX2_init) (ret := none) (maxL := 1) (own := RX2) (by decide) rfl rfl (Nat.le_of_ble_eq_true rfl) rfl (fun p e s m below meth c A ls hin C0 hw hl => ?_)
  have hx := C0.1
  have hb := C0.2.1
  have hiX2 : ∀ w ∈ wsX20, w ∈ wsX2_init := fun w h => List.mem_cons_of_mem _ (List.mem_append_right _ h)
  replace hw : mw E A s.heap s.heap [] (List.flatten [[(q, .inr (2, [.int 0, .null, .null, .null, .null, .null]))]]) := hw
  refine lv_aload_n hx hb dX2_init_0 rfl (lv_at hl 0 rfl) ?_
  refine x_obj C0 hl.1 1 2 3 rfl rfl rfl (Nat.le_of_ble_eq_true rfl) (Nat.le_of_ble_eq_true rfl) dX2_init_1 ?_
  refine lv_aload_n hx hb dX2_init_4 rfl (lv_at hl 0 rfl) ?_
  refine lv_iconst (v := 0) hx hb dX2_init_5 (by decide) ?_
  refine x_put (ws' := (List.flatten [[(q, .inr (2, [.int 0, .null, .null, .null, .null, .null]))]])) C0 hw 2 hiX2 rfl tyX2 tyX2_ok nmX2 0 rfl 0 (by decide) 4 rfl rfl rfl rfl (Nat.le_of_ble_eq_true rfl) rfl dX2_init_6 (fun H locs hw => ?_)
  refine lv_aload_n hx hb dX2_init_9 rfl (lv_at hl 0 rfl) ?_
  refine lv_bipush (v := 10) hx hb dX2_init_10 (by decide) ?_
  refine x_newi (N := 10) C0 hw 5 rfl (by decide) rfl (Nat.le_of_ble_eq_true rfl) (Nat.le_of_ble_eq_true rfl) dX2_init_12 (fun q_1 H (hw : mw E A s.heap H _ (List.flatten [[(q, .inr (2, [.int 0, .null, .null, .null, .null, .null]))], [(q_1, .inl (E.2.1, 10, .inl (fun _ => 0)))]])) => ?_)
  refine x_putF (ws' := (List.flatten [[(q, .inr (2, [.int 0, .ref q_1, .null, .null, .null, .null]))], [(q_1, .inl (E.2.1, 10, .inl (fun _ => 0)))]])) C0 hin hw 2 hiX2 rfl tyX2 tyX2_ok nmX2 0 rfl 1 (by decide) 6 rfl rfl rfl rfl rfl (Nat.le_of_ble_eq_true rfl) rfl dX2_init_14 (fun H locs hw => ?_)
  refine lv_aload_n hx hb dX2_init_17 rfl (lv_at hl 0 rfl) ?_
  refine lv_bipush (v := 10) hx hb dX2_init_18 (by decide) ?_
  refine x_newi (N := 10) C0 hw 5 rfl (by decide) rfl (Nat.le_of_ble_eq_true rfl) (Nat.le_of_ble_eq_true rfl) dX2_init_20 (fun q_2 H (hw : mw E A s.heap H _ (List.flatten [[(q, .inr (2, [.int 0, .ref q_1, .null, .null, .null, .null]))], [(q_1, .inl (E.2.1, 10, .inl (fun _ => 0)))], [(q_2, .inl (E.2.1, 10, .inl (fun _ => 0)))]])) => ?_)
  refine x_putF (ws' := (List.flatten [[(q, .inr (2, [.int 0, .ref q_1, .ref q_2, .null, .null, .null]))], [(q_1, .inl (E.2.1, 10, .inl (fun _ => 0)))], [(q_2, .inl (E.2.1, 10, .inl (fun _ => 0)))]])) C0 hin hw 2 hiX2 rfl tyX2 tyX2_ok nmX2 0 rfl 2 (by decide) 7 rfl rfl rfl rfl rfl (Nat.le_of_ble_eq_true rfl) rfl dX2_init_22 (fun H locs hw => ?_)
  refine lv_aload_n hx hb dX2_init_25 rfl (lv_at hl 0 rfl) ?_
  refine lv_bipush (v := 10) hx hb dX2_init_26 (by decide) ?_
  refine x_newi (N := 10) C0 hw 5 rfl (by decide) rfl (Nat.le_of_ble_eq_true rfl) (Nat.le_of_ble_eq_true rfl) dX2_init_28 (fun q_3 H (hw : mw E A s.heap H _ (List.flatten [[(q, .inr (2, [.int 0, .ref q_1, .ref q_2, .null, .null, .null]))], [(q_1, .inl (E.2.1, 10, .inl (fun _ => 0)))], [(q_2, .inl (E.2.1, 10, .inl (fun _ => 0)))], [(q_3, .inl (E.2.1, 10, .inl (fun _ => 0)))]])) => ?_)
  refine x_putF (ws' := (List.flatten [[(q, .inr (2, [.int 0, .ref q_1, .ref q_2, .ref q_3, .null, .null]))], [(q_1, .inl (E.2.1, 10, .inl (fun _ => 0)))], [(q_2, .inl (E.2.1, 10, .inl (fun _ => 0)))], [(q_3, .inl (E.2.1, 10, .inl (fun _ => 0)))]])) C0 hin hw 2 hiX2 rfl tyX2 tyX2_ok nmX2 0 rfl 3 (by decide) 8 rfl rfl rfl rfl rfl (Nat.le_of_ble_eq_true rfl) rfl dX2_init_30 (fun H locs hw => ?_)
  refine lv_aload_n hx hb dX2_init_33 rfl (lv_at hl 0 rfl) ?_
  refine lv_bipush (v := 10) hx hb dX2_init_34 (by decide) ?_
  refine x_newi (N := 10) C0 hw 5 rfl (by decide) rfl (Nat.le_of_ble_eq_true rfl) (Nat.le_of_ble_eq_true rfl) dX2_init_36 (fun q_4 H (hw : mw E A s.heap H _ (List.flatten [[(q, .inr (2, [.int 0, .ref q_1, .ref q_2, .ref q_3, .null, .null]))], [(q_1, .inl (E.2.1, 10, .inl (fun _ => 0)))], [(q_2, .inl (E.2.1, 10, .inl (fun _ => 0)))], [(q_3, .inl (E.2.1, 10, .inl (fun _ => 0)))], [(q_4, .inl (E.2.1, 10, .inl (fun _ => 0)))]])) => ?_)
  refine x_putF (ws' := (List.flatten [[(q, .inr (2, [.int 0, .ref q_1, .ref q_2, .ref q_3, .ref q_4, .null]))], [(q_1, .inl (E.2.1, 10, .inl (fun _ => 0)))], [(q_2, .inl (E.2.1, 10, .inl (fun _ => 0)))], [(q_3, .inl (E.2.1, 10, .inl (fun _ => 0)))], [(q_4, .inl (E.2.1, 10, .inl (fun _ => 0)))]])) C0 hin hw 2 hiX2 rfl tyX2 tyX2_ok nmX2 0 rfl 4 (by decide) 9 rfl rfl rfl rfl rfl (Nat.le_of_ble_eq_true rfl) rfl dX2_init_38 (fun H locs hw => ?_)
  refine lv_aload_n hx hb dX2_init_41 rfl (lv_at hl 0 rfl) ?_
  refine lv_bipush (v := 10) hx hb dX2_init_42 (by decide) ?_
  refine x_newi (N := 10) C0 hw 5 rfl (by decide) rfl (Nat.le_of_ble_eq_true rfl) (Nat.le_of_ble_eq_true rfl) dX2_init_44 (fun q_5 H (hw : mw E A s.heap H _ (List.flatten [[(q, .inr (2, [.int 0, .ref q_1, .ref q_2, .ref q_3, .ref q_4, .null]))], [(q_1, .inl (E.2.1, 10, .inl (fun _ => 0)))], [(q_2, .inl (E.2.1, 10, .inl (fun _ => 0)))], [(q_3, .inl (E.2.1, 10, .inl (fun _ => 0)))], [(q_4, .inl (E.2.1, 10, .inl (fun _ => 0)))], [(q_5, .inl (E.2.1, 10, .inl (fun _ => 0)))]])) => ?_)
  refine x_putF (ws' := (List.flatten [[(q, .inr (2, [.int 0, .ref q_1, .ref q_2, .ref q_3, .ref q_4, .ref q_5]))], [(q_1, .inl (E.2.1, 10, .inl (fun _ => 0)))], [(q_2, .inl (E.2.1, 10, .inl (fun _ => 0)))], [(q_3, .inl (E.2.1, 10, .inl (fun _ => 0)))], [(q_4, .inl (E.2.1, 10, .inl (fun _ => 0)))], [(q_5, .inl (E.2.1, 10, .inl (fun _ => 0)))]])) C0 hin hw 2 hiX2 rfl tyX2 tyX2_ok nmX2 0 rfl 5 (by decide) 10 rfl rfl rfl rfl rfl (Nat.le_of_ble_eq_true rfl) rfl dX2_init_46 (fun H locs hw => ?_)
  exact x_retN C0 (adr [q, q_1, q_2, q_3, q_4, q_5]) hw rfl (Nat.le_of_ble_eq_true rfl) (Nat.le_of_ble_eq_true rfl) dX2_init_49

abbrev rmX1_init : Room := { frames := 2, cells := 22, slots := 352, locals := 32 }
set_option maxRecDepth 100000 in
set_option maxHeartbeats 8000000 in
theorem c_X1_init (l : Launch) (E : EE) (q : Nat) : KN l E yX1_init wsX1_init rmX1_init q [(q, .inr (1, [.null, .null, .null, .null, .int 0, .int 0, .int 0, .int 0, .int 0]))] 22 352 (S := (Nat → Nat)) (fun u => u 0 = q) (fun u => cM E u iM) := by
  refine KN.go (cc := cX1_init) (ret := none) (maxL := 1) (own := RX1) (by decide) rfl rfl (Nat.le_of_ble_eq_true rfl) rfl (fun p e s m below meth c A ls hin C0 hw hl => ?_)
  have hx := C0.1
  have hb := C0.2.1
  have hiX1 : ∀ w ∈ wsX10, w ∈ wsX1_init := fun w h => List.mem_cons_of_mem _ (List.mem_append_left _ (List.mem_append_left _ (List.mem_append_right _ h)))
  have hiX2 : ∀ w ∈ wsX20, w ∈ wsX1_init := fun w h => List.mem_cons_of_mem _ (List.mem_append_right _ h)
  have hiX3 : ∀ w ∈ wsX30, w ∈ wsX1_init := fun w h => List.mem_cons_of_mem _ (List.mem_append_left _ (List.mem_append_left _ (List.mem_append_left _ (List.mem_append_right _ h))))
  have hiX5 : ∀ w ∈ wsX50, w ∈ wsX1_init := fun w h => List.mem_cons_of_mem _ (List.mem_append_left _ (List.mem_append_right _ h))
  replace hw : mw E A s.heap s.heap [] (List.flatten [[(q, .inr (1, [.null, .null, .null, .null, .int 0, .int 0, .int 0, .int 0, .int 0]))]]) := hw
  refine lv_aload_n hx hb dX1_init_0 rfl (lv_at hl 0 rfl) ?_
  refine x_obj C0 hl.1 1 2 3 rfl rfl rfl (Nat.le_of_ble_eq_true rfl) (Nat.le_of_ble_eq_true rfl) dX1_init_1 ?_
  refine lv_aload_n hx hb dX1_init_4 rfl (lv_at hl 0 rfl) ?_
  refine x_new C0 hw 3 hiX3 rfl tyX3 tyX3_ok 4 5 6 rfl rfl rfl (fs := [.null, .null, .null, .null]) (fun j hj => by rcases (show j = 0 ∨ j = 1 ∨ j = 2 ∨ j = 3 by omega) with rfl | rfl | rfl | rfl <;> rfl) (Nat.le_of_ble_eq_true rfl) (Nat.le_of_ble_eq_true rfl) dX1_init_5 (fun q_1 H (hw : mw E A s.heap H _ (List.flatten [[(q, .inr (1, [.null, .null, .null, .null, .int 0, .int 0, .int 0, .int 0, .int 0]))], [(q_1, .inr (3, [.null, .null, .null, .null]))]])) => ?_)
  refine lv_dup hx hb dX1_init_8 rfl ?_
  refine x_cIN (rest := [.ref q_1, .ref q]) (F := (List.flatten [[(q, .inr (1, [.null, .null, .null, .null, .int 0, .int 0, .int 0, .int 0, .int 0]))]])) C0 hw (p_fl1 (d := [(q_1, .inr (3, [.null, .null, .null, .null]))]) ((p_pk _ 1 _ rfl).trans (List.Perm.cons _ (List.Perm.refl _)))) hl.1 (c_X3_init l E q_1) gX1_init_X3_init_n11 rfl ⟨rfl, rfl⟩ 6 1 23 rfl rfl rfl rfl (by decide +kernel) ⟨(Nat.le_of_ble_eq_true rfl), (Nat.le_of_ble_eq_true rfl)⟩ rfl (Nat.le_of_ble_eq_true rfl) dX1_init_9 ⟨(Nat.le_of_ble_eq_true rfl), (Nat.le_of_ble_eq_true rfl)⟩ (fun b_2 H locs e_q_1 hv => ?_)
  replace e_q_1 : b_2 0 = q_1 := e_q_1
  subst e_q_1
  have hw : mw E A s.heap H locs (List.flatten [[(q, .inr (1, [.null, .null, .null, .null, .int 0, .int 0, .int 0, .int 0, .int 0]))], c3 E b_2]) := hv.perm (p_bk1 (d := c3 E b_2) ((p_pk _ 1 _ rfl).trans (List.Perm.cons _ (List.Perm.refl _))))
  refine x_putF (ws' := (List.flatten [[(q, .inr (1, [.ref (b_2 0), .null, .null, .null, .int 0, .int 0, .int 0, .int 0, .int 0]))], c3 E b_2])) C0 hin hw 1 hiX1 rfl tyX1 tyX1_ok nmX1 0 rfl 0 (by decide) 7 rfl rfl rfl rfl rfl (Nat.le_of_ble_eq_true rfl) rfl dX1_init_12 (fun H locs hw => ?_)
  refine lv_aload_n hx hb dX1_init_15 rfl (lv_at hl 0 rfl) ?_
  refine x_new C0 hw 5 hiX5 rfl tyX5 tyX5_ok 8 9 10 rfl rfl rfl (fs := [.int 0, .null, .null, .null, .null, .null, .null, .null, .null, .null]) (fun j hj => by rcases (show j = 0 ∨ j = 1 ∨ j = 2 ∨ j = 3 ∨ j = 4 ∨ j = 5 ∨ j = 6 ∨ j = 7 ∨ j = 8 ∨ j = 9 by omega) with rfl | rfl | rfl | rfl | rfl | rfl | rfl | rfl | rfl | rfl <;> rfl) (Nat.le_of_ble_eq_true rfl) (Nat.le_of_ble_eq_true rfl) dX1_init_16 (fun q_3 H (hw : mw E A s.heap H _ (List.flatten [[(q, .inr (1, [.ref (b_2 0), .null, .null, .null, .int 0, .int 0, .int 0, .int 0, .int 0]))], c3 E b_2, [(q_3, .inr (5, [.int 0, .null, .null, .null, .null, .null, .null, .null, .null, .null]))]])) => ?_)
  refine lv_dup hx hb dX1_init_19 rfl ?_
  refine x_cIN (rest := [.ref q_3, .ref q]) (F := (List.flatten [[(q, .inr (1, [.ref (b_2 0), .null, .null, .null, .int 0, .int 0, .int 0, .int 0, .int 0]))], c3 E b_2])) C0 hw (p_fl1 (d := [(q_3, .inr (5, [.int 0, .null, .null, .null, .null, .null, .null, .null, .null, .null]))]) ((p_pk _ 2 _ rfl).trans (List.Perm.cons _ (List.Perm.refl _)))) hl.1 (c_X5_init l E q_3) gX1_init_X5_init_n20 rfl ⟨rfl, rfl⟩ 10 2 30 rfl rfl rfl rfl (by decide +kernel) ⟨(Nat.le_of_ble_eq_true rfl), (Nat.le_of_ble_eq_true rfl)⟩ rfl (Nat.le_of_ble_eq_true rfl) dX1_init_20 ⟨(Nat.le_of_ble_eq_true rfl), (Nat.le_of_ble_eq_true rfl)⟩ (fun b_4 H locs e_q_3 hv => ?_)
  replace e_q_3 : b_4 0 = q_3 := e_q_3
  subst e_q_3
  have hw : mw E A s.heap H locs (List.flatten [[(q, .inr (1, [.ref (b_2 0), .null, .null, .null, .int 0, .int 0, .int 0, .int 0, .int 0]))], c3 E b_2, c5 E b_4]) := hv.perm (p_bk1 (d := c5 E b_4) ((p_pk _ 2 _ rfl).trans (List.Perm.cons _ (List.Perm.refl _))))
  refine x_putF (ws' := (List.flatten [[(q, .inr (1, [.ref (b_2 0), .ref (b_4 0), .null, .null, .int 0, .int 0, .int 0, .int 0, .int 0]))], c3 E b_2, c5 E b_4])) C0 hin hw 1 hiX1 rfl tyX1 tyX1_ok nmX1 0 rfl 1 (by decide) 11 rfl rfl rfl rfl rfl (Nat.le_of_ble_eq_true rfl) rfl dX1_init_23 (fun H locs hw => ?_)
  refine lv_aload_n hx hb dX1_init_26 rfl (lv_at hl 0 rfl) ?_
  refine x_new C0 hw 2 hiX2 rfl tyX2 tyX2_ok 12 13 14 rfl rfl rfl (fs := [.int 0, .null, .null, .null, .null, .null]) (fun j hj => by rcases (show j = 0 ∨ j = 1 ∨ j = 2 ∨ j = 3 ∨ j = 4 ∨ j = 5 by omega) with rfl | rfl | rfl | rfl | rfl | rfl <;> rfl) (Nat.le_of_ble_eq_true rfl) (Nat.le_of_ble_eq_true rfl) dX1_init_27 (fun q_5 H (hw : mw E A s.heap H _ (List.flatten [[(q, .inr (1, [.ref (b_2 0), .ref (b_4 0), .null, .null, .int 0, .int 0, .int 0, .int 0, .int 0]))], c3 E b_2, c5 E b_4, [(q_5, .inr (2, [.int 0, .null, .null, .null, .null, .null]))]])) => ?_)
  refine lv_dup hx hb dX1_init_30 rfl ?_
  refine x_cIN (rest := [.ref q_5, .ref q]) (F := (List.flatten [[(q, .inr (1, [.ref (b_2 0), .ref (b_4 0), .null, .null, .int 0, .int 0, .int 0, .int 0, .int 0]))], c3 E b_2, c5 E b_4])) C0 hw (p_fl1 (d := [(q_5, .inr (2, [.int 0, .null, .null, .null, .null, .null]))]) ((p_pk _ 3 _ rfl).trans (List.Perm.cons _ (List.Perm.refl _)))) hl.1 (c_X2_init l E q_5) gX1_init_X2_init_n27 rfl ⟨rfl, rfl⟩ 14 13 43 rfl rfl rfl rfl (by decide +kernel) ⟨(Nat.le_of_ble_eq_true rfl), (Nat.le_of_ble_eq_true rfl)⟩ rfl (Nat.le_of_ble_eq_true rfl) dX1_init_31 ⟨(Nat.le_of_ble_eq_true rfl), (Nat.le_of_ble_eq_true rfl)⟩ (fun b_6 H locs e_q_5 hv => ?_)
  replace e_q_5 : b_6 0 = q_5 := e_q_5
  subst e_q_5
  have hw : mw E A s.heap H locs (List.flatten [[(q, .inr (1, [.ref (b_2 0), .ref (b_4 0), .null, .null, .int 0, .int 0, .int 0, .int 0, .int 0]))], c3 E b_2, c5 E b_4, c2 E b_6]) := hv.perm (p_bk1 (d := c2 E b_6) ((p_pk _ 3 _ rfl).trans (List.Perm.cons _ (List.Perm.refl _))))
  refine x_putF (ws' := (List.flatten [[(q, .inr (1, [.ref (b_2 0), .ref (b_4 0), .ref (b_6 0), .null, .int 0, .int 0, .int 0, .int 0, .int 0]))], c3 E b_2, c5 E b_4, c2 E b_6])) C0 hin hw 1 hiX1 rfl tyX1 tyX1_ok nmX1 0 rfl 2 (by decide) 15 rfl rfl rfl rfl rfl (Nat.le_of_ble_eq_true rfl) rfl dX1_init_34 (fun H locs hw => ?_)
  refine lv_aload_n hx hb dX1_init_37 rfl (lv_at hl 0 rfl) ?_
  refine lv_bipush (v := 6) hx hb dX1_init_38 (by decide) ?_
  refine x_newi (N := 6) C0 hw 16 rfl (by decide) rfl (Nat.le_of_ble_eq_true rfl) (Nat.le_of_ble_eq_true rfl) dX1_init_40 (fun q_7 H (hw : mw E A s.heap H _ (List.flatten [[(q, .inr (1, [.ref (b_2 0), .ref (b_4 0), .ref (b_6 0), .null, .int 0, .int 0, .int 0, .int 0, .int 0]))], c3 E b_2, c5 E b_4, c2 E b_6, [(q_7, .inl (E.2.1, 6, .inl (fun _ => 0)))]])) => ?_)
  refine x_putF (ws' := (List.flatten [[(q, .inr (1, [.ref (b_2 0), .ref (b_4 0), .ref (b_6 0), .ref q_7, .int 0, .int 0, .int 0, .int 0, .int 0]))], c3 E b_2, c5 E b_4, c2 E b_6, [(q_7, .inl (E.2.1, 6, .inl (fun _ => 0)))]])) C0 hin hw 1 hiX1 rfl tyX1 tyX1_ok nmX1 0 rfl 3 (by decide) 17 rfl rfl rfl rfl rfl (Nat.le_of_ble_eq_true rfl) rfl dX1_init_42 (fun H locs hw => ?_)
  refine lv_aload_n hx hb dX1_init_45 rfl (lv_at hl 0 rfl) ?_
  refine lv_iconst (v := 0) hx hb dX1_init_46 (by decide) ?_
  refine x_put (ws' := (List.flatten [[(q, .inr (1, [.ref (b_2 0), .ref (b_4 0), .ref (b_6 0), .ref q_7, .int 0, .int 0, .int 0, .int 0, .int 0]))], c3 E b_2, c5 E b_4, c2 E b_6, [(q_7, .inl (E.2.1, 6, .inl (fun _ => 0)))]])) C0 hw 1 hiX1 rfl tyX1 tyX1_ok nmX1 0 rfl 4 (by decide) 18 rfl rfl rfl rfl (Nat.le_of_ble_eq_true rfl) rfl dX1_init_47 (fun H locs hw => ?_)
  refine lv_aload_n hx hb dX1_init_50 rfl (lv_at hl 0 rfl) ?_
  refine lv_iconst (v := 0) hx hb dX1_init_51 (by decide) ?_
  refine x_put (ws' := (List.flatten [[(q, .inr (1, [.ref (b_2 0), .ref (b_4 0), .ref (b_6 0), .ref q_7, .int 0, .int 0, .int 0, .int 0, .int 0]))], c3 E b_2, c5 E b_4, c2 E b_6, [(q_7, .inl (E.2.1, 6, .inl (fun _ => 0)))]])) C0 hw 1 hiX1 rfl tyX1 tyX1_ok nmX1 0 rfl 5 (by decide) 19 rfl rfl rfl rfl (Nat.le_of_ble_eq_true rfl) rfl dX1_init_52 (fun H locs hw => ?_)
  refine lv_aload_n hx hb dX1_init_55 rfl (lv_at hl 0 rfl) ?_
  refine lv_iconst (v := 3) hx hb dX1_init_56 (by decide) ?_
  refine x_put (ws' := (List.flatten [[(q, .inr (1, [.ref (b_2 0), .ref (b_4 0), .ref (b_6 0), .ref q_7, .int 0, .int 0, .int 3, .int 0, .int 0]))], c3 E b_2, c5 E b_4, c2 E b_6, [(q_7, .inl (E.2.1, 6, .inl (fun _ => 0)))]])) C0 hw 1 hiX1 rfl tyX1 tyX1_ok nmX1 0 rfl 6 (by decide) 20 rfl rfl rfl rfl (Nat.le_of_ble_eq_true rfl) rfl dX1_init_57 (fun H locs hw => ?_)
  refine lv_aload_n hx hb dX1_init_60 rfl (lv_at hl 0 rfl) ?_
  refine lv_bipush (v := 10) hx hb dX1_init_61 (by decide) ?_
  refine x_put (ws' := (List.flatten [[(q, .inr (1, [.ref (b_2 0), .ref (b_4 0), .ref (b_6 0), .ref q_7, .int 0, .int 0, .int 3, .int 10, .int 0]))], c3 E b_2, c5 E b_4, c2 E b_6, [(q_7, .inl (E.2.1, 6, .inl (fun _ => 0)))]])) C0 hw 1 hiX1 rfl tyX1 tyX1_ok nmX1 0 rfl 7 (by decide) 21 rfl rfl rfl rfl (Nat.le_of_ble_eq_true rfl) rfl dX1_init_63 (fun H locs hw => ?_)
  refine lv_aload_n hx hb dX1_init_66 rfl (lv_at hl 0 rfl) ?_
  refine lv_iconst (v := 0) hx hb dX1_init_67 (by decide) ?_
  refine x_put (ws' := (List.flatten [[(q, .inr (1, [.ref (b_2 0), .ref (b_4 0), .ref (b_6 0), .ref q_7, .int 0, .int 0, .int 3, .int 10, .int 0]))], c3 E b_2, c5 E b_4, c2 E b_6, [(q_7, .inl (E.2.1, 6, .inl (fun _ => 0)))]])) C0 hw 1 hiX1 rfl tyX1 tyX1_ok nmX1 0 rfl 8 (by decide) 22 rfl rfl rfl rfl (Nat.le_of_ble_eq_true rfl) rfl dX1_init_68 (fun H locs hw => ?_)
  exact x_retN C0 (adr [q, b_2 0, b_2 1, b_2 2, b_2 3, b_2 4, b_4 0, b_4 1, b_4 2, b_4 3, b_4 4, b_4 5, b_4 6, b_4 7, b_4 8, b_4 9, b_6 0, b_6 1, b_6 2, b_6 3, b_6 4, b_6 5, q_7]) hw rfl (Nat.le_of_ble_eq_true rfl) (Nat.le_of_ble_eq_true rfl) dX1_init_71

abbrev rmX0_init : Room := { frames := 3, cells := 93, slots := 1448, locals := 52 }
set_option maxRecDepth 100000 in
set_option maxHeartbeats 8000000 in
theorem c_X0_init (l : Launch) (E : EE) (q : Nat) : KN l E yX0_init wsX0_init rmX0_init q [(q, .inr (0, [.null, .int 0, .int 0]))] 93 1448 (S := (Nat → Nat) × (Nat → Nat) × (Nat → Nat) × (Nat → Nat) × (Nat → Nat)) (fun u => u.1 0 = q) (fun u => List.flatten [cH E u.1 (u.2.1 0) (u.2.2.1 0) (u.2.2.2.1 0) (u.2.2.2.2 0) z0, cM E u.2.1 iM, cM E u.2.2.1 iM, cM E u.2.2.2.1 iM, cM E u.2.2.2.2 iM]) := by
  refine KN.go (cc := cX0_init) (ret := none) (maxL := 2) (own := RX0) (by decide) rfl rfl (Nat.le_of_ble_eq_true rfl) rfl (fun p e s m below meth c A ls hin C0 hw hl => ?_)
  have hx := C0.1
  have hb := C0.2.1
  have hiX0 : ∀ w ∈ wsX00, w ∈ wsX0_init := fun w h => List.mem_cons_of_mem _ (List.mem_append_left _ (List.mem_append_left _ (List.mem_append_left _ (List.mem_append_left _ (List.mem_append_right _ h)))))
  have hiX1 : ∀ w ∈ wsX10, w ∈ wsX0_init := fun w h => List.mem_cons_of_mem _ (List.mem_append_left _ (List.mem_append_left _ (List.mem_append_left _ (List.mem_append_right _ h))))
  replace hw : mw E A s.heap s.heap [] (List.flatten [[(q, .inr (0, [.null, .int 0, .int 0]))]]) := hw
  refine lv_aload_n hx hb dX0_init_0 rfl (lv_at hl 0 rfl) ?_
  refine x_obj C0 hl.1 1 2 3 rfl rfl rfl (Nat.le_of_ble_eq_true rfl) (Nat.le_of_ble_eq_true rfl) dX0_init_1 ?_
  refine lv_aload_n hx hb dX0_init_4 rfl (lv_at hl 0 rfl) ?_
  refine lv_iconst (v := 4) hx hb dX0_init_5 (by decide) ?_
  refine x_newq (N := 4) C0 hw 4 rfl (by decide) rfl (Nat.le_of_ble_eq_true rfl) (Nat.le_of_ble_eq_true rfl) dX0_init_6 (fun q_1 H (hw : mw E A s.heap H _ (List.flatten [[(q, .inr (0, [.null, .int 0, .int 0]))], [(q_1, .inl (E.2.2.2.1, 4, .inr (.inr (.inr (.inr (fun _ => none))))))]])) => ?_)
  refine x_putF (ws' := (List.flatten [[(q, .inr (0, [.ref q_1, .int 0, .int 0]))], [(q_1, .inl (E.2.2.2.1, 4, .inr (.inr (.inr (.inr (fun _ => none))))))]])) C0 hin hw 0 hiX0 rfl tyX0 tyX0_ok nmX0 0 rfl 0 (by decide) 5 rfl rfl rfl rfl rfl (Nat.le_of_ble_eq_true rfl) rfl dX0_init_9 (fun H locs hw => ?_)
  refine lv_aload_n hx hb dX0_init_12 rfl (lv_at hl 0 rfl) ?_
  refine lv_iconst (v := 0) hx hb dX0_init_13 (by decide) ?_
  refine x_put (ws' := (List.flatten [[(q, .inr (0, [.ref q_1, .int 0, .int 0]))], [(q_1, .inl (E.2.2.2.1, 4, .inr (.inr (.inr (.inr (fun _ => none))))))]])) C0 hw 0 hiX0 rfl tyX0 tyX0_ok nmX0 0 rfl 1 (by decide) 6 rfl rfl rfl rfl (Nat.le_of_ble_eq_true rfl) rfl dX0_init_14 (fun H locs hw => ?_)
  refine lv_aload_n hx hb dX0_init_17 rfl (lv_at hl 0 rfl) ?_
  refine lv_iconst (v := 0) hx hb dX0_init_18 (by decide) ?_
  refine x_put (ws' := (List.flatten [[(q, .inr (0, [.ref q_1, .int 0, .int 0]))], [(q_1, .inl (E.2.2.2.1, 4, .inr (.inr (.inr (.inr (fun _ => none))))))]])) C0 hw 0 hiX0 rfl tyX0 tyX0_ok nmX0 0 rfl 2 (by decide) 7 rfl rfl rfl rfl (Nat.le_of_ble_eq_true rfl) rfl dX0_init_19 (fun H locs hw => ?_)
  refine lv_iconst (v := 0) hx hb dX0_init_22 (by decide) ?_
  refine lv_istore_n (lv' := [(1, .int 0), (0, .ref q)]) hx hb dX0_init_23 rfl hl (by decide) rfl (fun ls hl => ?_)
  refine lv_iload_n hx hb dX0_init_24 rfl (lv_at hl 0 rfl) ?_
  refine lv_iconst (v := 4) hx hb dX0_init_25 (by decide) ?_
  refine lv_icmp_ge (tgt := 48) hx hb dX0_init_26 (by decide) (fun c => absurd c (by decide)) (fun _ => ?_)
  refine lv_aload_n hx hb dX0_init_29 rfl (lv_at hl 1 rfl) ?_
  refine x_get C0 hw 0 hiX0 rfl 0 rfl 0 (by decide) 5 rfl rfl dX0_init_30 ?_
  refine lv_iload_n hx hb dX0_init_33 rfl (lv_at hl 0 rfl) ?_
  refine x_new C0 hw 1 hiX1 rfl tyX1 tyX1_ok 4 8 9 rfl rfl rfl (fs := [.null, .null, .null, .null, .int 0, .int 0, .int 0, .int 0, .int 0]) (fun j hj => by rcases (show j = 0 ∨ j = 1 ∨ j = 2 ∨ j = 3 ∨ j = 4 ∨ j = 5 ∨ j = 6 ∨ j = 7 ∨ j = 8 by omega) with rfl | rfl | rfl | rfl | rfl | rfl | rfl | rfl | rfl <;> rfl) (Nat.le_of_ble_eq_true rfl) (Nat.le_of_ble_eq_true rfl) dX0_init_34 (fun q_2 H (hw : mw E A s.heap H _ (List.flatten [[(q, .inr (0, [.ref q_1, .int 0, .int 0]))], [(q_1, .inl (E.2.2.2.1, 4, .inr (.inr (.inr (.inr (fun _ => none))))))], [(q_2, .inr (1, [.null, .null, .null, .null, .int 0, .int 0, .int 0, .int 0, .int 0]))]])) => ?_)
  refine lv_dup hx hb dX0_init_37 rfl ?_
  refine x_cIN (rest := [.ref q_2, .int 0, .ref q_1]) (F := (List.flatten [[(q, .inr (0, [.ref q_1, .int 0, .int 0]))], [(q_1, .inl (E.2.2.2.1, 4, .inr (.inr (.inr (.inr (fun _ => none))))))]])) C0 hw (p_fl1 (d := [(q_2, .inr (1, [.null, .null, .null, .null, .int 0, .int 0, .int 0, .int 0, .int 0]))]) ((p_pk _ 2 _ rfl).trans (List.Perm.cons _ (List.Perm.refl _)))) hl.1 (c_X1_init l E q_2) gX0_init_X1_init_n22 rfl ⟨rfl, rfl⟩ 9 25 10 rfl rfl rfl rfl (by decide +kernel) ⟨(Nat.le_of_ble_eq_true rfl), (Nat.le_of_ble_eq_true rfl)⟩ rfl (Nat.le_of_ble_eq_true rfl) dX0_init_38 ⟨(Nat.le_of_ble_eq_true rfl), (Nat.le_of_ble_eq_true rfl)⟩ (fun b_3 H locs e_q_2 hv => ?_)
  replace e_q_2 : b_3 0 = q_2 := e_q_2
  subst e_q_2
  have hw : mw E A s.heap H locs (List.flatten [[(q, .inr (0, [.ref q_1, .int 0, .int 0]))], [(q_1, .inl (E.2.2.2.1, 4, .inr (.inr (.inr (.inr (fun _ => none))))))], cM E b_3 iM]) := hv.perm (p_bk1 (d := cM E b_3 iM) ((p_pk _ 2 _ rfl).trans (List.Perm.cons _ (List.Perm.refl _))))
  refine x_astq (ws' := (List.flatten [[(q, .inr (0, [.ref q_1, .int 0, .int 0]))], [(q_1, .inl (E.2.2.2.1, 4, .inr (.inr (.inr (.inr (va_up (fun _ => none) (tn 0) (some (b_3 0))))))))], cM E b_3 iM])) C0 hw 1 2 rfl rfl (vp_in_nI (n := 0) (by decide) (by decide)) rfl dX0_init_41 (fun H locs hw => ?_)
  refine lv_iinc (v := 1) (lv' := [(1, .int 1), (0, .ref q)]) hx hb dX0_init_42 hl (k := 0) rfl (by decide) (by decide) rfl (fun ls hl => ?_)
  refine lv_goto (tgt := 24) hx hb dX0_init_45 (by decide) ?_
  refine lv_iload_n hx hb dX0_init_24 rfl (lv_at hl 0 rfl) ?_
  refine lv_iconst (v := 4) hx hb dX0_init_25 (by decide) ?_
  refine lv_icmp_ge (tgt := 48) hx hb dX0_init_26 (by decide) (fun c => absurd c (by decide)) (fun _ => ?_)
  refine lv_aload_n hx hb dX0_init_29 rfl (lv_at hl 1 rfl) ?_
  refine x_get C0 hw 0 hiX0 rfl 0 rfl 0 (by decide) 5 rfl rfl dX0_init_30 ?_
  refine lv_iload_n hx hb dX0_init_33 rfl (lv_at hl 0 rfl) ?_
  refine x_new C0 hw 1 hiX1 rfl tyX1 tyX1_ok 4 8 9 rfl rfl rfl (fs := [.null, .null, .null, .null, .int 0, .int 0, .int 0, .int 0, .int 0]) (fun j hj => by rcases (show j = 0 ∨ j = 1 ∨ j = 2 ∨ j = 3 ∨ j = 4 ∨ j = 5 ∨ j = 6 ∨ j = 7 ∨ j = 8 by omega) with rfl | rfl | rfl | rfl | rfl | rfl | rfl | rfl | rfl <;> rfl) (Nat.le_of_ble_eq_true rfl) (Nat.le_of_ble_eq_true rfl) dX0_init_34 (fun q_4 H (hw : mw E A s.heap H _ (List.flatten [[(q, .inr (0, [.ref q_1, .int 0, .int 0]))], [(q_1, .inl (E.2.2.2.1, 4, .inr (.inr (.inr (.inr (va_up (fun _ => none) (tn 0) (some (b_3 0))))))))], cM E b_3 iM, [(q_4, .inr (1, [.null, .null, .null, .null, .int 0, .int 0, .int 0, .int 0, .int 0]))]])) => ?_)
  refine lv_dup hx hb dX0_init_37 rfl ?_
  refine x_cIN (rest := [.ref q_4, .int 1, .ref q_1]) (F := (List.flatten [[(q, .inr (0, [.ref q_1, .int 0, .int 0]))], [(q_1, .inl (E.2.2.2.1, 4, .inr (.inr (.inr (.inr (va_up (fun _ => none) (tn 0) (some (b_3 0))))))))], cM E b_3 iM])) C0 hw (p_fl1 (d := [(q_4, .inr (1, [.null, .null, .null, .null, .int 0, .int 0, .int 0, .int 0, .int 0]))]) ((p_pk _ 3 _ rfl).trans (List.Perm.cons _ (List.Perm.refl _)))) hl.1 (c_X1_init l E q_4) gX0_init_X1_init_n22 rfl ⟨rfl, rfl⟩ 9 25 10 rfl rfl rfl rfl (by decide +kernel) ⟨(Nat.le_of_ble_eq_true rfl), (Nat.le_of_ble_eq_true rfl)⟩ rfl (Nat.le_of_ble_eq_true rfl) dX0_init_38 ⟨(Nat.le_of_ble_eq_true rfl), (Nat.le_of_ble_eq_true rfl)⟩ (fun b_5 H locs e_q_4 hv => ?_)
  replace e_q_4 : b_5 0 = q_4 := e_q_4
  subst e_q_4
  have hw : mw E A s.heap H locs (List.flatten [[(q, .inr (0, [.ref q_1, .int 0, .int 0]))], [(q_1, .inl (E.2.2.2.1, 4, .inr (.inr (.inr (.inr (va_up (fun _ => none) (tn 0) (some (b_3 0))))))))], cM E b_3 iM, cM E b_5 iM]) := hv.perm (p_bk1 (d := cM E b_5 iM) ((p_pk _ 3 _ rfl).trans (List.Perm.cons _ (List.Perm.refl _))))
  refine x_astq (ws' := (List.flatten [[(q, .inr (0, [.ref q_1, .int 0, .int 0]))], [(q_1, .inl (E.2.2.2.1, 4, .inr (.inr (.inr (.inr (va_up (va_up (fun _ => none) (tn 0) (some (b_3 0))) (tn 1) (some (b_5 0))))))))], cM E b_3 iM, cM E b_5 iM])) C0 hw 1 25 rfl rfl (vp_in_nI (n := 1) (by decide) (by decide)) rfl dX0_init_41 (fun H locs hw => ?_)
  refine lv_iinc (v := 2) (lv' := [(1, .int 2), (0, .ref q)]) hx hb dX0_init_42 hl (k := 0) rfl (by decide) (by decide) rfl (fun ls hl => ?_)
  refine lv_goto (tgt := 24) hx hb dX0_init_45 (by decide) ?_
  refine lv_iload_n hx hb dX0_init_24 rfl (lv_at hl 0 rfl) ?_
  refine lv_iconst (v := 4) hx hb dX0_init_25 (by decide) ?_
  refine lv_icmp_ge (tgt := 48) hx hb dX0_init_26 (by decide) (fun c => absurd c (by decide)) (fun _ => ?_)
  refine lv_aload_n hx hb dX0_init_29 rfl (lv_at hl 1 rfl) ?_
  refine x_get C0 hw 0 hiX0 rfl 0 rfl 0 (by decide) 5 rfl rfl dX0_init_30 ?_
  refine lv_iload_n hx hb dX0_init_33 rfl (lv_at hl 0 rfl) ?_
  refine x_new C0 hw 1 hiX1 rfl tyX1 tyX1_ok 4 8 9 rfl rfl rfl (fs := [.null, .null, .null, .null, .int 0, .int 0, .int 0, .int 0, .int 0]) (fun j hj => by rcases (show j = 0 ∨ j = 1 ∨ j = 2 ∨ j = 3 ∨ j = 4 ∨ j = 5 ∨ j = 6 ∨ j = 7 ∨ j = 8 by omega) with rfl | rfl | rfl | rfl | rfl | rfl | rfl | rfl | rfl <;> rfl) (Nat.le_of_ble_eq_true rfl) (Nat.le_of_ble_eq_true rfl) dX0_init_34 (fun q_6 H (hw : mw E A s.heap H _ (List.flatten [[(q, .inr (0, [.ref q_1, .int 0, .int 0]))], [(q_1, .inl (E.2.2.2.1, 4, .inr (.inr (.inr (.inr (va_up (va_up (fun _ => none) (tn 0) (some (b_3 0))) (tn 1) (some (b_5 0))))))))], cM E b_3 iM, cM E b_5 iM, [(q_6, .inr (1, [.null, .null, .null, .null, .int 0, .int 0, .int 0, .int 0, .int 0]))]])) => ?_)
  refine lv_dup hx hb dX0_init_37 rfl ?_
  refine x_cIN (rest := [.ref q_6, .int 2, .ref q_1]) (F := (List.flatten [[(q, .inr (0, [.ref q_1, .int 0, .int 0]))], [(q_1, .inl (E.2.2.2.1, 4, .inr (.inr (.inr (.inr (va_up (va_up (fun _ => none) (tn 0) (some (b_3 0))) (tn 1) (some (b_5 0))))))))], cM E b_3 iM, cM E b_5 iM])) C0 hw (p_fl1 (d := [(q_6, .inr (1, [.null, .null, .null, .null, .int 0, .int 0, .int 0, .int 0, .int 0]))]) ((p_pk _ 4 _ rfl).trans (List.Perm.cons _ (List.Perm.refl _)))) hl.1 (c_X1_init l E q_6) gX0_init_X1_init_n22 rfl ⟨rfl, rfl⟩ 9 25 10 rfl rfl rfl rfl (by decide +kernel) ⟨(Nat.le_of_ble_eq_true rfl), (Nat.le_of_ble_eq_true rfl)⟩ rfl (Nat.le_of_ble_eq_true rfl) dX0_init_38 ⟨(Nat.le_of_ble_eq_true rfl), (Nat.le_of_ble_eq_true rfl)⟩ (fun b_7 H locs e_q_6 hv => ?_)
  replace e_q_6 : b_7 0 = q_6 := e_q_6
  subst e_q_6
  have hw : mw E A s.heap H locs (List.flatten [[(q, .inr (0, [.ref q_1, .int 0, .int 0]))], [(q_1, .inl (E.2.2.2.1, 4, .inr (.inr (.inr (.inr (va_up (va_up (fun _ => none) (tn 0) (some (b_3 0))) (tn 1) (some (b_5 0))))))))], cM E b_3 iM, cM E b_5 iM, cM E b_7 iM]) := hv.perm (p_bk1 (d := cM E b_7 iM) ((p_pk _ 4 _ rfl).trans (List.Perm.cons _ (List.Perm.refl _))))
  refine x_astq (ws' := (List.flatten [[(q, .inr (0, [.ref q_1, .int 0, .int 0]))], [(q_1, .inl (E.2.2.2.1, 4, .inr (.inr (.inr (.inr (va_up (va_up (va_up (fun _ => none) (tn 0) (some (b_3 0))) (tn 1) (some (b_5 0))) (tn 2) (some (b_7 0))))))))], cM E b_3 iM, cM E b_5 iM, cM E b_7 iM])) C0 hw 1 48 rfl rfl (vp_in_nI (n := 2) (by decide) (by decide)) rfl dX0_init_41 (fun H locs hw => ?_)
  refine lv_iinc (v := 3) (lv' := [(1, .int 3), (0, .ref q)]) hx hb dX0_init_42 hl (k := 0) rfl (by decide) (by decide) rfl (fun ls hl => ?_)
  refine lv_goto (tgt := 24) hx hb dX0_init_45 (by decide) ?_
  refine lv_iload_n hx hb dX0_init_24 rfl (lv_at hl 0 rfl) ?_
  refine lv_iconst (v := 4) hx hb dX0_init_25 (by decide) ?_
  refine lv_icmp_ge (tgt := 48) hx hb dX0_init_26 (by decide) (fun c => absurd c (by decide)) (fun _ => ?_)
  refine lv_aload_n hx hb dX0_init_29 rfl (lv_at hl 1 rfl) ?_
  refine x_get C0 hw 0 hiX0 rfl 0 rfl 0 (by decide) 5 rfl rfl dX0_init_30 ?_
  refine lv_iload_n hx hb dX0_init_33 rfl (lv_at hl 0 rfl) ?_
  refine x_new C0 hw 1 hiX1 rfl tyX1 tyX1_ok 4 8 9 rfl rfl rfl (fs := [.null, .null, .null, .null, .int 0, .int 0, .int 0, .int 0, .int 0]) (fun j hj => by rcases (show j = 0 ∨ j = 1 ∨ j = 2 ∨ j = 3 ∨ j = 4 ∨ j = 5 ∨ j = 6 ∨ j = 7 ∨ j = 8 by omega) with rfl | rfl | rfl | rfl | rfl | rfl | rfl | rfl | rfl <;> rfl) (Nat.le_of_ble_eq_true rfl) (Nat.le_of_ble_eq_true rfl) dX0_init_34 (fun q_8 H (hw : mw E A s.heap H _ (List.flatten [[(q, .inr (0, [.ref q_1, .int 0, .int 0]))], [(q_1, .inl (E.2.2.2.1, 4, .inr (.inr (.inr (.inr (va_up (va_up (va_up (fun _ => none) (tn 0) (some (b_3 0))) (tn 1) (some (b_5 0))) (tn 2) (some (b_7 0))))))))], cM E b_3 iM, cM E b_5 iM, cM E b_7 iM, [(q_8, .inr (1, [.null, .null, .null, .null, .int 0, .int 0, .int 0, .int 0, .int 0]))]])) => ?_)
  refine lv_dup hx hb dX0_init_37 rfl ?_
  refine x_cIN (rest := [.ref q_8, .int 3, .ref q_1]) (F := (List.flatten [[(q, .inr (0, [.ref q_1, .int 0, .int 0]))], [(q_1, .inl (E.2.2.2.1, 4, .inr (.inr (.inr (.inr (va_up (va_up (va_up (fun _ => none) (tn 0) (some (b_3 0))) (tn 1) (some (b_5 0))) (tn 2) (some (b_7 0))))))))], cM E b_3 iM, cM E b_5 iM, cM E b_7 iM])) C0 hw (p_fl1 (d := [(q_8, .inr (1, [.null, .null, .null, .null, .int 0, .int 0, .int 0, .int 0, .int 0]))]) ((p_pk _ 5 _ rfl).trans (List.Perm.cons _ (List.Perm.refl _)))) hl.1 (c_X1_init l E q_8) gX0_init_X1_init_n22 rfl ⟨rfl, rfl⟩ 9 25 10 rfl rfl rfl rfl (by decide +kernel) ⟨(Nat.le_of_ble_eq_true rfl), (Nat.le_of_ble_eq_true rfl)⟩ rfl (Nat.le_of_ble_eq_true rfl) dX0_init_38 ⟨(Nat.le_of_ble_eq_true rfl), (Nat.le_of_ble_eq_true rfl)⟩ (fun b_9 H locs e_q_8 hv => ?_)
  replace e_q_8 : b_9 0 = q_8 := e_q_8
  subst e_q_8
  have hw : mw E A s.heap H locs (List.flatten [[(q, .inr (0, [.ref q_1, .int 0, .int 0]))], [(q_1, .inl (E.2.2.2.1, 4, .inr (.inr (.inr (.inr (va_up (va_up (va_up (fun _ => none) (tn 0) (some (b_3 0))) (tn 1) (some (b_5 0))) (tn 2) (some (b_7 0))))))))], cM E b_3 iM, cM E b_5 iM, cM E b_7 iM, cM E b_9 iM]) := hv.perm (p_bk1 (d := cM E b_9 iM) ((p_pk _ 5 _ rfl).trans (List.Perm.cons _ (List.Perm.refl _))))
  refine x_astq (ws' := (List.flatten [[(q, .inr (0, [.ref q_1, .int 0, .int 0]))], [(q_1, .inl (E.2.2.2.1, 4, .inr (.inr (.inr (.inr (va_up (va_up (va_up (va_up (fun _ => none) (tn 0) (some (b_3 0))) (tn 1) (some (b_5 0))) (tn 2) (some (b_7 0))) (tn 3) (some (b_9 0))))))))], cM E b_3 iM, cM E b_5 iM, cM E b_7 iM, cM E b_9 iM])) C0 hw 1 71 rfl rfl (vp_in_nI (n := 3) (by decide) (by decide)) rfl dX0_init_41 (fun H locs hw => ?_)
  refine lv_iinc (v := 4) (lv' := [(1, .int 4), (0, .ref q)]) hx hb dX0_init_42 hl (k := 0) rfl (by decide) (by decide) rfl (fun ls hl => ?_)
  refine lv_goto (tgt := 24) hx hb dX0_init_45 (by decide) ?_
  refine lv_iload_n hx hb dX0_init_24 rfl (lv_at hl 0 rfl) ?_
  refine lv_iconst (v := 4) hx hb dX0_init_25 (by decide) ?_
  refine lv_icmp_ge (tgt := 48) hx hb dX0_init_26 (by decide) (fun _ => ?_) (fun c => absurd (by decide) c)
  exact x_retN C0 ⟨adr [q, q_1], b_3, b_5, b_7, b_9⟩ hw rfl (Nat.le_of_ble_eq_true rfl) (Nat.le_of_ble_eq_true rfl) dX0_init_48

abbrev rmX4_init : Room := { frames := 1, cells := 2, slots := 64, locals := 12 }
set_option maxRecDepth 100000 in
set_option maxHeartbeats 8000000 in
theorem c_X4_init (l : Launch) (E : EE) (q : Nat) : KN l E yX4_init wsX4_init rmX4_init q [(q, .inr (4, [.null, .int 0, .int 0, .null, .int 0, .int 0, .int 0, .int 0]))] 2 64 (S := (Nat → Nat)) (fun u => u 0 = q) (fun u => cS E u iS) := by
  refine KN.go (cc := cX4_init) (ret := none) (maxL := 1) (own := RX4) (by decide) rfl rfl (Nat.le_of_ble_eq_true rfl) rfl (fun p e s m below meth c A ls hin C0 hw hl => ?_)
  have hx := C0.1
  have hb := C0.2.1
  have hiX4 : ∀ w ∈ wsX40, w ∈ wsX4_init := fun w h => List.mem_cons_of_mem _ (List.mem_append_right _ h)
  replace hw : mw E A s.heap s.heap [] (List.flatten [[(q, .inr (4, [.null, .int 0, .int 0, .null, .int 0, .int 0, .int 0, .int 0]))]]) := hw
  refine lv_aload_n hx hb dX4_init_0 rfl (lv_at hl 0 rfl) ?_
  refine x_obj C0 hl.1 1 2 3 rfl rfl rfl (Nat.le_of_ble_eq_true rfl) (Nat.le_of_ble_eq_true rfl) dX4_init_1 ?_
  refine lv_aload_n hx hb dX4_init_4 rfl (lv_at hl 0 rfl) ?_
  refine lv_bipush (v := 60) hx hb dX4_init_5 (by decide) ?_
  refine x_newc (N := 60) C0 hw 4 rfl (by decide) rfl (Nat.le_of_ble_eq_true rfl) (Nat.le_of_ble_eq_true rfl) dX4_init_7 (fun q_1 H (hw : mw E A s.heap H _ (List.flatten [[(q, .inr (4, [.null, .int 0, .int 0, .null, .int 0, .int 0, .int 0, .int 0]))], [(q_1, .inl (E.2.2.1, 60, .inl (fun _ => 0)))]])) => ?_)
  refine x_putF (ws' := (List.flatten [[(q, .inr (4, [.ref q_1, .int 0, .int 0, .null, .int 0, .int 0, .int 0, .int 0]))], [(q_1, .inl (E.2.2.1, 60, .inl (fun _ => 0)))]])) C0 hin hw 4 hiX4 rfl tyX4 tyX4_ok nmX4 0 rfl 0 (by decide) 5 rfl rfl rfl rfl rfl (Nat.le_of_ble_eq_true rfl) rfl dX4_init_9 (fun H locs hw => ?_)
  refine lv_aload_n hx hb dX4_init_12 rfl (lv_at hl 0 rfl) ?_
  refine lv_iconst (v := 0) hx hb dX4_init_13 (by decide) ?_
  refine x_put (ws' := (List.flatten [[(q, .inr (4, [.ref q_1, .int 0, .int 0, .null, .int 0, .int 0, .int 0, .int 0]))], [(q_1, .inl (E.2.2.1, 60, .inl (fun _ => 0)))]])) C0 hw 4 hiX4 rfl tyX4 tyX4_ok nmX4 0 rfl 1 (by decide) 6 rfl rfl rfl rfl (Nat.le_of_ble_eq_true rfl) rfl dX4_init_14 (fun H locs hw => ?_)
  refine lv_aload_n hx hb dX4_init_17 rfl (lv_at hl 0 rfl) ?_
  refine lv_iconst (v := 0) hx hb dX4_init_18 (by decide) ?_
  refine x_put (ws' := (List.flatten [[(q, .inr (4, [.ref q_1, .int 0, .int 0, .null, .int 0, .int 0, .int 0, .int 0]))], [(q_1, .inl (E.2.2.1, 60, .inl (fun _ => 0)))]])) C0 hw 4 hiX4 rfl tyX4 tyX4_ok nmX4 0 rfl 2 (by decide) 7 rfl rfl rfl rfl (Nat.le_of_ble_eq_true rfl) rfl dX4_init_19 (fun H locs hw => ?_)
  refine lv_aload_n hx hb dX4_init_22 rfl (lv_at hl 0 rfl) ?_
  refine lv_iconst (v := 4) hx hb dX4_init_23 (by decide) ?_
  refine x_newi (N := 4) C0 hw 8 rfl (by decide) rfl (Nat.le_of_ble_eq_true rfl) (Nat.le_of_ble_eq_true rfl) dX4_init_24 (fun q_2 H (hw : mw E A s.heap H _ (List.flatten [[(q, .inr (4, [.ref q_1, .int 0, .int 0, .null, .int 0, .int 0, .int 0, .int 0]))], [(q_1, .inl (E.2.2.1, 60, .inl (fun _ => 0)))], [(q_2, .inl (E.2.1, 4, .inl (fun _ => 0)))]])) => ?_)
  refine x_putF (ws' := (List.flatten [[(q, .inr (4, [.ref q_1, .int 0, .int 0, .ref q_2, .int 0, .int 0, .int 0, .int 0]))], [(q_1, .inl (E.2.2.1, 60, .inl (fun _ => 0)))], [(q_2, .inl (E.2.1, 4, .inl (fun _ => 0)))]])) C0 hin hw 4 hiX4 rfl tyX4 tyX4_ok nmX4 0 rfl 3 (by decide) 9 rfl rfl rfl rfl rfl (Nat.le_of_ble_eq_true rfl) rfl dX4_init_26 (fun H locs hw => ?_)
  refine lv_aload_n hx hb dX4_init_29 rfl (lv_at hl 0 rfl) ?_
  refine lv_iconst (v := 0) hx hb dX4_init_30 (by decide) ?_
  refine x_put (ws' := (List.flatten [[(q, .inr (4, [.ref q_1, .int 0, .int 0, .ref q_2, .int 0, .int 0, .int 0, .int 0]))], [(q_1, .inl (E.2.2.1, 60, .inl (fun _ => 0)))], [(q_2, .inl (E.2.1, 4, .inl (fun _ => 0)))]])) C0 hw 4 hiX4 rfl tyX4 tyX4_ok nmX4 0 rfl 4 (by decide) 10 rfl rfl rfl rfl (Nat.le_of_ble_eq_true rfl) rfl dX4_init_31 (fun H locs hw => ?_)
  refine lv_aload_n hx hb dX4_init_34 rfl (lv_at hl 0 rfl) ?_
  refine lv_iconst (v := (-1)) hx hb dX4_init_35 (by decide) ?_
  refine x_put (ws' := (List.flatten [[(q, .inr (4, [.ref q_1, .int 0, .int 0, .ref q_2, .int 0, .int (-1), .int 0, .int 0]))], [(q_1, .inl (E.2.2.1, 60, .inl (fun _ => 0)))], [(q_2, .inl (E.2.1, 4, .inl (fun _ => 0)))]])) C0 hw 4 hiX4 rfl tyX4 tyX4_ok nmX4 0 rfl 5 (by decide) 11 rfl rfl rfl rfl (Nat.le_of_ble_eq_true rfl) rfl dX4_init_36 (fun H locs hw => ?_)
  refine lv_aload_n hx hb dX4_init_39 rfl (lv_at hl 0 rfl) ?_
  refine lv_iconst (v := 0) hx hb dX4_init_40 (by decide) ?_
  refine x_put (ws' := (List.flatten [[(q, .inr (4, [.ref q_1, .int 0, .int 0, .ref q_2, .int 0, .int (-1), .int 0, .int 0]))], [(q_1, .inl (E.2.2.1, 60, .inl (fun _ => 0)))], [(q_2, .inl (E.2.1, 4, .inl (fun _ => 0)))]])) C0 hw 4 hiX4 rfl tyX4 tyX4_ok nmX4 0 rfl 6 (by decide) 12 rfl rfl rfl rfl (Nat.le_of_ble_eq_true rfl) rfl dX4_init_41 (fun H locs hw => ?_)
  refine lv_aload_n hx hb dX4_init_44 rfl (lv_at hl 0 rfl) ?_
  refine lv_iconst (v := 0) hx hb dX4_init_45 (by decide) ?_
  refine x_put (ws' := (List.flatten [[(q, .inr (4, [.ref q_1, .int 0, .int 0, .ref q_2, .int 0, .int (-1), .int 0, .int 0]))], [(q_1, .inl (E.2.2.1, 60, .inl (fun _ => 0)))], [(q_2, .inl (E.2.1, 4, .inl (fun _ => 0)))]])) C0 hw 4 hiX4 rfl tyX4 tyX4_ok nmX4 0 rfl 7 (by decide) 13 rfl rfl rfl rfl (Nat.le_of_ble_eq_true rfl) rfl dX4_init_46 (fun H locs hw => ?_)
  exact x_retN C0 (adr [q, q_1, q_2]) hw rfl (Nat.le_of_ble_eq_true rfl) (Nat.le_of_ble_eq_true rfl) dX4_init_49

abbrev rmX6_init : Room := { frames := 4, cells := 189, slots := 2967, locals := 73 }
set_option maxRecDepth 100000 in
set_option maxHeartbeats 8000000 in
theorem c_X6_init (l : Launch) (E : EE) (q : Nat) : KN l E yX6_init wsX6_init rmX6_init q [(q, .inr (6, [.null, .null, .null, .null, .null, .null, .int 0]))] 189 2967 (S := (Nat → Nat) × (Nat → Nat) × (Nat → Nat) × (Nat → Nat) × (Nat → Nat) × (Nat → Nat) × (Nat → Nat) × (Nat → Nat) × (Nat → Nat) × (Nat → Nat) × (Nat → Nat)) (fun u => u.1 0 = q) (fun u => List.flatten [cG u.1 (u.2.1 0) (u.2.2.1 0) (u.2.2.2.1 0) (u.2.2.2.2.1 0) (u.2.2.2.2.2.1 0) (u.2.2.2.2.2.2.2.2.2.2 0) z0, cM E u.2.1 iM, cM E u.2.2.1 iM, cM E u.2.2.2.1 iM, cM E u.2.2.2.2.1 iM, cH E u.2.2.2.2.2.1 (u.2.2.2.2.2.2.1 0) (u.2.2.2.2.2.2.2.1 0) (u.2.2.2.2.2.2.2.2.1 0) (u.2.2.2.2.2.2.2.2.2.1 0) z0, cM E u.2.2.2.2.2.2.1 iM, cM E u.2.2.2.2.2.2.2.1 iM, cM E u.2.2.2.2.2.2.2.2.1 iM, cM E u.2.2.2.2.2.2.2.2.2.1 iM, cS E u.2.2.2.2.2.2.2.2.2.2 iS]) := by
  refine KN.go (cc := cX6_init) (ret := none) (maxL := 1) (own := RX6) (by decide) rfl rfl (Nat.le_of_ble_eq_true rfl) rfl (fun p e s m below meth c A ls hin C0 hw hl => ?_)
  have hx := C0.1
  have hb := C0.2.1
  have hiX0 : ∀ w ∈ wsX00, w ∈ wsX6_init := fun w h => List.mem_cons_of_mem _ (List.mem_append_left _ (List.mem_append_left _ (List.mem_append_left _ (List.mem_append_left _ (List.mem_append_right _ h)))))
  have hiX1 : ∀ w ∈ wsX10, w ∈ wsX6_init := fun w h => List.mem_cons_of_mem _ (List.mem_append_left _ (List.mem_append_left _ (List.mem_append_left _ (List.mem_append_left _ (List.mem_append_left _ (List.mem_append_left _ (List.mem_append_right _ h)))))))
  have hiX4 : ∀ w ∈ wsX40, w ∈ wsX6_init := fun w h => List.mem_cons_of_mem _ (List.mem_append_left _ (List.mem_append_left _ (List.mem_append_left _ (List.mem_append_right _ h))))
  have hiX6 : ∀ w ∈ wsX60, w ∈ wsX6_init := fun w h => List.mem_cons_of_mem _ (List.mem_append_left _ (List.mem_append_left _ (List.mem_append_left _ (List.mem_append_left _ (List.mem_append_left _ (List.mem_append_right _ h))))))
  replace hw : mw E A s.heap s.heap [] (List.flatten [[(q, .inr (6, [.null, .null, .null, .null, .null, .null, .int 0]))]]) := hw
  refine lv_aload_n hx hb dX6_init_0 rfl (lv_at hl 0 rfl) ?_
  refine x_obj C0 hl.1 1 2 3 rfl rfl rfl (Nat.le_of_ble_eq_true rfl) (Nat.le_of_ble_eq_true rfl) dX6_init_1 ?_
  refine lv_aload_n hx hb dX6_init_4 rfl (lv_at hl 0 rfl) ?_
  refine x_new C0 hw 1 hiX1 rfl tyX1 tyX1_ok 4 5 6 rfl rfl rfl (fs := [.null, .null, .null, .null, .int 0, .int 0, .int 0, .int 0, .int 0]) (fun j hj => by rcases (show j = 0 ∨ j = 1 ∨ j = 2 ∨ j = 3 ∨ j = 4 ∨ j = 5 ∨ j = 6 ∨ j = 7 ∨ j = 8 by omega) with rfl | rfl | rfl | rfl | rfl | rfl | rfl | rfl | rfl <;> rfl) (Nat.le_of_ble_eq_true rfl) (Nat.le_of_ble_eq_true rfl) dX6_init_5 (fun q_1 H (hw : mw E A s.heap H _ (List.flatten [[(q, .inr (6, [.null, .null, .null, .null, .null, .null, .int 0]))], [(q_1, .inr (1, [.null, .null, .null, .null, .int 0, .int 0, .int 0, .int 0, .int 0]))]])) => ?_)
  refine lv_dup hx hb dX6_init_8 rfl ?_
  refine x_cIN (rest := [.ref q_1, .ref q]) (F := (List.flatten [[(q, .inr (6, [.null, .null, .null, .null, .null, .null, .int 0]))]])) C0 hw (p_fl1 (d := [(q_1, .inr (1, [.null, .null, .null, .null, .int 0, .int 0, .int 0, .int 0, .int 0]))]) ((p_pk _ 1 _ rfl).trans (List.Perm.cons _ (List.Perm.refl _)))) hl.1 (c_X1_init l E q_1) gX6_init_X1_init_n9 rfl ⟨rfl, rfl⟩ 6 0 20 rfl rfl rfl rfl (by decide +kernel) ⟨(Nat.le_of_ble_eq_true rfl), (Nat.le_of_ble_eq_true rfl)⟩ rfl (Nat.le_of_ble_eq_true rfl) dX6_init_9 ⟨(Nat.le_of_ble_eq_true rfl), (Nat.le_of_ble_eq_true rfl)⟩ (fun b_2 H locs e_q_1 hv => ?_)
  replace e_q_1 : b_2 0 = q_1 := e_q_1
  subst e_q_1
  have hw : mw E A s.heap H locs (List.flatten [[(q, .inr (6, [.null, .null, .null, .null, .null, .null, .int 0]))], cM E b_2 iM]) := hv.perm (p_bk1 (d := cM E b_2 iM) ((p_pk _ 1 _ rfl).trans (List.Perm.cons _ (List.Perm.refl _))))
  refine x_putF (ws' := (List.flatten [[(q, .inr (6, [.ref (b_2 0), .null, .null, .null, .null, .null, .int 0]))], cM E b_2 iM])) C0 hin hw 6 hiX6 rfl tyX6 tyX6_ok nmX6 0 rfl 0 (by decide) 7 rfl rfl rfl rfl rfl (Nat.le_of_ble_eq_true rfl) rfl dX6_init_12 (fun H locs hw => ?_)
  refine lv_aload_n hx hb dX6_init_15 rfl (lv_at hl 0 rfl) ?_
  refine x_new C0 hw 1 hiX1 rfl tyX1 tyX1_ok 4 5 6 rfl rfl rfl (fs := [.null, .null, .null, .null, .int 0, .int 0, .int 0, .int 0, .int 0]) (fun j hj => by rcases (show j = 0 ∨ j = 1 ∨ j = 2 ∨ j = 3 ∨ j = 4 ∨ j = 5 ∨ j = 6 ∨ j = 7 ∨ j = 8 by omega) with rfl | rfl | rfl | rfl | rfl | rfl | rfl | rfl | rfl <;> rfl) (Nat.le_of_ble_eq_true rfl) (Nat.le_of_ble_eq_true rfl) dX6_init_16 (fun q_3 H (hw : mw E A s.heap H _ (List.flatten [[(q, .inr (6, [.ref (b_2 0), .null, .null, .null, .null, .null, .int 0]))], cM E b_2 iM, [(q_3, .inr (1, [.null, .null, .null, .null, .int 0, .int 0, .int 0, .int 0, .int 0]))]])) => ?_)
  refine lv_dup hx hb dX6_init_19 rfl ?_
  refine x_cIN (rest := [.ref q_3, .ref q]) (F := (List.flatten [[(q, .inr (6, [.ref (b_2 0), .null, .null, .null, .null, .null, .int 0]))], cM E b_2 iM])) C0 hw (p_fl1 (d := [(q_3, .inr (1, [.null, .null, .null, .null, .int 0, .int 0, .int 0, .int 0, .int 0]))]) ((p_pk _ 2 _ rfl).trans (List.Perm.cons _ (List.Perm.refl _)))) hl.1 (c_X1_init l E q_3) gX6_init_X1_init_n9 rfl ⟨rfl, rfl⟩ 6 0 20 rfl rfl rfl rfl (by decide +kernel) ⟨(Nat.le_of_ble_eq_true rfl), (Nat.le_of_ble_eq_true rfl)⟩ rfl (Nat.le_of_ble_eq_true rfl) dX6_init_20 ⟨(Nat.le_of_ble_eq_true rfl), (Nat.le_of_ble_eq_true rfl)⟩ (fun b_4 H locs e_q_3 hv => ?_)
  replace e_q_3 : b_4 0 = q_3 := e_q_3
  subst e_q_3
  have hw : mw E A s.heap H locs (List.flatten [[(q, .inr (6, [.ref (b_2 0), .null, .null, .null, .null, .null, .int 0]))], cM E b_2 iM, cM E b_4 iM]) := hv.perm (p_bk1 (d := cM E b_4 iM) ((p_pk _ 2 _ rfl).trans (List.Perm.cons _ (List.Perm.refl _))))
  refine x_putF (ws' := (List.flatten [[(q, .inr (6, [.ref (b_2 0), .ref (b_4 0), .null, .null, .null, .null, .int 0]))], cM E b_2 iM, cM E b_4 iM])) C0 hin hw 6 hiX6 rfl tyX6 tyX6_ok nmX6 0 rfl 1 (by decide) 8 rfl rfl rfl rfl rfl (Nat.le_of_ble_eq_true rfl) rfl dX6_init_23 (fun H locs hw => ?_)
  refine lv_aload_n hx hb dX6_init_26 rfl (lv_at hl 0 rfl) ?_
  refine x_new C0 hw 1 hiX1 rfl tyX1 tyX1_ok 4 5 6 rfl rfl rfl (fs := [.null, .null, .null, .null, .int 0, .int 0, .int 0, .int 0, .int 0]) (fun j hj => by rcases (show j = 0 ∨ j = 1 ∨ j = 2 ∨ j = 3 ∨ j = 4 ∨ j = 5 ∨ j = 6 ∨ j = 7 ∨ j = 8 by omega) with rfl | rfl | rfl | rfl | rfl | rfl | rfl | rfl | rfl <;> rfl) (Nat.le_of_ble_eq_true rfl) (Nat.le_of_ble_eq_true rfl) dX6_init_27 (fun q_5 H (hw : mw E A s.heap H _ (List.flatten [[(q, .inr (6, [.ref (b_2 0), .ref (b_4 0), .null, .null, .null, .null, .int 0]))], cM E b_2 iM, cM E b_4 iM, [(q_5, .inr (1, [.null, .null, .null, .null, .int 0, .int 0, .int 0, .int 0, .int 0]))]])) => ?_)
  refine lv_dup hx hb dX6_init_30 rfl ?_
  refine x_cIN (rest := [.ref q_5, .ref q]) (F := (List.flatten [[(q, .inr (6, [.ref (b_2 0), .ref (b_4 0), .null, .null, .null, .null, .int 0]))], cM E b_2 iM, cM E b_4 iM])) C0 hw (p_fl1 (d := [(q_5, .inr (1, [.null, .null, .null, .null, .int 0, .int 0, .int 0, .int 0, .int 0]))]) ((p_pk _ 3 _ rfl).trans (List.Perm.cons _ (List.Perm.refl _)))) hl.1 (c_X1_init l E q_5) gX6_init_X1_init_n9 rfl ⟨rfl, rfl⟩ 6 0 20 rfl rfl rfl rfl (by decide +kernel) ⟨(Nat.le_of_ble_eq_true rfl), (Nat.le_of_ble_eq_true rfl)⟩ rfl (Nat.le_of_ble_eq_true rfl) dX6_init_31 ⟨(Nat.le_of_ble_eq_true rfl), (Nat.le_of_ble_eq_true rfl)⟩ (fun b_6 H locs e_q_5 hv => ?_)
  replace e_q_5 : b_6 0 = q_5 := e_q_5
  subst e_q_5
  have hw : mw E A s.heap H locs (List.flatten [[(q, .inr (6, [.ref (b_2 0), .ref (b_4 0), .null, .null, .null, .null, .int 0]))], cM E b_2 iM, cM E b_4 iM, cM E b_6 iM]) := hv.perm (p_bk1 (d := cM E b_6 iM) ((p_pk _ 3 _ rfl).trans (List.Perm.cons _ (List.Perm.refl _))))
  refine x_putF (ws' := (List.flatten [[(q, .inr (6, [.ref (b_2 0), .ref (b_4 0), .ref (b_6 0), .null, .null, .null, .int 0]))], cM E b_2 iM, cM E b_4 iM, cM E b_6 iM])) C0 hin hw 6 hiX6 rfl tyX6 tyX6_ok nmX6 0 rfl 2 (by decide) 9 rfl rfl rfl rfl rfl (Nat.le_of_ble_eq_true rfl) rfl dX6_init_34 (fun H locs hw => ?_)
  refine lv_aload_n hx hb dX6_init_37 rfl (lv_at hl 0 rfl) ?_
  refine x_new C0 hw 1 hiX1 rfl tyX1 tyX1_ok 4 5 6 rfl rfl rfl (fs := [.null, .null, .null, .null, .int 0, .int 0, .int 0, .int 0, .int 0]) (fun j hj => by rcases (show j = 0 ∨ j = 1 ∨ j = 2 ∨ j = 3 ∨ j = 4 ∨ j = 5 ∨ j = 6 ∨ j = 7 ∨ j = 8 by omega) with rfl | rfl | rfl | rfl | rfl | rfl | rfl | rfl | rfl <;> rfl) (Nat.le_of_ble_eq_true rfl) (Nat.le_of_ble_eq_true rfl) dX6_init_38 (fun q_7 H (hw : mw E A s.heap H _ (List.flatten [[(q, .inr (6, [.ref (b_2 0), .ref (b_4 0), .ref (b_6 0), .null, .null, .null, .int 0]))], cM E b_2 iM, cM E b_4 iM, cM E b_6 iM, [(q_7, .inr (1, [.null, .null, .null, .null, .int 0, .int 0, .int 0, .int 0, .int 0]))]])) => ?_)
  refine lv_dup hx hb dX6_init_41 rfl ?_
  refine x_cIN (rest := [.ref q_7, .ref q]) (F := (List.flatten [[(q, .inr (6, [.ref (b_2 0), .ref (b_4 0), .ref (b_6 0), .null, .null, .null, .int 0]))], cM E b_2 iM, cM E b_4 iM, cM E b_6 iM])) C0 hw (p_fl1 (d := [(q_7, .inr (1, [.null, .null, .null, .null, .int 0, .int 0, .int 0, .int 0, .int 0]))]) ((p_pk _ 4 _ rfl).trans (List.Perm.cons _ (List.Perm.refl _)))) hl.1 (c_X1_init l E q_7) gX6_init_X1_init_n9 rfl ⟨rfl, rfl⟩ 6 0 20 rfl rfl rfl rfl (by decide +kernel) ⟨(Nat.le_of_ble_eq_true rfl), (Nat.le_of_ble_eq_true rfl)⟩ rfl (Nat.le_of_ble_eq_true rfl) dX6_init_42 ⟨(Nat.le_of_ble_eq_true rfl), (Nat.le_of_ble_eq_true rfl)⟩ (fun b_8 H locs e_q_7 hv => ?_)
  replace e_q_7 : b_8 0 = q_7 := e_q_7
  subst e_q_7
  have hw : mw E A s.heap H locs (List.flatten [[(q, .inr (6, [.ref (b_2 0), .ref (b_4 0), .ref (b_6 0), .null, .null, .null, .int 0]))], cM E b_2 iM, cM E b_4 iM, cM E b_6 iM, cM E b_8 iM]) := hv.perm (p_bk1 (d := cM E b_8 iM) ((p_pk _ 4 _ rfl).trans (List.Perm.cons _ (List.Perm.refl _))))
  refine x_putF (ws' := (List.flatten [[(q, .inr (6, [.ref (b_2 0), .ref (b_4 0), .ref (b_6 0), .ref (b_8 0), .null, .null, .int 0]))], cM E b_2 iM, cM E b_4 iM, cM E b_6 iM, cM E b_8 iM])) C0 hin hw 6 hiX6 rfl tyX6 tyX6_ok nmX6 0 rfl 3 (by decide) 10 rfl rfl rfl rfl rfl (Nat.le_of_ble_eq_true rfl) rfl dX6_init_45 (fun H locs hw => ?_)
  refine lv_aload_n hx hb dX6_init_48 rfl (lv_at hl 0 rfl) ?_
  refine x_new C0 hw 0 hiX0 rfl tyX0 tyX0_ok 11 12 13 rfl rfl rfl (fs := [.null, .int 0, .int 0]) (fun j hj => by rcases (show j = 0 ∨ j = 1 ∨ j = 2 by omega) with rfl | rfl | rfl <;> rfl) (Nat.le_of_ble_eq_true rfl) (Nat.le_of_ble_eq_true rfl) dX6_init_49 (fun q_9 H (hw : mw E A s.heap H _ (List.flatten [[(q, .inr (6, [.ref (b_2 0), .ref (b_4 0), .ref (b_6 0), .ref (b_8 0), .null, .null, .int 0]))], cM E b_2 iM, cM E b_4 iM, cM E b_6 iM, cM E b_8 iM, [(q_9, .inr (0, [.null, .int 0, .int 0]))]])) => ?_)
  refine lv_dup hx hb dX6_init_52 rfl ?_
  refine x_cI (rest := [.ref q_9, .ref q]) (F := (List.flatten [[(q, .inr (6, [.ref (b_2 0), .ref (b_4 0), .ref (b_6 0), .ref (b_8 0), .null, .null, .int 0]))], cM E b_2 iM, cM E b_4 iM, cM E b_6 iM, cM E b_8 iM])) C0 hw (p_fl1 (d := [(q_9, .inr (0, [.null, .int 0, .int 0]))]) ((p_pk _ 5 _ rfl).trans (List.Perm.cons _ (List.Perm.refl _)))) hl.1 (c_X0_init l E q_9) gX6_init_X0_init rfl ⟨rfl, rfl⟩ 13 71 72 rfl rfl rfl rfl (by decide +kernel) ⟨(Nat.le_of_ble_eq_true rfl), (Nat.le_of_ble_eq_true rfl)⟩ rfl (Nat.le_of_ble_eq_true rfl) dX6_init_53 ⟨(Nat.le_of_ble_eq_true rfl), (Nat.le_of_ble_eq_true rfl)⟩ (fun u_15 H locs e_q_9 hv => ?_)
  obtain ⟨b_10, b_11, b_12, b_13, b_14⟩ := u_15
  replace e_q_9 : b_10 0 = q_9 := e_q_9
  subst e_q_9
  have hw : mw E A s.heap H locs (List.flatten [[(q, .inr (6, [.ref (b_2 0), .ref (b_4 0), .ref (b_6 0), .ref (b_8 0), .null, .null, .int 0]))], cM E b_2 iM, cM E b_4 iM, cM E b_6 iM, cM E b_8 iM, List.flatten [cH E b_10 (b_11 0) (b_12 0) (b_13 0) (b_14 0) z0, cM E b_11 iM, cM E b_12 iM, cM E b_13 iM, cM E b_14 iM]]) := hv.perm (p_bk1 (d := List.flatten [cH E b_10 (b_11 0) (b_12 0) (b_13 0) (b_14 0) z0, cM E b_11 iM, cM E b_12 iM, cM E b_13 iM, cM E b_14 iM]) ((p_pk _ 5 _ rfl).trans (List.Perm.cons _ (List.Perm.refl _))))
  refine x_putF (ws' := (List.flatten [[(q, .inr (6, [.ref (b_2 0), .ref (b_4 0), .ref (b_6 0), .ref (b_8 0), .ref (b_10 0), .null, .int 0]))], cM E b_2 iM, cM E b_4 iM, cM E b_6 iM, cM E b_8 iM, List.flatten [cH E b_10 (b_11 0) (b_12 0) (b_13 0) (b_14 0) z0, cM E b_11 iM, cM E b_12 iM, cM E b_13 iM, cM E b_14 iM]])) C0 hin hw 6 hiX6 rfl tyX6 tyX6_ok nmX6 0 rfl 4 (by decide) 14 rfl rfl rfl rfl rfl (Nat.le_of_ble_eq_true rfl) rfl dX6_init_56 (fun H locs hw => ?_)
  refine lv_aload_n hx hb dX6_init_59 rfl (lv_at hl 0 rfl) ?_
  refine x_new C0 hw 4 hiX4 rfl tyX4 tyX4_ok 15 16 17 rfl rfl rfl (fs := [.null, .int 0, .int 0, .null, .int 0, .int 0, .int 0, .int 0]) (fun j hj => by rcases (show j = 0 ∨ j = 1 ∨ j = 2 ∨ j = 3 ∨ j = 4 ∨ j = 5 ∨ j = 6 ∨ j = 7 by omega) with rfl | rfl | rfl | rfl | rfl | rfl | rfl | rfl <;> rfl) (Nat.le_of_ble_eq_true rfl) (Nat.le_of_ble_eq_true rfl) dX6_init_60 (fun q_16 H (hw : mw E A s.heap H _ (List.flatten [[(q, .inr (6, [.ref (b_2 0), .ref (b_4 0), .ref (b_6 0), .ref (b_8 0), .ref (b_10 0), .null, .int 0]))], cM E b_2 iM, cM E b_4 iM, cM E b_6 iM, cM E b_8 iM, List.flatten [cH E b_10 (b_11 0) (b_12 0) (b_13 0) (b_14 0) z0, cM E b_11 iM, cM E b_12 iM, cM E b_13 iM, cM E b_14 iM], [(q_16, .inr (4, [.null, .int 0, .int 0, .null, .int 0, .int 0, .int 0, .int 0]))]])) => ?_)
  refine lv_dup hx hb dX6_init_63 rfl ?_
  refine x_cIN (rest := [.ref q_16, .ref q]) (F := (List.flatten [[(q, .inr (6, [.ref (b_2 0), .ref (b_4 0), .ref (b_6 0), .ref (b_8 0), .ref (b_10 0), .null, .int 0]))], cM E b_2 iM, cM E b_4 iM, cM E b_6 iM, cM E b_8 iM, List.flatten [cH E b_10 (b_11 0) (b_12 0) (b_13 0) (b_14 0) z0, cM E b_11 iM, cM E b_12 iM, cM E b_13 iM, cM E b_14 iM]])) C0 hw (p_fl1 (d := [(q_16, .inr (4, [.null, .int 0, .int 0, .null, .int 0, .int 0, .int 0, .int 0]))]) ((p_pk _ 6 _ rfl).trans (List.Perm.cons _ (List.Perm.refl _)))) hl.1 (c_X4_init l E q_16) gX6_init_X4_init_n34 rfl ⟨rfl, rfl⟩ 17 27 79 rfl rfl rfl rfl (by decide +kernel) ⟨(Nat.le_of_ble_eq_true rfl), (Nat.le_of_ble_eq_true rfl)⟩ rfl (Nat.le_of_ble_eq_true rfl) dX6_init_64 ⟨(Nat.le_of_ble_eq_true rfl), (Nat.le_of_ble_eq_true rfl)⟩ (fun b_17 H locs e_q_16 hv => ?_)
  replace e_q_16 : b_17 0 = q_16 := e_q_16
  subst e_q_16
  have hw : mw E A s.heap H locs (List.flatten [[(q, .inr (6, [.ref (b_2 0), .ref (b_4 0), .ref (b_6 0), .ref (b_8 0), .ref (b_10 0), .null, .int 0]))], cM E b_2 iM, cM E b_4 iM, cM E b_6 iM, cM E b_8 iM, List.flatten [cH E b_10 (b_11 0) (b_12 0) (b_13 0) (b_14 0) z0, cM E b_11 iM, cM E b_12 iM, cM E b_13 iM, cM E b_14 iM], cS E b_17 iS]) := hv.perm (p_bk1 (d := cS E b_17 iS) ((p_pk _ 6 _ rfl).trans (List.Perm.cons _ (List.Perm.refl _))))
  refine x_putF (ws' := (List.flatten [[(q, .inr (6, [.ref (b_2 0), .ref (b_4 0), .ref (b_6 0), .ref (b_8 0), .ref (b_10 0), .ref (b_17 0), .int 0]))], cM E b_2 iM, cM E b_4 iM, cM E b_6 iM, cM E b_8 iM, List.flatten [cH E b_10 (b_11 0) (b_12 0) (b_13 0) (b_14 0) z0, cM E b_11 iM, cM E b_12 iM, cM E b_13 iM, cM E b_14 iM], cS E b_17 iS])) C0 hin hw 6 hiX6 rfl tyX6 tyX6_ok nmX6 0 rfl 5 (by decide) 18 rfl rfl rfl rfl rfl (Nat.le_of_ble_eq_true rfl) rfl dX6_init_67 (fun H locs hw => ?_)
  refine lv_aload_n hx hb dX6_init_70 rfl (lv_at hl 0 rfl) ?_
  refine lv_iconst (v := 0) hx hb dX6_init_71 (by decide) ?_
  refine x_put (ws' := (List.flatten [[(q, .inr (6, [.ref (b_2 0), .ref (b_4 0), .ref (b_6 0), .ref (b_8 0), .ref (b_10 0), .ref (b_17 0), .int 0]))], cM E b_2 iM, cM E b_4 iM, cM E b_6 iM, cM E b_8 iM, List.flatten [cH E b_10 (b_11 0) (b_12 0) (b_13 0) (b_14 0) z0, cM E b_11 iM, cM E b_12 iM, cM E b_13 iM, cM E b_14 iM], cS E b_17 iS])) C0 hw 6 hiX6 rfl tyX6 tyX6_ok nmX6 0 rfl 6 (by decide) 19 rfl rfl rfl rfl (Nat.le_of_ble_eq_true rfl) rfl dX6_init_72 (fun H locs hw => ?_)
  exact x_retN C0 ⟨adr [q], b_2, b_4, b_6, b_8, b_10, b_11, b_12, b_13, b_14, b_17⟩ hw rfl (Nat.le_of_ble_eq_true rfl) (Nat.le_of_ble_eq_true rfl) dX6_init_75
