abbrev rmX6_count : Room := { frames := 4, cells := 0, slots := 0, locals := 88 }
set_option maxRecDepth 100000 in
set_option maxHeartbeats 4000000 in
theorem c_X6_count (l : Launch) (E : EE) (aG : Nat → Nat) (a0 : Nat → Nat) (a1 : Nat → Nat) (a2 : Nat → Nat) (a3 : Nat → Nat) (aH : Nat → Nat) (h0 : Nat → Nat) (h1 : Nat → Nat) (h2 : Nat → Nat) (h3 : Nat → Nat) (aS : Nat → Nat) {v0 : V} {v1 : V} {v2 : V} {v3 : V}  {p1 : Int32} {post : Int32 → V → V → V → V → Prop} (h : s_X6_count v0 v1 v2 v3 p1 post) : KI l E yX6_count wsX6_count rmX6_count [.ref (aG 0), .int p1] (List.flatten [cG aG (a0 0) (a1 0) (a2 0) (a3 0) (aH 0) (aS 0) v0, cM E a0 v1, cH E aH (h0 0) (h1 0) (h2 0) (h3 0) v2, cS E aS v3]) (S := V × V × V × V) (fun r (u : V × V × V × V) => post r u.1 u.2.1 u.2.2.1 u.2.2.2) (fun (u : V × V × V × V) => (List.flatten [cG aG (a0 0) (a1 0) (a2 0) (a3 0) (aH 0) (aS 0) u.1, cM E a0 u.2.1, cH E aH (h0 0) (h1 0) (h2 0) (h3 0) u.2.2.1, cS E aS u.2.2.2])) := by
  unfold s_X6_count at h
  refine KI.go (cc := cX6_count) (ret := (some .int)) (maxL := 2) (own := RX6) (by decide) rfl (Nat.le_of_ble_eq_true rfl) rfl (fun p e s m below meth c A ls C0 hw hl => ?_)
  have hx := C0.1
  have hb := C0.2.1
  have hiX0 : ∀ w ∈ wsX00, w ∈ wsX6_count := fun w h => List.mem_cons_of_mem _ (List.mem_append_left _ (List.mem_append_left _ (List.mem_append_left _ (List.mem_append_left _ (List.mem_append_left _ (List.mem_append_right _ h))))))
  have hiX4 : ∀ w ∈ wsX40, w ∈ wsX6_count := fun w h => List.mem_cons_of_mem _ (List.mem_append_left _ (List.mem_append_left _ (List.mem_append_left _ (List.mem_append_left _ (List.mem_append_right _ h)))))
  have hiX6 : ∀ w ∈ wsX60, w ∈ wsX6_count := fun w h => List.mem_cons_of_mem _ (List.mem_append_left _ (List.mem_append_left _ (List.mem_append_left _ (List.mem_append_left _ (List.mem_append_left _ (List.mem_append_left _ (List.mem_append_right _ h)))))))
  replace hl : lv_has ls 2 [(0, .ref (aG 0)), (1, .int p1)] := hl
  refine lv_iload_n hx hb dX6_count_0 rfl (lv_at hl 1 rfl) ?_
  by_cases c_1 : p1 = 11
  · replace h := h.1 c_1
    refine x_tabIn (tgt := 28) C0 11 c_1 dX6_count_1 (by decide) (by decide) rfl (by decide) ?_
    refine lv_aload_n hx hb dX6_count_28 rfl (lv_at hl 0 rfl) ?_
    refine x_get C0 hw 6 hiX6 rfl 0 rfl 4 (by decide) 1 rfl rfl dX6_count_29 ?_
    refine x_getN C0 hw 0 hiX0 rfl 24 rfl 2 (by decide) 26 rfl rfl dX6_count_32 ?_
    exact x_ret C0 ⟨v0, v1, v2, v3⟩ hw h dX6_count_35
  replace h := h.2
  by_cases c_2 : p1 = 12
  · replace h := h.1 c_2
    refine x_tabIn (tgt := 36) C0 12 c_2 dX6_count_1 (by decide) (by decide) rfl (by decide) ?_
    refine lv_aload_n hx hb dX6_count_36 rfl (lv_at hl 0 rfl) ?_
    refine x_get C0 hw 6 hiX6 rfl 0 rfl 5 (by decide) 2 rfl rfl dX6_count_37 ?_
    refine x_getN C0 hw 4 hiX4 rfl 26 rfl 1 (by decide) 28 rfl rfl dX6_count_40 ?_
    exact x_ret C0 ⟨v0, v1, v2, v3⟩ hw h dX6_count_43
  replace h := h.2
  by_cases c_4 : p1 = 13
  · replace h := h.1 c_4
    refine x_tabIn (tgt := 44) C0 13 c_4 dX6_count_1 (by decide) (by decide) rfl (by decide) ?_
    refine lv_aload_n hx hb dX6_count_44 rfl (lv_at hl 0 rfl) ?_
    refine x_get C0 hw 6 hiX6 rfl 0 rfl 6 (by decide) 3 rfl rfl dX6_count_45 ?_
    refine lv_if_eq (tgt := 55) hx hb dX6_count_48 (by decide) (fun c_3 => ?_) (fun c_3 => ?_)
    · replace h := h.1 c_3
      refine lv_iconst (v := 0) hx hb dX6_count_55 (by decide) ?_
      exact x_ret C0 ⟨v0, v1, v2, v3⟩ hw h dX6_count_56
    · replace h := h.2 c_3
      refine lv_iconst (v := 1) hx hb dX6_count_51 (by decide) ?_
      refine lv_goto (tgt := 56) hx hb dX6_count_52 (by decide) ?_
      exact x_ret C0 ⟨v0, v1, v2, v3⟩ hw h dX6_count_56
  replace h := h.2
  have cD : p1.toInt < 11 ∨ 13 < p1.toInt := by
    have := ne_toInt (z := 11) (by decide) c_1
    have := ne_toInt (z := 12) (by decide) c_2
    have := ne_toInt (z := 13) (by decide) c_4
    omega
  replace h := h cD
  refine lv_tableOut (tgt := 57) hx hb dX6_count_1 cD (by decide) ?_
  refine lv_aload_n hx hb dX6_count_57 rfl (lv_at hl 0 rfl) ?_
  refine x_get C0 hw 6 hiX6 rfl 0 rfl 0 (by decide) 4 rfl rfl dX6_count_58 ?_
  refine lv_iload_n hx hb dX6_count_61 rfl (lv_at hl 1 rfl) ?_
  refine x_cV (As := [.int p1]) (rest := []) (F := (List.flatten [cG aG (a0 0) (a1 0) (a2 0) (a3 0) (aH 0) (aS 0) v0, cH E aH (h0 0) (h1 0) (h2 0) (h3 0) v2, cS E aS v3])) C0 hw (p_fl1 ((p_pk _ 1 _ rfl).trans (List.Perm.cons _ (List.Perm.refl _)))) hl.1 1 1 rfl rfl (c_X1_tellNumber l E a0 h) 1 gX6_count_X1_tellNumber rfl ⟨rfl, rfl⟩ (by decide +kernel) ⟨Nat.le_of_ble_eq_true rfl, Nat.le_of_ble_eq_true rfl⟩ rfl rfl (Nat.le_of_ble_eq_true rfl) dX6_count_62 ⟨Nat.zero_le _, Nat.zero_le _⟩ (fun r_5 v_6 H locs h hw => ?_)
  replace hw : mw E A s.heap H locs (List.flatten [cG aG (a0 0) (a1 0) (a2 0) (a3 0) (aH 0) (aS 0) v0, cM E a0 v_6, cH E aH (h0 0) (h1 0) (h2 0) (h3 0) v2, cS E aS v3]) := hw.perm (p_bk1 ((p_pk _ 1 _ rfl).trans (List.Perm.cons _ (List.Perm.refl _))))
  exact x_ret C0 ⟨v0, v_6, v2, v3⟩ hw h dX6_count_65

abbrev rmX6_grades : Room := { frames := 4, cells := 0, slots := 0, locals := 90 }
set_option maxRecDepth 100000 in
set_option maxHeartbeats 4000000 in
theorem c_X6_grades (l : Launch) (E : EE) (aG : Nat → Nat) (a0 : Nat → Nat) (a1 : Nat → Nat) (a2 : Nat → Nat) (a3 : Nat → Nat) (aH : Nat → Nat) (h0 : Nat → Nat) (h1 : Nat → Nat) (h2 : Nat → Nat) (h3 : Nat → Nat) (aS : Nat → Nat) {v0 : V} {v1 : V}  {p1 : Int32} {post : Int32 → V → V → Prop} (h : s_X6_grades v0 v1 p1 post) : KI l E yX6_grades wsX6_grades rmX6_grades [.ref (aG 0), .int p1] (List.flatten [cG aG (a0 0) (a1 0) (a2 0) (a3 0) (aH 0) (aS 0) v0, cM E a0 v1]) (S := V × V) (fun r (u : V × V) => post r u.1 u.2) (fun (u : V × V) => (List.flatten [cG aG (a0 0) (a1 0) (a2 0) (a3 0) (aH 0) (aS 0) u.1, cM E a0 u.2])) := by
  unfold s_X6_grades at h
  refine KI.go (cc := cX6_grades) (ret := (some .int)) (maxL := 2) (own := RX6) (by decide) rfl (Nat.le_of_ble_eq_true rfl) rfl (fun p e s m below meth c A ls C0 hw hl => ?_)
  have hx := C0.1
  have hb := C0.2.1
  have hiX1 : ∀ w ∈ wsX10, w ∈ wsX6_grades := fun w h => List.mem_cons_of_mem _ (List.mem_append_left _ (List.mem_append_right _ h))
  have hiX6 : ∀ w ∈ wsX60, w ∈ wsX6_grades := fun w h => List.mem_cons_of_mem _ (List.mem_append_left _ (List.mem_append_left _ (List.mem_append_right _ h)))
  replace hl : lv_has ls 2 [(0, .ref (aG 0)), (1, .int p1)] := hl
  refine lv_aload_n hx hb dX6_grades_0 rfl (lv_at hl 0 rfl) ?_
  refine x_get C0 hw 6 hiX6 rfl 0 rfl 0 (by decide) 1 rfl rfl dX6_grades_1 ?_
  refine lv_iload_n hx hb dX6_grades_4 rfl (lv_at hl 1 rfl) ?_
  refine x_cV (As := [.int p1]) (rest := []) (F := (List.flatten [cG aG (a0 0) (a1 0) (a2 0) (a3 0) (aH 0) (aS 0) v0])) C0 hw (p_fl1 ((p_pk _ 1 _ rfl).trans (List.Perm.cons _ (List.Perm.refl _)))) hl.1 1 1 rfl rfl (c_X1_hasDealer l E a0 h) 1 gX6_grades_X1_hasDealer rfl ⟨rfl, rfl⟩ (by decide +kernel) ⟨Nat.le_of_ble_eq_true rfl, Nat.le_of_ble_eq_true rfl⟩ rfl rfl (Nat.le_of_ble_eq_true rfl) dX6_grades_5 ⟨Nat.zero_le _, Nat.zero_le _⟩ (fun r_1 v_2 H locs h hw => ?_)
  replace hw : mw E A s.heap H locs (List.flatten [cG aG (a0 0) (a1 0) (a2 0) (a3 0) (aH 0) (aS 0) v0, cM E a0 v_2]) := hw.perm (p_bk1 ((p_pk _ 1 _ rfl).trans (List.Perm.cons _ (List.Perm.refl _))))
  refine lv_if_ne (tgt := 14) hx hb dX6_grades_8 (by decide) (fun c_5 => ?_) (fun c_5 => ?_)
  · replace h := h.1 c_5
    refine lv_aload_n hx hb dX6_grades_14 rfl (lv_at hl 0 rfl) ?_
    refine x_get C0 hw 6 hiX6 rfl 0 rfl 0 (by decide) 1 rfl rfl dX6_grades_15 ?_
    refine x_getN C0 hw 1 hiX1 rfl 1 rfl 1 (by decide) 22 rfl rfl dX6_grades_18 ?_
    refine lv_iload_n hx hb dX6_grades_21 rfl (lv_at hl 1 rfl) ?_
    refine x_cV (As := [.int p1]) (rest := []) (F := (List.flatten [cG aG (a0 0) (a1 0) (a2 0) (a3 0) (aH 0) (aS 0) v0])) C0 hw (p_fl1 ((p_pk _ 1 _ rfl).trans (List.Perm.cons _ (List.Perm.refl _)))) hl.1 7 5 rfl rfl (c_X5_unlikeGrades l E a0 h) 1 gX6_grades_X5_unlikeGrades rfl ⟨rfl, rfl⟩ (by decide +kernel) ⟨Nat.le_of_ble_eq_true rfl, Nat.le_of_ble_eq_true rfl⟩ rfl rfl (Nat.le_of_ble_eq_true rfl) dX6_grades_22 ⟨Nat.zero_le _, Nat.zero_le _⟩ (fun r_3 v_4 H locs h hw => ?_)
    replace hw : mw E A s.heap H locs (List.flatten [cG aG (a0 0) (a1 0) (a2 0) (a3 0) (aH 0) (aS 0) v0, cM E a0 v_4]) := hw.perm (p_bk1 ((p_pk _ 1 _ rfl).trans (List.Perm.cons _ (List.Perm.refl _))))
    exact x_ret C0 ⟨v0, v_4⟩ hw h dX6_grades_25
  · replace h := h.2 c_5
    refine x_ldc (v := (-10000001)) C0 2 rfl dX6_grades_11 ?_
    exact x_ret C0 ⟨v0, v_2⟩ hw h dX6_grades_13

abbrev rmX6_mark : Room := { frames := 3, cells := 0, slots := 0, locals := 68 }
set_option maxRecDepth 100000 in
set_option maxHeartbeats 4000000 in
theorem c_X6_mark (l : Launch) (E : EE) (aG : Nat → Nat) (a0 : Nat → Nat) (a1 : Nat → Nat) (a2 : Nat → Nat) (a3 : Nat → Nat) (aH : Nat → Nat) (h0 : Nat → Nat) (h1 : Nat → Nat) (h2 : Nat → Nat) (h3 : Nat → Nat) (aS : Nat → Nat) {v0 : V} {v1 : V} {v2 : V}   {post : Int32 → V → V → V → Prop} (h : s_X6_mark v0 v1 v2 post) : KI l E yX6_mark wsX6_mark rmX6_mark [.ref (aG 0)] (List.flatten [cG aG (a0 0) (a1 0) (a2 0) (a3 0) (aH 0) (aS 0) v0, cM E a0 v1, cM E a3 v2]) (S := V × V × V) (fun r (u : V × V × V) => post r u.1 u.2.1 u.2.2) (fun (u : V × V × V) => (List.flatten [cG aG (a0 0) (a1 0) (a2 0) (a3 0) (aH 0) (aS 0) u.1, cM E a0 u.2.1, cM E a3 u.2.2])) := by
  unfold s_X6_mark at h
  refine KI.go (cc := cX6_mark) (ret := (some .int)) (maxL := 1) (own := RX6) (by decide) rfl (Nat.le_of_ble_eq_true rfl) rfl (fun p e s m below meth c A ls C0 hw hl => ?_)
  have hx := C0.1
  have hb := C0.2.1
  have hiX1 : ∀ w ∈ wsX10, w ∈ wsX6_mark := fun w h => List.mem_cons_of_mem _ (List.mem_append_left _ (List.mem_append_left _ (List.mem_append_left _ (List.mem_append_right _ h))))
  have hiX6 : ∀ w ∈ wsX60, w ∈ wsX6_mark := fun w h => List.mem_cons_of_mem _ (List.mem_append_left _ (List.mem_append_left _ (List.mem_append_left _ (List.mem_append_left _ (List.mem_append_right _ h)))))
  replace hl : lv_has ls 1 [(0, .ref (aG 0))] := hl
  refine lv_aload_n hx hb dX6_mark_0 rfl (lv_at hl 0 rfl) ?_
  refine x_get C0 hw 6 hiX6 rfl 0 rfl 3 (by decide) 1 rfl rfl dX6_mark_1 ?_
  refine lv_aload_n hx hb dX6_mark_4 rfl (lv_at hl 0 rfl) ?_
  refine x_get C0 hw 6 hiX6 rfl 0 rfl 0 (by decide) 2 rfl rfl dX6_mark_5 ?_
  refine x_cVv (As := [.ref (a0 0)]) (rest := []) (F := (List.flatten [cG aG (a0 0) (a1 0) (a2 0) (a3 0) (aH 0) (aS 0) v0])) C0 hw (p_fl (ds := [cM E a3 v2, cM E a0 v1]) ((p_pk _ 2 _ rfl).trans (List.Perm.cons _ ((p_pk _ 1 _ rfl).trans (List.Perm.cons _ (List.Perm.refl _)))))) hl.1 24 1 rfl rfl (c_X1_copyFrom l E a3 a0 h) 1 gX6_mark_X1_copyFrom rfl ⟨rfl, rfl⟩ (by decide +kernel) ⟨Nat.le_of_ble_eq_true rfl, Nat.le_of_ble_eq_true rfl⟩ rfl rfl (Nat.le_of_ble_eq_true rfl) dX6_mark_8 ⟨Nat.zero_le _, Nat.zero_le _⟩ (fun u_4 H locs h hw => ?_)
  obtain ⟨v_1, v_2⟩ := u_4
  replace hw : mw E A s.heap H locs (List.flatten [cG aG (a0 0) (a1 0) (a2 0) (a3 0) (aH 0) (aS 0) v0, cM E a0 v_2, cM E a3 v_1]) := hw.perm (p_bk (ds := [cM E a3 v_1, cM E a0 v_2]) ((p_pk _ 2 _ rfl).trans (List.Perm.cons _ ((p_pk _ 1 _ rfl).trans (List.Perm.cons _ (List.Perm.refl _))))))
  refine lv_aload_n hx hb dX6_mark_11 rfl (lv_at hl 0 rfl) ?_
  refine lv_iconst (v := 1) hx hb dX6_mark_12 (by decide) ?_
  refine x_put (ws' := (List.flatten [cG aG (a0 0) (a1 0) (a2 0) (a3 0) (aH 0) (aS 0) ((sc v0 0 6 1)), cM E a0 v_2, cM E a3 v_1])) C0 hw 6 hiX6 rfl tyX6 tyX6_ok nmX6 0 rfl 6 (by decide) 3 rfl rfl rfl rfl (Nat.le_of_ble_eq_true rfl) rfl dX6_mark_13 (fun H locs hw => ?_)
  obtain ⟨v_3, e_v_3⟩ : ∃ z, z = sc v0 0 6 1 := ⟨_, rfl⟩
  rw [← e_v_3] at hw
  replace h := h v_3 e_v_3
  refine lv_aload_n hx hb dX6_mark_16 rfl (lv_at hl 0 rfl) ?_
  refine x_get C0 hw 6 hiX6 rfl 0 rfl 0 (by decide) 2 rfl rfl dX6_mark_17 ?_
  refine x_getN C0 hw 1 hiX1 rfl 1 rfl 5 (by decide) 24 rfl rfl dX6_mark_20 ?_
  exact x_ret C0 ⟨v_3, v_2, v_1⟩ hw h dX6_mark_23

abbrev rmX6_restore : Room := { frames := 4, cells := 0, slots := 0, locals := 90 }
set_option maxRecDepth 100000 in
set_option maxHeartbeats 4000000 in
theorem c_X6_restore (l : Launch) (E : EE) (aG : Nat → Nat) (a0 : Nat → Nat) (a1 : Nat → Nat) (a2 : Nat → Nat) (a3 : Nat → Nat) (aH : Nat → Nat) (h0 : Nat → Nat) (h1 : Nat → Nat) (h2 : Nat → Nat) (h3 : Nat → Nat) (aS : Nat → Nat) {v0 : V} {v1 : V} {v2 : V} {v3 : V} {v4 : V} {v5 : V} {v6 : V} {v7 : V}   {post : Int32 → V → V → V → V → V → V → V → V → Prop} (h : s_X6_restore v0 v1 v2 v3 v4 v5 v6 v7 post) : KI l E yX6_restore wsX6_restore rmX6_restore [.ref (aG 0)] (List.flatten [cG aG (a0 0) (a1 0) (a2 0) (a3 0) (aH 0) (aS 0) v0, cM E a0 v1, cM E a3 v2, cH E aH (h0 0) (h1 0) (h2 0) (h3 0) v3, cM E h0 v4, cM E h1 v5, cM E h2 v6, cM E h3 v7]) (S := V × V × V × V × V × V × V × V) (fun r (u : V × V × V × V × V × V × V × V) => post r u.1 u.2.1 u.2.2.1 u.2.2.2.1 u.2.2.2.2.1 u.2.2.2.2.2.1 u.2.2.2.2.2.2.1 u.2.2.2.2.2.2.2) (fun (u : V × V × V × V × V × V × V × V) => (List.flatten [cG aG (a0 0) (a1 0) (a2 0) (a3 0) (aH 0) (aS 0) u.1, cM E a0 u.2.1, cM E a3 u.2.2.1, cH E aH (h0 0) (h1 0) (h2 0) (h3 0) u.2.2.2.1, cM E h0 u.2.2.2.2.1, cM E h1 u.2.2.2.2.2.1, cM E h2 u.2.2.2.2.2.2.1, cM E h3 u.2.2.2.2.2.2.2])) := by
  unfold s_X6_restore at h
  refine KI.go (cc := cX6_restore) (ret := (some .int)) (maxL := 1) (own := RX6) (by decide) rfl (Nat.le_of_ble_eq_true rfl) rfl (fun p e s m below meth c A ls C0 hw hl => ?_)
  have hx := C0.1
  have hb := C0.2.1
  have hiX1 : ∀ w ∈ wsX10, w ∈ wsX6_restore := fun w h => List.mem_cons_of_mem _ (List.mem_append_left _ (List.mem_append_left _ (List.mem_append_left _ (List.mem_append_left _ (List.mem_append_right _ h)))))
  have hiX6 : ∀ w ∈ wsX60, w ∈ wsX6_restore := fun w h => List.mem_cons_of_mem _ (List.mem_append_left _ (List.mem_append_left _ (List.mem_append_left _ (List.mem_append_left _ (List.mem_append_left _ (List.mem_append_right _ h))))))
  replace hl : lv_has ls 1 [(0, .ref (aG 0))] := hl
  refine lv_aload_n hx hb dX6_restore_0 rfl (lv_at hl 0 rfl) ?_
  refine x_get C0 hw 6 hiX6 rfl 0 rfl 6 (by decide) 1 rfl rfl dX6_restore_1 ?_
  refine lv_if_ne (tgt := 10) hx hb dX6_restore_4 (by decide) (fun c_11 => ?_) (fun c_11 => ?_)
  · replace h := h.1 c_11
    refine lv_aload_n hx hb dX6_restore_10 rfl (lv_at hl 0 rfl) ?_
    refine x_get C0 hw 6 hiX6 rfl 0 rfl 4 (by decide) 3 rfl rfl dX6_restore_11 ?_
    refine lv_aload_n hx hb dX6_restore_14 rfl (lv_at hl 0 rfl) ?_
    refine x_get C0 hw 6 hiX6 rfl 0 rfl 0 (by decide) 4 rfl rfl dX6_restore_15 ?_
    refine x_cVv (As := [.ref (a0 0)]) (rest := []) (F := (List.flatten [cG aG (a0 0) (a1 0) (a2 0) (a3 0) (aH 0) (aS 0) v0, cM E a3 v2])) C0 hw (p_fl (ds := [cH E aH (h0 0) (h1 0) (h2 0) (h3 0) v3, cM E h0 v4, cM E h1 v5, cM E h2 v6, cM E h3 v7, cM E a0 v1]) ((p_pk _ 3 _ rfl).trans (List.Perm.cons _ ((p_pk _ 3 _ rfl).trans (List.Perm.cons _ ((p_pk _ 3 _ rfl).trans (List.Perm.cons _ ((p_pk _ 3 _ rfl).trans (List.Perm.cons _ ((p_pk _ 3 _ rfl).trans (List.Perm.cons _ ((p_pk _ 1 _ rfl).trans (List.Perm.cons _ (List.Perm.refl _)))))))))))))) hl.1 47 0 rfl rfl (c_X0_push l E aH h0 h1 h2 h3 a0 h) 1 gX6_restore_X0_push rfl ⟨rfl, rfl⟩ (by decide +kernel) ⟨Nat.le_of_ble_eq_true rfl, Nat.le_of_ble_eq_true rfl⟩ rfl rfl (Nat.le_of_ble_eq_true rfl) dX6_restore_18 ⟨Nat.zero_le _, Nat.zero_le _⟩ (fun u_10 H locs h hw => ?_)
    obtain ⟨v_1, v_2, v_3, v_4, v_5, v_6⟩ := u_10
    replace hw : mw E A s.heap H locs (List.flatten [cG aG (a0 0) (a1 0) (a2 0) (a3 0) (aH 0) (aS 0) v0, cM E a0 v_6, cM E a3 v2, cH E aH (h0 0) (h1 0) (h2 0) (h3 0) v_1, cM E h0 v_2, cM E h1 v_3, cM E h2 v_4, cM E h3 v_5]) := hw.perm (p_bk (ds := [cH E aH (h0 0) (h1 0) (h2 0) (h3 0) v_1, cM E h0 v_2, cM E h1 v_3, cM E h2 v_4, cM E h3 v_5, cM E a0 v_6]) ((p_pk _ 3 _ rfl).trans (List.Perm.cons _ ((p_pk _ 3 _ rfl).trans (List.Perm.cons _ ((p_pk _ 3 _ rfl).trans (List.Perm.cons _ ((p_pk _ 3 _ rfl).trans (List.Perm.cons _ ((p_pk _ 3 _ rfl).trans (List.Perm.cons _ ((p_pk _ 1 _ rfl).trans (List.Perm.cons _ (List.Perm.refl _))))))))))))))
    refine lv_aload_n hx hb dX6_restore_21 rfl (lv_at hl 0 rfl) ?_
    refine x_get C0 hw 6 hiX6 rfl 0 rfl 0 (by decide) 4 rfl rfl dX6_restore_22 ?_
    refine lv_aload_n hx hb dX6_restore_25 rfl (lv_at hl 0 rfl) ?_
    refine x_get C0 hw 6 hiX6 rfl 0 rfl 3 (by decide) 5 rfl rfl dX6_restore_26 ?_
    refine x_cVv (As := [.ref (a3 0)]) (rest := []) (F := (List.flatten [cG aG (a0 0) (a1 0) (a2 0) (a3 0) (aH 0) (aS 0) v0, cH E aH (h0 0) (h1 0) (h2 0) (h3 0) v_1, cM E h0 v_2, cM E h1 v_3, cM E h2 v_4, cM E h3 v_5])) C0 hw (p_fl (ds := [cM E a0 v_6, cM E a3 v2]) ((p_pk _ 1 _ rfl).trans (List.Perm.cons _ ((p_pk _ 1 _ rfl).trans (List.Perm.cons _ (List.Perm.refl _)))))) hl.1 1 1 rfl rfl (c_X1_copyFrom l E a0 a3 h) 1 gX6_restore_X1_copyFrom rfl ⟨rfl, rfl⟩ (by decide +kernel) ⟨Nat.le_of_ble_eq_true rfl, Nat.le_of_ble_eq_true rfl⟩ rfl rfl (Nat.le_of_ble_eq_true rfl) dX6_restore_29 ⟨Nat.zero_le _, Nat.zero_le _⟩ (fun u_9 H locs h hw => ?_)
    obtain ⟨v_7, v_8⟩ := u_9
    replace hw : mw E A s.heap H locs (List.flatten [cG aG (a0 0) (a1 0) (a2 0) (a3 0) (aH 0) (aS 0) v0, cM E a0 v_7, cM E a3 v_8, cH E aH (h0 0) (h1 0) (h2 0) (h3 0) v_1, cM E h0 v_2, cM E h1 v_3, cM E h2 v_4, cM E h3 v_5]) := hw.perm (p_bk (ds := [cM E a0 v_7, cM E a3 v_8]) ((p_pk _ 1 _ rfl).trans (List.Perm.cons _ ((p_pk _ 1 _ rfl).trans (List.Perm.cons _ (List.Perm.refl _))))))
    refine lv_aload_n hx hb dX6_restore_32 rfl (lv_at hl 0 rfl) ?_
    refine x_get C0 hw 6 hiX6 rfl 0 rfl 0 (by decide) 4 rfl rfl dX6_restore_33 ?_
    refine x_getN C0 hw 1 hiX1 rfl 1 rfl 5 (by decide) 24 rfl rfl dX6_restore_36 ?_
    exact x_ret C0 ⟨v0, v_7, v_8, v_1, v_2, v_3, v_4, v_5⟩ hw h dX6_restore_39
  · replace h := h.2 c_11
    refine x_ldc (v := (-10000002)) C0 2 rfl dX6_restore_7 ?_
    exact x_ret C0 ⟨v0, v1, v2, v3, v4, v5, v6, v7⟩ hw h dX6_restore_9

abbrev rmX6_undo : Room := { frames := 4, cells := 0, slots := 0, locals := 90 }
set_option maxRecDepth 100000 in
set_option maxHeartbeats 4000000 in
theorem c_X6_undo (l : Launch) (E : EE) (aG : Nat → Nat) (a0 : Nat → Nat) (a1 : Nat → Nat) (a2 : Nat → Nat) (a3 : Nat → Nat) (aH : Nat → Nat) (h0 : Nat → Nat) (h1 : Nat → Nat) (h2 : Nat → Nat) (h3 : Nat → Nat) (aS : Nat → Nat) {v0 : V} {v1 : V} {v2 : V} {v3 : V} {v4 : V} {v5 : V} {v6 : V}   {post : Int32 → V → V → V → V → V → V → V → Prop} (h : s_X6_undo v0 v1 v2 v3 v4 v5 v6 post) : KI l E yX6_undo wsX6_undo rmX6_undo [.ref (aG 0)] (List.flatten [cG aG (a0 0) (a1 0) (a2 0) (a3 0) (aH 0) (aS 0) v0, cM E a0 v1, cH E aH (h0 0) (h1 0) (h2 0) (h3 0) v2, cM E h0 v3, cM E h1 v4, cM E h2 v5, cM E h3 v6]) (S := V × V × V × V × V × V × V) (fun r (u : V × V × V × V × V × V × V) => post r u.1 u.2.1 u.2.2.1 u.2.2.2.1 u.2.2.2.2.1 u.2.2.2.2.2.1 u.2.2.2.2.2.2) (fun (u : V × V × V × V × V × V × V) => (List.flatten [cG aG (a0 0) (a1 0) (a2 0) (a3 0) (aH 0) (aS 0) u.1, cM E a0 u.2.1, cH E aH (h0 0) (h1 0) (h2 0) (h3 0) u.2.2.1, cM E h0 u.2.2.2.1, cM E h1 u.2.2.2.2.1, cM E h2 u.2.2.2.2.2.1, cM E h3 u.2.2.2.2.2.2])) := by
  unfold s_X6_undo at h
  refine KI.go (cc := cX6_undo) (ret := (some .int)) (maxL := 1) (own := RX6) (by decide) rfl (Nat.le_of_ble_eq_true rfl) rfl (fun p e s m below meth c A ls C0 hw hl => ?_)
  have hx := C0.1
  have hb := C0.2.1
  have hiX0 : ∀ w ∈ wsX00, w ∈ wsX6_undo := fun w h => List.mem_cons_of_mem _ (List.mem_append_left _ (List.mem_append_left _ (List.mem_append_left _ (List.mem_append_left _ (List.mem_append_right _ h)))))
  have hiX6 : ∀ w ∈ wsX60, w ∈ wsX6_undo := fun w h => List.mem_cons_of_mem _ (List.mem_append_left _ (List.mem_append_left _ (List.mem_append_left _ (List.mem_append_left _ (List.mem_append_left _ (List.mem_append_right _ h))))))
  replace hl : lv_has ls 1 [(0, .ref (aG 0))] := hl
  refine lv_aload_n hx hb dX6_undo_0 rfl (lv_at hl 0 rfl) ?_
  refine x_get C0 hw 6 hiX6 rfl 0 rfl 4 (by decide) 1 rfl rfl dX6_undo_1 ?_
  refine x_getN C0 hw 0 hiX0 rfl 24 rfl 2 (by decide) 26 rfl rfl dX6_undo_4 ?_
  refine lv_if_ne (tgt := 13) hx hb dX6_undo_7 (by decide) (fun c_8 => ?_) (fun c_8 => ?_)
  · replace h := h.1 c_8
    refine lv_aload_n hx hb dX6_undo_13 rfl (lv_at hl 0 rfl) ?_
    refine x_get C0 hw 6 hiX6 rfl 0 rfl 4 (by decide) 1 rfl rfl dX6_undo_14 ?_
    refine lv_aload_n hx hb dX6_undo_17 rfl (lv_at hl 0 rfl) ?_
    refine x_get C0 hw 6 hiX6 rfl 0 rfl 0 (by decide) 3 rfl rfl dX6_undo_18 ?_
    refine x_cVv (As := [.ref (a0 0)]) (rest := []) (F := (List.flatten [cG aG (a0 0) (a1 0) (a2 0) (a3 0) (aH 0) (aS 0) v0])) C0 hw (p_fl (ds := [cH E aH (h0 0) (h1 0) (h2 0) (h3 0) v2, cM E h0 v3, cM E h1 v4, cM E h2 v5, cM E h3 v6, cM E a0 v1]) ((p_pk _ 2 _ rfl).trans (List.Perm.cons _ ((p_pk _ 2 _ rfl).trans (List.Perm.cons _ ((p_pk _ 2 _ rfl).trans (List.Perm.cons _ ((p_pk _ 2 _ rfl).trans (List.Perm.cons _ ((p_pk _ 2 _ rfl).trans (List.Perm.cons _ ((p_pk _ 1 _ rfl).trans (List.Perm.cons _ (List.Perm.refl _)))))))))))))) hl.1 24 0 rfl rfl (c_X0_popInto l E aH h0 h1 h2 h3 a0 h) 1 gX6_undo_X0_popInto rfl ⟨rfl, rfl⟩ (by decide +kernel) ⟨Nat.le_of_ble_eq_true rfl, Nat.le_of_ble_eq_true rfl⟩ rfl rfl (Nat.le_of_ble_eq_true rfl) dX6_undo_21 ⟨Nat.zero_le _, Nat.zero_le _⟩ (fun u_7 H locs h hw => ?_)
    obtain ⟨v_1, v_2, v_3, v_4, v_5, v_6⟩ := u_7
    replace hw : mw E A s.heap H locs (List.flatten [cG aG (a0 0) (a1 0) (a2 0) (a3 0) (aH 0) (aS 0) v0, cM E a0 v_6, cH E aH (h0 0) (h1 0) (h2 0) (h3 0) v_1, cM E h0 v_2, cM E h1 v_3, cM E h2 v_4, cM E h3 v_5]) := hw.perm (p_bk (ds := [cH E aH (h0 0) (h1 0) (h2 0) (h3 0) v_1, cM E h0 v_2, cM E h1 v_3, cM E h2 v_4, cM E h3 v_5, cM E a0 v_6]) ((p_pk _ 2 _ rfl).trans (List.Perm.cons _ ((p_pk _ 2 _ rfl).trans (List.Perm.cons _ ((p_pk _ 2 _ rfl).trans (List.Perm.cons _ ((p_pk _ 2 _ rfl).trans (List.Perm.cons _ ((p_pk _ 2 _ rfl).trans (List.Perm.cons _ ((p_pk _ 1 _ rfl).trans (List.Perm.cons _ (List.Perm.refl _))))))))))))))
    refine lv_aload_n hx hb dX6_undo_24 rfl (lv_at hl 0 rfl) ?_
    refine x_get C0 hw 6 hiX6 rfl 0 rfl 4 (by decide) 1 rfl rfl dX6_undo_25 ?_
    refine x_getN C0 hw 0 hiX0 rfl 24 rfl 2 (by decide) 26 rfl rfl dX6_undo_28 ?_
    exact x_ret C0 ⟨v0, v_6, v_1, v_2, v_3, v_4, v_5⟩ hw h dX6_undo_31
  · replace h := h.2 c_8
    refine x_ldc (v := (-10000002)) C0 2 rfl dX6_undo_10 ?_
    exact x_ret C0 ⟨v0, v1, v2, v3, v4, v5, v6⟩ hw h dX6_undo_12

abbrev rmX6_type : Room := { frames := 1, cells := 0, slots := 0, locals := 21 }
set_option maxRecDepth 100000 in
set_option maxHeartbeats 4000000 in
theorem c_X6_type (l : Launch) (E : EE) (aG : Nat → Nat) (a0 : Nat → Nat) (a1 : Nat → Nat) (a2 : Nat → Nat) (a3 : Nat → Nat) (aH : Nat → Nat) (h0 : Nat → Nat) (h1 : Nat → Nat) (h2 : Nat → Nat) (h3 : Nat → Nat) (aS : Nat → Nat) {v0 : V} {v1 : V}  {p1 : Int32} {post : Int32 → V → V → Prop} (h : s_X6_type v0 v1 p1 post) : KI l E yX6_type wsX6_type rmX6_type [.ref (aG 0), .int p1] (List.flatten [cG aG (a0 0) (a1 0) (a2 0) (a3 0) (aH 0) (aS 0) v0, cS E aS v1]) (S := V × V) (fun r (u : V × V) => post r u.1 u.2) (fun (u : V × V) => (List.flatten [cG aG (a0 0) (a1 0) (a2 0) (a3 0) (aH 0) (aS 0) u.1, cS E aS u.2])) := by
  unfold s_X6_type at h
  refine KI.go (cc := cX6_type) (ret := (some .int)) (maxL := 2) (own := RX6) (by decide) rfl (Nat.le_of_ble_eq_true rfl) rfl (fun p e s m below meth c A ls C0 hw hl => ?_)
  have hx := C0.1
  have hb := C0.2.1
  have hiX6 : ∀ w ∈ wsX60, w ∈ wsX6_type := fun w h => List.mem_cons_of_mem _ (List.mem_append_left _ (List.mem_append_right _ h))
  replace hl : lv_has ls 2 [(0, .ref (aG 0)), (1, .int p1)] := hl
  refine lv_iload_n hx hb dX6_type_0 rfl (lv_at hl 1 rfl) ?_
  refine lv_bipush (v := 32) hx hb dX6_type_1 (by decide) ?_
  refine lv_icmp_lt (tgt := 12) hx hb dX6_type_3 (by decide) (fun c_4 => ?_) (fun c_4 => ?_)
  · replace h := h.1 c_4
    refine x_ldc (v := (-10000001)) C0 1 rfl dX6_type_12 ?_
    exact x_ret C0 ⟨v0, v1⟩ hw h dX6_type_14
  · replace h := h.2 c_4
    refine lv_iload_n hx hb dX6_type_6 rfl (lv_at hl 1 rfl) ?_
    refine lv_bipush (v := 126) hx hb dX6_type_7 (by decide) ?_
    refine lv_icmp_le (tgt := 15) hx hb dX6_type_9 (by decide) (fun c_3 => ?_) (fun c_3 => ?_)
    · replace h := h.1 c_3
      refine lv_aload_n hx hb dX6_type_15 rfl (lv_at hl 0 rfl) ?_
      refine x_get C0 hw 6 hiX6 rfl 0 rfl 5 (by decide) 2 rfl rfl dX6_type_16 ?_
      refine lv_iload_n hx hb dX6_type_19 rfl (lv_at hl 1 rfl) ?_
      refine lv_i2c (v := ((p1.toUInt32 % 65536).toInt32)) hx hb dX6_type_20 rfl ?_
      refine x_cV (As := [.int ((p1.toUInt32 % 65536).toInt32)]) (rest := []) (F := (List.flatten [cG aG (a0 0) (a1 0) (a2 0) (a3 0) (aH 0) (aS 0) v0])) C0 hw (p_fl1 ((p_pk _ 1 _ rfl).trans (List.Perm.cons _ (List.Perm.refl _)))) hl.1 1 4 rfl rfl (c_X4_append l E aS h) 1 gX6_type_X4_append rfl ⟨rfl, rfl⟩ (by decide +kernel) ⟨Nat.le_of_ble_eq_true rfl, Nat.le_of_ble_eq_true rfl⟩ rfl rfl (Nat.le_of_ble_eq_true rfl) dX6_type_21 ⟨Nat.zero_le _, Nat.zero_le _⟩ (fun r_1 v_2 H locs h hw => ?_)
      replace hw : mw E A s.heap H locs (List.flatten [cG aG (a0 0) (a1 0) (a2 0) (a3 0) (aH 0) (aS 0) v0, cS E aS v_2]) := hw.perm (p_bk1 ((p_pk _ 1 _ rfl).trans (List.Perm.cons _ (List.Perm.refl _))))
      exact x_ret C0 ⟨v0, v_2⟩ hw h dX6_type_24
    · replace h := h.2 c_3
      refine x_ldc (v := (-10000001)) C0 1 rfl dX6_type_12 ?_
      exact x_ret C0 ⟨v0, v1⟩ hw h dX6_type_14

abbrev rmX6_clearText : Room := { frames := 0, cells := 0, slots := 0, locals := 0 }
set_option maxRecDepth 100000 in
set_option maxHeartbeats 4000000 in
theorem c_X6_clearText (l : Launch) (E : EE) (aG : Nat → Nat) (a0 : Nat → Nat) (a1 : Nat → Nat) (a2 : Nat → Nat) (a3 : Nat → Nat) (aH : Nat → Nat) (h0 : Nat → Nat) (h1 : Nat → Nat) (h2 : Nat → Nat) (h3 : Nat → Nat) (aS : Nat → Nat) {v0 : V} {v1 : V}   {post : Int32 → V → V → Prop} (h : s_X6_clearText v0 v1 post) : KI l E yX6_clearText wsX6_clearText rmX6_clearText [.ref (aG 0)] (List.flatten [cG aG (a0 0) (a1 0) (a2 0) (a3 0) (aH 0) (aS 0) v0, cS E aS v1]) (S := V × V) (fun r (u : V × V) => post r u.1 u.2) (fun (u : V × V) => (List.flatten [cG aG (a0 0) (a1 0) (a2 0) (a3 0) (aH 0) (aS 0) u.1, cS E aS u.2])) := by
  unfold s_X6_clearText at h
  refine KI.go (cc := cX6_clearText) (ret := (some .int)) (maxL := 2) (own := RX6) (by decide) rfl (Nat.le_of_ble_eq_true rfl) rfl (fun p e s m below meth c A ls C0 hw hl => ?_)
  have hx := C0.1
  have hb := C0.2.1
  have hiX4 : ∀ w ∈ wsX40, w ∈ wsX6_clearText := fun w h => List.mem_cons_of_mem _ (List.mem_append_right _ h)
  have hiX6 : ∀ w ∈ wsX60, w ∈ wsX6_clearText := fun w h => List.mem_cons_of_mem _ (List.mem_append_left _ (List.mem_append_right _ h))
  replace hl : lv_has ls 2 [(0, .ref (aG 0))] := hl
  refine lv_aload_n hx hb dX6_clearText_0 rfl (lv_at hl 0 rfl) ?_
  refine x_get C0 hw 6 hiX6 rfl 0 rfl 5 (by decide) 1 rfl rfl dX6_clearText_1 ?_
  refine x_getN C0 hw 4 hiX4 rfl 1 rfl 1 (by decide) 28 rfl rfl dX6_clearText_4 ?_
  refine lv_istore_n (lv' := [(1, .int (v1 0 1)), (0, .ref (aG 0))]) hx hb dX6_clearText_7 rfl hl (by decide) rfl (fun ls hl => ?_)
  refine lv_aload_n hx hb dX6_clearText_8 rfl (lv_at hl 1 rfl) ?_
  refine x_get C0 hw 6 hiX6 rfl 0 rfl 5 (by decide) 1 rfl rfl dX6_clearText_9 ?_
  refine lv_iconst (v := 0) hx hb dX6_clearText_12 (by decide) ?_
  refine x_putN (ws' := (List.flatten [cG aG (a0 0) (a1 0) (a2 0) (a3 0) (aH 0) (aS 0) v0, cS E aS ((sc v1 0 1 0))])) C0 hw 4 hiX4 rfl tyX4 tyX4_ok nmX4 1 rfl 1 (by decide) 28 rfl rfl rfl rfl (Nat.le_of_ble_eq_true rfl) rfl dX6_clearText_13 (fun H locs hw => ?_)
  obtain ⟨v_1, e_v_1⟩ : ∃ z, z = sc v1 0 1 0 := ⟨_, rfl⟩
  rw [← e_v_1] at hw
  replace h := h v_1 e_v_1
  refine lv_iload_n hx hb dX6_clearText_16 rfl (lv_at hl 0 rfl) ?_
  exact x_ret C0 ⟨v0, v_1⟩ hw h dX6_clearText_17

abbrev rmX6_fault : Room := { frames := 7, cells := 0, slots := 0, locals := 155 }
set_option maxRecDepth 100000 in
set_option maxHeartbeats 4000000 in
theorem c_X6_fault (l : Launch) (E : EE) (aG : Nat → Nat) (a0 : Nat → Nat) (a1 : Nat → Nat) (a2 : Nat → Nat) (a3 : Nat → Nat) (aH : Nat → Nat) (h0 : Nat → Nat) (h1 : Nat → Nat) (h2 : Nat → Nat) (h3 : Nat → Nat) (aS : Nat → Nat) {v0 : V} {v1 : V} {v2 : V} {v3 : V}  {p1 : Int32} {post : Int32 → V → V → V → V → Prop} (h : s_X6_fault v0 v1 v2 v3 p1 post) : KI l E yX6_fault wsX6_fault rmX6_fault [.ref (aG 0), .int p1] (List.flatten [cG aG (a0 0) (a1 0) (a2 0) (a3 0) (aH 0) (aS 0) v0, cM E a0 v1, cM E a2 v2, cS E aS v3]) (S := V × V × V × V) (fun r (u : V × V × V × V) => post r u.1 u.2.1 u.2.2.1 u.2.2.2) (fun (u : V × V × V × V) => (List.flatten [cG aG (a0 0) (a1 0) (a2 0) (a3 0) (aH 0) (aS 0) u.1, cM E a0 u.2.1, cM E a2 u.2.2.1, cS E aS u.2.2.2])) := by
  unfold s_X6_fault at h
  refine KI.go (cc := cX6_fault) (ret := (some .int)) (maxL := 2) (own := RX6) (by decide) rfl (Nat.le_of_ble_eq_true rfl) rfl (fun p e s m below meth c A ls C0 hw hl => ?_)
  have hx := C0.1
  have hb := C0.2.1
  have hiX6 : ∀ w ∈ wsX60, w ∈ wsX6_fault := fun w h => List.mem_cons_of_mem _ (List.mem_append_left _ (List.mem_append_left _ (List.mem_append_left _ (List.mem_append_left _ (List.mem_append_left _ (List.mem_append_right _ h))))))
  replace hl : lv_has ls 2 [(0, .ref (aG 0)), (1, .int p1)] := hl
  refine lv_iload_n hx hb dX6_fault_0 rfl (lv_at hl 1 rfl) ?_
  refine lv_if_lt (tgt := 9) hx hb dX6_fault_1 (by decide) (fun c_11 => ?_) (fun c_11 => ?_)
  · replace h := h.1 c_11
    refine x_ldc (v := (-10000001)) C0 1 rfl dX6_fault_9 ?_
    exact x_ret C0 ⟨v0, v1, v2, v3⟩ hw h dX6_fault_11
  · replace h := h.2 c_11
    refine lv_iload_n hx hb dX6_fault_4 rfl (lv_at hl 1 rfl) ?_
    refine lv_iconst (v := 2) hx hb dX6_fault_5 (by decide) ?_
    refine lv_icmp_le (tgt := 12) hx hb dX6_fault_6 (by decide) (fun c_10 => ?_) (fun c_10 => ?_)
    · replace h := h.1 c_10
      refine lv_aload_n hx hb dX6_fault_12 rfl (lv_at hl 0 rfl) ?_
      refine x_get C0 hw 6 hiX6 rfl 0 rfl 2 (by decide) 2 rfl rfl dX6_fault_13 ?_
      refine lv_aload_n hx hb dX6_fault_16 rfl (lv_at hl 0 rfl) ?_
      refine x_get C0 hw 6 hiX6 rfl 0 rfl 0 (by decide) 3 rfl rfl dX6_fault_17 ?_
      refine x_cVv (As := [.ref (a0 0)]) (rest := []) (F := (List.flatten [cG aG (a0 0) (a1 0) (a2 0) (a3 0) (aH 0) (aS 0) v0, cS E aS v3])) C0 hw (p_fl (ds := [cM E a2 v2, cM E a0 v1]) ((p_pk _ 2 _ rfl).trans (List.Perm.cons _ ((p_pk _ 1 _ rfl).trans (List.Perm.cons _ (List.Perm.refl _)))))) hl.1 24 1 rfl rfl (c_X1_copyFrom l E a2 a0 h) 1 gX6_fault_X1_copyFrom rfl ⟨rfl, rfl⟩ (by decide +kernel) ⟨Nat.le_of_ble_eq_true rfl, Nat.le_of_ble_eq_true rfl⟩ rfl rfl (Nat.le_of_ble_eq_true rfl) dX6_fault_20 ⟨Nat.zero_le _, Nat.zero_le _⟩ (fun u_9 H locs h hw => ?_)
      obtain ⟨v_1, v_2⟩ := u_9
      replace hw : mw E A s.heap H locs (List.flatten [cG aG (a0 0) (a1 0) (a2 0) (a3 0) (aH 0) (aS 0) v0, cM E a0 v_2, cM E a2 v_1, cS E aS v3]) := hw.perm (p_bk (ds := [cM E a2 v_1, cM E a0 v_2]) ((p_pk _ 2 _ rfl).trans (List.Perm.cons _ ((p_pk _ 1 _ rfl).trans (List.Perm.cons _ (List.Perm.refl _))))))
      refine lv_aload_n hx hb dX6_fault_23 rfl (lv_at hl 0 rfl) ?_
      refine x_get C0 hw 6 hiX6 rfl 0 rfl 5 (by decide) 4 rfl rfl dX6_fault_24 ?_
      refine lv_aload_n hx hb dX6_fault_27 rfl (lv_at hl 0 rfl) ?_
      refine x_get C0 hw 6 hiX6 rfl 0 rfl 2 (by decide) 2 rfl rfl dX6_fault_28 ?_
      refine x_cV (As := [.ref (a2 0)]) (rest := []) (F := (List.flatten [cG aG (a0 0) (a1 0) (a2 0) (a3 0) (aH 0) (aS 0) v0, cM E a0 v_2])) C0 hw (p_fl (ds := [cS E aS v3, cM E a2 v_1]) ((p_pk _ 3 _ rfl).trans (List.Perm.cons _ ((p_pk _ 2 _ rfl).trans (List.Perm.cons _ (List.Perm.refl _)))))) hl.1 47 4 rfl rfl (c_X4_runOn l E aS a2 h) 1 gX6_fault_X4_runOn rfl ⟨rfl, rfl⟩ (by decide +kernel) ⟨Nat.le_of_ble_eq_true rfl, Nat.le_of_ble_eq_true rfl⟩ rfl rfl (Nat.le_of_ble_eq_true rfl) dX6_fault_31 ⟨Nat.zero_le _, Nat.zero_le _⟩ (fun r_3 u_8 H locs h hw => ?_)
      obtain ⟨v_4, v_5⟩ := u_8
      replace hw : mw E A s.heap H locs (List.flatten [cG aG (a0 0) (a1 0) (a2 0) (a3 0) (aH 0) (aS 0) v0, cM E a0 v_2, cM E a2 v_5, cS E aS v_4]) := hw.perm (p_bk (ds := [cS E aS v_4, cM E a2 v_5]) ((p_pk _ 3 _ rfl).trans (List.Perm.cons _ ((p_pk _ 2 _ rfl).trans (List.Perm.cons _ (List.Perm.refl _))))))
      refine lv_pop hx hb dX6_fault_34 rfl ?_
      refine lv_aload_n hx hb dX6_fault_35 rfl (lv_at hl 0 rfl) ?_
      refine x_get C0 hw 6 hiX6 rfl 0 rfl 5 (by decide) 4 rfl rfl dX6_fault_36 ?_
      refine lv_iload_n hx hb dX6_fault_39 rfl (lv_at hl 1 rfl) ?_
      refine x_cV (As := [.int p1]) (rest := []) (F := (List.flatten [cG aG (a0 0) (a1 0) (a2 0) (a3 0) (aH 0) (aS 0) v0, cM E a0 v_2, cM E a2 v_5])) C0 hw (p_fl1 ((p_pk _ 3 _ rfl).trans (List.Perm.cons _ (List.Perm.refl _)))) hl.1 47 4 rfl rfl (c_X4_tellFault l E aS h) 1 gX6_fault_X4_tellFault rfl ⟨rfl, rfl⟩ (by decide +kernel) ⟨Nat.le_of_ble_eq_true rfl, Nat.le_of_ble_eq_true rfl⟩ rfl rfl (Nat.le_of_ble_eq_true rfl) dX6_fault_40 ⟨Nat.zero_le _, Nat.zero_le _⟩ (fun r_6 v_7 H locs h hw => ?_)
      replace hw : mw E A s.heap H locs (List.flatten [cG aG (a0 0) (a1 0) (a2 0) (a3 0) (aH 0) (aS 0) v0, cM E a0 v_2, cM E a2 v_5, cS E aS v_7]) := hw.perm (p_bk1 ((p_pk _ 3 _ rfl).trans (List.Perm.cons _ (List.Perm.refl _))))
      exact x_ret C0 ⟨v0, v_2, v_5, v_7⟩ hw h dX6_fault_43
    · replace h := h.2 c_10
      refine x_ldc (v := (-10000001)) C0 1 rfl dX6_fault_9 ?_
      exact x_ret C0 ⟨v0, v1, v2, v3⟩ hw h dX6_fault_11

abbrev rmX6_play : Room := { frames := 7, cells := 0, slots := 0, locals := 155 }
set_option maxRecDepth 100000 in
set_option maxHeartbeats 4000000 in
theorem c_X6_play (l : Launch) (E : EE) (aG : Nat → Nat) (a0 : Nat → Nat) (a1 : Nat → Nat) (a2 : Nat → Nat) (a3 : Nat → Nat) (aH : Nat → Nat) (h0 : Nat → Nat) (h1 : Nat → Nat) (h2 : Nat → Nat) (h3 : Nat → Nat) (aS : Nat → Nat) {v0 : V} {v1 : V} {v2 : V} {v3 : V} {v4 : V} {v5 : V} {v6 : V} {v7 : V} {v8 : V}   {post : Int32 → V → V → V → V → V → V → V → V → V → Prop} (h : s_X6_play v0 v1 v2 v3 v4 v5 v6 v7 v8 post) : KI l E yX6_play wsX6_play rmX6_play [.ref (aG 0)] (List.flatten [cG aG (a0 0) (a1 0) (a2 0) (a3 0) (aH 0) (aS 0) v0, cM E a0 v1, cM E a2 v2, cH E aH (h0 0) (h1 0) (h2 0) (h3 0) v3, cM E h0 v4, cM E h1 v5, cM E h2 v6, cM E h3 v7, cS E aS v8]) (S := V × V × V × V × V × V × V × V × V) (fun r (u : V × V × V × V × V × V × V × V × V) => post r u.1 u.2.1 u.2.2.1 u.2.2.2.1 u.2.2.2.2.1 u.2.2.2.2.2.1 u.2.2.2.2.2.2.1 u.2.2.2.2.2.2.2.1 u.2.2.2.2.2.2.2.2) (fun (u : V × V × V × V × V × V × V × V × V) => (List.flatten [cG aG (a0 0) (a1 0) (a2 0) (a3 0) (aH 0) (aS 0) u.1, cM E a0 u.2.1, cM E a2 u.2.2.1, cH E aH (h0 0) (h1 0) (h2 0) (h3 0) u.2.2.2.1, cM E h0 u.2.2.2.2.1, cM E h1 u.2.2.2.2.2.1, cM E h2 u.2.2.2.2.2.2.1, cM E h3 u.2.2.2.2.2.2.2.1, cS E aS u.2.2.2.2.2.2.2.2])) := by
  unfold s_X6_play at h
  refine KI.go (cc := cX6_play) (ret := (some .int)) (maxL := 2) (own := RX6) (by decide) rfl (Nat.le_of_ble_eq_true rfl) rfl (fun p e s m below meth c A ls C0 hw hl => ?_)
  have hx := C0.1
  have hb := C0.2.1
  have hiX6 : ∀ w ∈ wsX60, w ∈ wsX6_play := fun w h => List.mem_cons_of_mem _ (List.mem_append_left _ (List.mem_append_left _ (List.mem_append_left _ (List.mem_append_left _ (List.mem_append_left _ (List.mem_append_left _ (List.mem_append_right _ h)))))))
  replace hl : lv_has ls 2 [(0, .ref (aG 0))] := hl
  refine lv_aload_n hx hb dX6_play_0 rfl (lv_at hl 0 rfl) ?_
  refine x_get C0 hw 6 hiX6 rfl 0 rfl 2 (by decide) 1 rfl rfl dX6_play_1 ?_
  refine lv_aload_n hx hb dX6_play_4 rfl (lv_at hl 0 rfl) ?_
  refine x_get C0 hw 6 hiX6 rfl 0 rfl 0 (by decide) 2 rfl rfl dX6_play_5 ?_
  refine x_cVv (As := [.ref (a0 0)]) (rest := []) (F := (List.flatten [cG aG (a0 0) (a1 0) (a2 0) (a3 0) (aH 0) (aS 0) v0, cH E aH (h0 0) (h1 0) (h2 0) (h3 0) v3, cM E h0 v4, cM E h1 v5, cM E h2 v6, cM E h3 v7, cS E aS v8])) C0 hw (p_fl (ds := [cM E a2 v2, cM E a0 v1]) ((p_pk _ 2 _ rfl).trans (List.Perm.cons _ ((p_pk _ 1 _ rfl).trans (List.Perm.cons _ (List.Perm.refl _)))))) hl.1 24 1 rfl rfl (c_X1_copyFrom l E a2 a0 h) 1 gX6_play_X1_copyFrom rfl ⟨rfl, rfl⟩ (by decide +kernel) ⟨Nat.le_of_ble_eq_true rfl, Nat.le_of_ble_eq_true rfl⟩ rfl rfl (Nat.le_of_ble_eq_true rfl) dX6_play_8 ⟨Nat.zero_le _, Nat.zero_le _⟩ (fun u_20 H locs h hw => ?_)
  obtain ⟨v_1, v_2⟩ := u_20
  replace hw : mw E A s.heap H locs (List.flatten [cG aG (a0 0) (a1 0) (a2 0) (a3 0) (aH 0) (aS 0) v0, cM E a0 v_2, cM E a2 v_1, cH E aH (h0 0) (h1 0) (h2 0) (h3 0) v3, cM E h0 v4, cM E h1 v5, cM E h2 v6, cM E h3 v7, cS E aS v8]) := hw.perm (p_bk (ds := [cM E a2 v_1, cM E a0 v_2]) ((p_pk _ 2 _ rfl).trans (List.Perm.cons _ ((p_pk _ 1 _ rfl).trans (List.Perm.cons _ (List.Perm.refl _))))))
  refine lv_aload_n hx hb dX6_play_11 rfl (lv_at hl 0 rfl) ?_
  refine x_get C0 hw 6 hiX6 rfl 0 rfl 5 (by decide) 3 rfl rfl dX6_play_12 ?_
  refine lv_aload_n hx hb dX6_play_15 rfl (lv_at hl 0 rfl) ?_
  refine x_get C0 hw 6 hiX6 rfl 0 rfl 2 (by decide) 1 rfl rfl dX6_play_16 ?_
  refine x_cV (As := [.ref (a2 0)]) (rest := []) (F := (List.flatten [cG aG (a0 0) (a1 0) (a2 0) (a3 0) (aH 0) (aS 0) v0, cM E a0 v_2, cH E aH (h0 0) (h1 0) (h2 0) (h3 0) v3, cM E h0 v4, cM E h1 v5, cM E h2 v6, cM E h3 v7])) C0 hw (p_fl (ds := [cS E aS v8, cM E a2 v_1]) ((p_pk _ 8 _ rfl).trans (List.Perm.cons _ ((p_pk _ 2 _ rfl).trans (List.Perm.cons _ (List.Perm.refl _)))))) hl.1 141 4 rfl rfl (c_X4_runOn l E aS a2 h) 1 gX6_play_X4_runOn rfl ⟨rfl, rfl⟩ (by decide +kernel) ⟨Nat.le_of_ble_eq_true rfl, Nat.le_of_ble_eq_true rfl⟩ rfl rfl (Nat.le_of_ble_eq_true rfl) dX6_play_19 ⟨Nat.zero_le _, Nat.zero_le _⟩ (fun r_3 u_19 H locs h hw => ?_)
  obtain ⟨v_4, v_5⟩ := u_19
  replace hw : mw E A s.heap H locs (List.flatten [cG aG (a0 0) (a1 0) (a2 0) (a3 0) (aH 0) (aS 0) v0, cM E a0 v_2, cM E a2 v_5, cH E aH (h0 0) (h1 0) (h2 0) (h3 0) v3, cM E h0 v4, cM E h1 v5, cM E h2 v6, cM E h3 v7, cS E aS v_4]) := hw.perm (p_bk (ds := [cS E aS v_4, cM E a2 v_5]) ((p_pk _ 8 _ rfl).trans (List.Perm.cons _ ((p_pk _ 2 _ rfl).trans (List.Perm.cons _ (List.Perm.refl _))))))
  refine lv_istore_n (lv' := [(1, .int r_3), (0, .ref (aG 0))]) hx hb dX6_play_22 rfl hl (by decide) rfl (fun ls hl => ?_)
  refine lv_aload_n hx hb dX6_play_23 rfl (lv_at hl 1 rfl) ?_
  refine x_get C0 hw 6 hiX6 rfl 0 rfl 5 (by decide) 3 rfl rfl dX6_play_24 ?_
  refine x_cV (As := []) (rest := []) (F := (List.flatten [cG aG (a0 0) (a1 0) (a2 0) (a3 0) (aH 0) (aS 0) v0, cM E a0 v_2, cM E a2 v_5, cH E aH (h0 0) (h1 0) (h2 0) (h3 0) v3, cM E h0 v4, cM E h1 v5, cM E h2 v6, cM E h3 v7])) C0 hw (p_fl1 ((p_pk _ 8 _ rfl).trans (List.Perm.cons _ (List.Perm.refl _)))) hl.1 141 4 rfl rfl (c_X4_hasFault l E aS h) 0 gX6_play_X4_hasFault rfl ⟨rfl, rfl⟩ (by decide +kernel) ⟨Nat.le_of_ble_eq_true rfl, Nat.le_of_ble_eq_true rfl⟩ rfl rfl (Nat.le_of_ble_eq_true rfl) dX6_play_27 ⟨Nat.zero_le _, Nat.zero_le _⟩ (fun r_6 v_7 H locs h hw => ?_)
  replace hw : mw E A s.heap H locs (List.flatten [cG aG (a0 0) (a1 0) (a2 0) (a3 0) (aH 0) (aS 0) v0, cM E a0 v_2, cM E a2 v_5, cH E aH (h0 0) (h1 0) (h2 0) (h3 0) v3, cM E h0 v4, cM E h1 v5, cM E h2 v6, cM E h3 v7, cS E aS v_7]) := hw.perm (p_bk1 ((p_pk _ 8 _ rfl).trans (List.Perm.cons _ (List.Perm.refl _))))
  refine lv_if_eq (tgt := 36) hx hb dX6_play_30 (by decide) (fun c_18 => ?_) (fun c_18 => ?_)
  · replace h := h.1 c_18
    refine lv_aload_n hx hb dX6_play_36 rfl (lv_at hl 1 rfl) ?_
    refine x_get C0 hw 6 hiX6 rfl 0 rfl 4 (by decide) 5 rfl rfl dX6_play_37 ?_
    refine lv_aload_n hx hb dX6_play_40 rfl (lv_at hl 1 rfl) ?_
    refine x_get C0 hw 6 hiX6 rfl 0 rfl 0 (by decide) 2 rfl rfl dX6_play_41 ?_
    refine x_cVv (As := [.ref (a0 0)]) (rest := []) (F := (List.flatten [cG aG (a0 0) (a1 0) (a2 0) (a3 0) (aH 0) (aS 0) v0, cM E a2 v_5, cS E aS v_7])) C0 hw (p_fl (ds := [cH E aH (h0 0) (h1 0) (h2 0) (h3 0) v3, cM E h0 v4, cM E h1 v5, cM E h2 v6, cM E h3 v7, cM E a0 v_2]) ((p_pk _ 3 _ rfl).trans (List.Perm.cons _ ((p_pk _ 3 _ rfl).trans (List.Perm.cons _ ((p_pk _ 3 _ rfl).trans (List.Perm.cons _ ((p_pk _ 3 _ rfl).trans (List.Perm.cons _ ((p_pk _ 3 _ rfl).trans (List.Perm.cons _ ((p_pk _ 1 _ rfl).trans (List.Perm.cons _ (List.Perm.refl _)))))))))))))) hl.1 47 0 rfl rfl (c_X0_push l E aH h0 h1 h2 h3 a0 h) 1 gX6_play_X0_push rfl ⟨rfl, rfl⟩ (by decide +kernel) ⟨Nat.le_of_ble_eq_true rfl, Nat.le_of_ble_eq_true rfl⟩ rfl rfl (Nat.le_of_ble_eq_true rfl) dX6_play_44 ⟨Nat.zero_le _, Nat.zero_le _⟩ (fun u_17 H locs h hw => ?_)
    obtain ⟨v_8, v_9, v_10, v_11, v_12, v_13⟩ := u_17
    replace hw : mw E A s.heap H locs (List.flatten [cG aG (a0 0) (a1 0) (a2 0) (a3 0) (aH 0) (aS 0) v0, cM E a0 v_13, cM E a2 v_5, cH E aH (h0 0) (h1 0) (h2 0) (h3 0) v_8, cM E h0 v_9, cM E h1 v_10, cM E h2 v_11, cM E h3 v_12, cS E aS v_7]) := hw.perm (p_bk (ds := [cH E aH (h0 0) (h1 0) (h2 0) (h3 0) v_8, cM E h0 v_9, cM E h1 v_10, cM E h2 v_11, cM E h3 v_12, cM E a0 v_13]) ((p_pk _ 3 _ rfl).trans (List.Perm.cons _ ((p_pk _ 3 _ rfl).trans (List.Perm.cons _ ((p_pk _ 3 _ rfl).trans (List.Perm.cons _ ((p_pk _ 3 _ rfl).trans (List.Perm.cons _ ((p_pk _ 3 _ rfl).trans (List.Perm.cons _ ((p_pk _ 1 _ rfl).trans (List.Perm.cons _ (List.Perm.refl _))))))))))))))
    refine lv_aload_n hx hb dX6_play_47 rfl (lv_at hl 1 rfl) ?_
    refine x_get C0 hw 6 hiX6 rfl 0 rfl 0 (by decide) 2 rfl rfl dX6_play_48 ?_
    refine lv_aload_n hx hb dX6_play_51 rfl (lv_at hl 1 rfl) ?_
    refine x_get C0 hw 6 hiX6 rfl 0 rfl 2 (by decide) 1 rfl rfl dX6_play_52 ?_
    refine x_cVv (As := [.ref (a2 0)]) (rest := []) (F := (List.flatten [cG aG (a0 0) (a1 0) (a2 0) (a3 0) (aH 0) (aS 0) v0, cH E aH (h0 0) (h1 0) (h2 0) (h3 0) v_8, cM E h0 v_9, cM E h1 v_10, cM E h2 v_11, cM E h3 v_12, cS E aS v_7])) C0 hw (p_fl (ds := [cM E a0 v_13, cM E a2 v_5]) ((p_pk _ 1 _ rfl).trans (List.Perm.cons _ ((p_pk _ 1 _ rfl).trans (List.Perm.cons _ (List.Perm.refl _)))))) hl.1 1 1 rfl rfl (c_X1_copyFrom l E a0 a2 h) 1 gX6_play_X1_copyFrom rfl ⟨rfl, rfl⟩ (by decide +kernel) ⟨Nat.le_of_ble_eq_true rfl, Nat.le_of_ble_eq_true rfl⟩ rfl rfl (Nat.le_of_ble_eq_true rfl) dX6_play_55 ⟨Nat.zero_le _, Nat.zero_le _⟩ (fun u_16 H locs h hw => ?_)
    obtain ⟨v_14, v_15⟩ := u_16
    replace hw : mw E A s.heap H locs (List.flatten [cG aG (a0 0) (a1 0) (a2 0) (a3 0) (aH 0) (aS 0) v0, cM E a0 v_14, cM E a2 v_15, cH E aH (h0 0) (h1 0) (h2 0) (h3 0) v_8, cM E h0 v_9, cM E h1 v_10, cM E h2 v_11, cM E h3 v_12, cS E aS v_7]) := hw.perm (p_bk (ds := [cM E a0 v_14, cM E a2 v_15]) ((p_pk _ 1 _ rfl).trans (List.Perm.cons _ ((p_pk _ 1 _ rfl).trans (List.Perm.cons _ (List.Perm.refl _))))))
    refine lv_iload_n hx hb dX6_play_58 rfl (lv_at hl 0 rfl) ?_
    exact x_ret C0 ⟨v0, v_14, v_15, v_8, v_9, v_10, v_11, v_12, v_7⟩ hw h dX6_play_59
  · replace h := h.2 c_18
    refine x_ldc (v := (-10000002)) C0 4 rfl dX6_play_33 ?_
    exact x_ret C0 ⟨v0, v_2, v_5, v3, v4, v5, v6, v7, v_7⟩ hw h dX6_play_35
