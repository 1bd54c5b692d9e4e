abbrev rmX6_stone : Room := { frames := 5, cells := 0, slots := 0, locals := 111 }
set_option maxRecDepth 100000 in
set_option maxHeartbeats 4000000 in
theorem c_X6_stone (l : Launch) (E : EE) (aG : Nat → Nat) (a0 : Nat → Nat) (a1 : Nat → Nat) (a2 : Nat → Nat) (a3 : Nat → Nat) (aH : Nat → Nat) (h0 : Nat → Nat) (h1 : Nat → Nat) (h2 : Nat → Nat) (h3 : Nat → Nat) (aS : Nat → Nat) {v0 : V} {v1 : V} {v2 : V} {v3 : V} {v4 : V} {v5 : V} {v6 : V} {v7 : V}  {p1 : Int32} {p2 : Int32} {p3 : Int32} {p4 : Int32} {post : Int32 → V → V → V → V → V → V → V → V → Prop} (h : s_X6_stone v0 v1 v2 v3 v4 v5 v6 v7 p1 p2 p3 p4 post) : KI l E yX6_stone wsX6_stone rmX6_stone [.ref (aG 0), .int p1, .int p2, .int p3, .int p4] (List.flatten [cG aG (a0 0) (a1 0) (a2 0) (a3 0) (aH 0) (aS 0) v0, cM E a0 v1, cM E a1 v2, cH E aH (h0 0) (h1 0) (h2 0) (h3 0) v3, cM E h0 v4, cM E h1 v5, cM E h2 v6, cM E h3 v7]) (S := V × V × V × V × V × V × V × V) (fun r (u : V × V × V × V × V × V × V × V) => post r u.1 u.2.1 u.2.2.1 u.2.2.2.1 u.2.2.2.2.1 u.2.2.2.2.2.1 u.2.2.2.2.2.2.1 u.2.2.2.2.2.2.2) (fun (u : V × V × V × V × V × V × V × V) => (List.flatten [cG aG (a0 0) (a1 0) (a2 0) (a3 0) (aH 0) (aS 0) u.1, cM E a0 u.2.1, cM E a1 u.2.2.1, cH E aH (h0 0) (h1 0) (h2 0) (h3 0) u.2.2.2.1, cM E h0 u.2.2.2.2.1, cM E h1 u.2.2.2.2.2.1, cM E h2 u.2.2.2.2.2.2.1, cM E h3 u.2.2.2.2.2.2.2])) := by
  unfold s_X6_stone at h
  refine KI.go (cc := cX6_stone) (ret := (some .int)) (maxL := 5) (own := RX6) (by decide) rfl (Nat.le_of_ble_eq_true rfl) rfl (fun p e s m below meth c A ls C0 hw hl => ?_)
  have hx := C0.1
  have hb := C0.2.1
  have hiX6 : ∀ w ∈ wsX60, w ∈ wsX6_stone := fun w h => List.mem_cons_of_mem _ (List.mem_append_left _ (List.mem_append_left _ (List.mem_append_left _ (List.mem_append_left _ (List.mem_append_left _ (List.mem_append_right _ h))))))
  replace hl : lv_has ls 5 [(0, .ref (aG 0)), (1, .int p1), (2, .int p2), (3, .int p3), (4, .int p4)] := hl
  refine lv_aload_n hx hb dX6_stone_0 rfl (lv_at hl 0 rfl) ?_
  refine x_get C0 hw 6 hiX6 rfl 0 rfl 1 (by decide) 1 rfl rfl dX6_stone_1 ?_
  refine lv_aload_n hx hb dX6_stone_4 rfl (lv_at hl 0 rfl) ?_
  refine x_get C0 hw 6 hiX6 rfl 0 rfl 0 (by decide) 2 rfl rfl dX6_stone_5 ?_
  refine x_cVv (As := [.ref (a0 0)]) (rest := []) (F := (List.flatten [cG aG (a0 0) (a1 0) (a2 0) (a3 0) (aH 0) (aS 0) v0, cH E aH (h0 0) (h1 0) (h2 0) (h3 0) v3, cM E h0 v4, cM E h1 v5, cM E h2 v6, cM E h3 v7])) C0 hw (p_fl (ds := [cM E a1 v2, cM E a0 v1]) ((p_pk _ 2 _ rfl).trans (List.Perm.cons _ ((p_pk _ 1 _ rfl).trans (List.Perm.cons _ (List.Perm.refl _)))))) hl.1 24 1 rfl rfl (c_X1_copyFrom l E a1 a0 h) 1 gX6_stone_X1_copyFrom rfl ⟨rfl, rfl⟩ (by decide +kernel) ⟨Nat.le_of_ble_eq_true rfl, Nat.le_of_ble_eq_true rfl⟩ rfl rfl (Nat.le_of_ble_eq_true rfl) dX6_stone_8 ⟨Nat.zero_le _, Nat.zero_le _⟩ (fun u_14 H locs h hw => ?_)
  obtain ⟨v_1, v_2⟩ := u_14
  replace hw : mw E A s.heap H locs (List.flatten [cG aG (a0 0) (a1 0) (a2 0) (a3 0) (aH 0) (aS 0) v0, cM E a0 v_2, cM E a1 v_1, cH E aH (h0 0) (h1 0) (h2 0) (h3 0) v3, cM E h0 v4, cM E h1 v5, cM E h2 v6, cM E h3 v7]) := hw.perm (p_bk (ds := [cM E a1 v_1, cM E a0 v_2]) ((p_pk _ 2 _ rfl).trans (List.Perm.cons _ ((p_pk _ 1 _ rfl).trans (List.Perm.cons _ (List.Perm.refl _))))))
  refine lv_aload_n hx hb dX6_stone_11 rfl (lv_at hl 0 rfl) ?_
  refine lv_aload_n hx hb dX6_stone_12 rfl (lv_at hl 0 rfl) ?_
  refine x_get C0 hw 6 hiX6 rfl 0 rfl 0 (by decide) 2 rfl rfl dX6_stone_13 ?_
  refine lv_iload_n hx hb dX6_stone_16 rfl (lv_at hl 1 rfl) ?_
  refine lv_iload_n hx hb dX6_stone_17 rfl (lv_at hl 2 rfl) ?_
  refine lv_iload_n hx hb dX6_stone_18 rfl (lv_at hl 3 rfl) ?_
  refine lv_iload hx hb dX6_stone_19 (lv_at hl 4 rfl) ?_
  refine x_cV (As := [.int p1, .int p2, .int p3, .int p4]) (rest := [.ref (aG 0)]) (F := (List.flatten [cG aG (a0 0) (a1 0) (a2 0) (a3 0) (aH 0) (aS 0) v0, cM E a1 v_1, cH E aH (h0 0) (h1 0) (h2 0) (h3 0) v3, cM E h0 v4, cM E h1 v5, cM E h2 v6, cM E h3 v7])) C0 hw (p_fl1 ((p_pk _ 1 _ rfl).trans (List.Perm.cons _ (List.Perm.refl _)))) hl.1 1 1 rfl rfl (c_X1_addStone l E a0 h) 4 gX6_stone_X1_addStone rfl ⟨rfl, rfl⟩ (by decide +kernel) ⟨Nat.le_of_ble_eq_true rfl, Nat.le_of_ble_eq_true rfl⟩ rfl rfl (Nat.le_of_ble_eq_true rfl) dX6_stone_21 ⟨Nat.zero_le _, Nat.zero_le _⟩ (fun r_3 v_4 H locs h hw => ?_)
  replace hw : mw E A s.heap H locs (List.flatten [cG aG (a0 0) (a1 0) (a2 0) (a3 0) (aH 0) (aS 0) v0, cM E a0 v_4, cM E a1 v_1, cH E aH (h0 0) (h1 0) (h2 0) (h3 0) v3, cM E h0 v4, cM E h1 v5, cM E h2 v6, cM E h3 v7]) := hw.perm (p_bk1 ((p_pk _ 1 _ rfl).trans (List.Perm.cons _ (List.Perm.refl _))))
  refine x_cV (As := [.int r_3]) (rest := []) (F := (List.flatten [cM E a0 v_4])) C0 hw (p_fl (ds := [cG aG (a0 0) (a1 0) (a2 0) (a3 0) (aH 0) (aS 0) v0, cM E a1 v_1, cH E aH (h0 0) (h1 0) (h2 0) (h3 0) v3, cM E h0 v4, cM E h1 v5, cM E h2 v6, cM E h3 v7]) ((p_pk _ 0 _ rfl).trans (List.Perm.cons _ ((p_pk _ 1 _ rfl).trans (List.Perm.cons _ ((p_pk _ 1 _ rfl).trans (List.Perm.cons _ ((p_pk _ 1 _ rfl).trans (List.Perm.cons _ ((p_pk _ 1 _ rfl).trans (List.Perm.cons _ ((p_pk _ 1 _ rfl).trans (List.Perm.cons _ ((p_pk _ 1 _ rfl).trans (List.Perm.cons _ (List.Perm.refl _)))))))))))))))) hl.1 0 6 rfl rfl (c_X6_recorded l E aG a0 a1 a2 a3 aH h0 h1 h2 h3 aS h) 1 gX6_stone_X6_recorded rfl ⟨rfl, rfl⟩ (by decide +kernel) ⟨Nat.le_of_ble_eq_true rfl, Nat.le_of_ble_eq_true rfl⟩ rfl rfl (Nat.le_of_ble_eq_true rfl) dX6_stone_24 ⟨Nat.zero_le _, Nat.zero_le _⟩ (fun r_5 u_13 H locs h hw => ?_)
  obtain ⟨v_6, v_7, v_8, v_9, v_10, v_11, v_12⟩ := u_13
  replace hw : mw E A s.heap H locs (List.flatten [cG aG (a0 0) (a1 0) (a2 0) (a3 0) (aH 0) (aS 0) v_6, cM E a0 v_4, cM E a1 v_7, cH E aH (h0 0) (h1 0) (h2 0) (h3 0) v_8, cM E h0 v_9, cM E h1 v_10, cM E h2 v_11, cM E h3 v_12]) := hw.perm (p_bk (ds := [cG aG (a0 0) (a1 0) (a2 0) (a3 0) (aH 0) (aS 0) v_6, cM E a1 v_7, cH E aH (h0 0) (h1 0) (h2 0) (h3 0) v_8, cM E h0 v_9, cM E h1 v_10, cM E h2 v_11, cM E h3 v_12]) ((p_pk _ 0 _ rfl).trans (List.Perm.cons _ ((p_pk _ 1 _ rfl).trans (List.Perm.cons _ ((p_pk _ 1 _ rfl).trans (List.Perm.cons _ ((p_pk _ 1 _ rfl).trans (List.Perm.cons _ ((p_pk _ 1 _ rfl).trans (List.Perm.cons _ ((p_pk _ 1 _ rfl).trans (List.Perm.cons _ ((p_pk _ 1 _ rfl).trans (List.Perm.cons _ (List.Perm.refl _))))))))))))))))
  exact x_ret C0 ⟨v_6, v_4, v_7, v_8, v_9, v_10, v_11, v_12⟩ hw h dX6_stone_27

abbrev rmX6_rate : Room := { frames := 5, cells := 0, slots := 0, locals := 111 }
set_option maxRecDepth 100000 in
set_option maxHeartbeats 4000000 in
theorem c_X6_rate (l : Launch) (E : EE) (aG : Nat → Nat) (a0 : Nat → Nat) (a1 : Nat → Nat) (a2 : Nat → Nat) (a3 : Nat → Nat) (aH : Nat → Nat) (h0 : Nat → Nat) (h1 : Nat → Nat) (h2 : Nat → Nat) (h3 : Nat → Nat) (aS : Nat → Nat) {v0 : V} {v1 : V} {v2 : V} {v3 : V} {v4 : V} {v5 : V} {v6 : V} {v7 : V}  {p1 : Int32} {p2 : Int32} {p3 : Int32} {p4 : Int32} {post : Int32 → V → V → V → V → V → V → V → V → Prop} (h : s_X6_rate v0 v1 v2 v3 v4 v5 v6 v7 p1 p2 p3 p4 post) : KI l E yX6_rate wsX6_rate rmX6_rate [.ref (aG 0), .int p1, .int p2, .int p3, .int p4] (List.flatten [cG aG (a0 0) (a1 0) (a2 0) (a3 0) (aH 0) (aS 0) v0, cM E a0 v1, cM E a1 v2, cH E aH (h0 0) (h1 0) (h2 0) (h3 0) v3, cM E h0 v4, cM E h1 v5, cM E h2 v6, cM E h3 v7]) (S := V × V × V × V × V × V × V × V) (fun r (u : V × V × V × V × V × V × V × V) => post r u.1 u.2.1 u.2.2.1 u.2.2.2.1 u.2.2.2.2.1 u.2.2.2.2.2.1 u.2.2.2.2.2.2.1 u.2.2.2.2.2.2.2) (fun (u : V × V × V × V × V × V × V × V) => (List.flatten [cG aG (a0 0) (a1 0) (a2 0) (a3 0) (aH 0) (aS 0) u.1, cM E a0 u.2.1, cM E a1 u.2.2.1, cH E aH (h0 0) (h1 0) (h2 0) (h3 0) u.2.2.2.1, cM E h0 u.2.2.2.2.1, cM E h1 u.2.2.2.2.2.1, cM E h2 u.2.2.2.2.2.2.1, cM E h3 u.2.2.2.2.2.2.2])) := by
  unfold s_X6_rate at h
  refine KI.go (cc := cX6_rate) (ret := (some .int)) (maxL := 5) (own := RX6) (by decide) rfl (Nat.le_of_ble_eq_true rfl) rfl (fun p e s m below meth c A ls C0 hw hl => ?_)
  have hx := C0.1
  have hb := C0.2.1
  have hiX6 : ∀ w ∈ wsX60, w ∈ wsX6_rate := fun w h => List.mem_cons_of_mem _ (List.mem_append_left _ (List.mem_append_left _ (List.mem_append_left _ (List.mem_append_left _ (List.mem_append_left _ (List.mem_append_right _ h))))))
  replace hl : lv_has ls 5 [(0, .ref (aG 0)), (1, .int p1), (2, .int p2), (3, .int p3), (4, .int p4)] := hl
  refine lv_aload_n hx hb dX6_rate_0 rfl (lv_at hl 0 rfl) ?_
  refine x_get C0 hw 6 hiX6 rfl 0 rfl 1 (by decide) 1 rfl rfl dX6_rate_1 ?_
  refine lv_aload_n hx hb dX6_rate_4 rfl (lv_at hl 0 rfl) ?_
  refine x_get C0 hw 6 hiX6 rfl 0 rfl 0 (by decide) 2 rfl rfl dX6_rate_5 ?_
  refine x_cVv (As := [.ref (a0 0)]) (rest := []) (F := (List.flatten [cG aG (a0 0) (a1 0) (a2 0) (a3 0) (aH 0) (aS 0) v0, cH E aH (h0 0) (h1 0) (h2 0) (h3 0) v3, cM E h0 v4, cM E h1 v5, cM E h2 v6, cM E h3 v7])) C0 hw (p_fl (ds := [cM E a1 v2, cM E a0 v1]) ((p_pk _ 2 _ rfl).trans (List.Perm.cons _ ((p_pk _ 1 _ rfl).trans (List.Perm.cons _ (List.Perm.refl _)))))) hl.1 24 1 rfl rfl (c_X1_copyFrom l E a1 a0 h) 1 gX6_rate_X1_copyFrom rfl ⟨rfl, rfl⟩ (by decide +kernel) ⟨Nat.le_of_ble_eq_true rfl, Nat.le_of_ble_eq_true rfl⟩ rfl rfl (Nat.le_of_ble_eq_true rfl) dX6_rate_8 ⟨Nat.zero_le _, Nat.zero_le _⟩ (fun u_14 H locs h hw => ?_)
  obtain ⟨v_1, v_2⟩ := u_14
  replace hw : mw E A s.heap H locs (List.flatten [cG aG (a0 0) (a1 0) (a2 0) (a3 0) (aH 0) (aS 0) v0, cM E a0 v_2, cM E a1 v_1, cH E aH (h0 0) (h1 0) (h2 0) (h3 0) v3, cM E h0 v4, cM E h1 v5, cM E h2 v6, cM E h3 v7]) := hw.perm (p_bk (ds := [cM E a1 v_1, cM E a0 v_2]) ((p_pk _ 2 _ rfl).trans (List.Perm.cons _ ((p_pk _ 1 _ rfl).trans (List.Perm.cons _ (List.Perm.refl _))))))
  refine lv_aload_n hx hb dX6_rate_11 rfl (lv_at hl 0 rfl) ?_
  refine lv_aload_n hx hb dX6_rate_12 rfl (lv_at hl 0 rfl) ?_
  refine x_get C0 hw 6 hiX6 rfl 0 rfl 0 (by decide) 2 rfl rfl dX6_rate_13 ?_
  refine lv_iload_n hx hb dX6_rate_16 rfl (lv_at hl 1 rfl) ?_
  refine lv_iload_n hx hb dX6_rate_17 rfl (lv_at hl 2 rfl) ?_
  refine lv_iload_n hx hb dX6_rate_18 rfl (lv_at hl 3 rfl) ?_
  refine lv_iload hx hb dX6_rate_19 (lv_at hl 4 rfl) ?_
  refine x_cV (As := [.int p1, .int p2, .int p3, .int p4]) (rest := [.ref (aG 0)]) (F := (List.flatten [cG aG (a0 0) (a1 0) (a2 0) (a3 0) (aH 0) (aS 0) v0, cM E a1 v_1, cH E aH (h0 0) (h1 0) (h2 0) (h3 0) v3, cM E h0 v4, cM E h1 v5, cM E h2 v6, cM E h3 v7])) C0 hw (p_fl1 ((p_pk _ 1 _ rfl).trans (List.Perm.cons _ (List.Perm.refl _)))) hl.1 1 1 rfl rfl (c_X1_putRate l E a0 h) 4 gX6_rate_X1_putRate rfl ⟨rfl, rfl⟩ (by decide +kernel) ⟨Nat.le_of_ble_eq_true rfl, Nat.le_of_ble_eq_true rfl⟩ rfl rfl (Nat.le_of_ble_eq_true rfl) dX6_rate_21 ⟨Nat.zero_le _, Nat.zero_le _⟩ (fun r_3 v_4 H locs h hw => ?_)
  replace hw : mw E A s.heap H locs (List.flatten [cG aG (a0 0) (a1 0) (a2 0) (a3 0) (aH 0) (aS 0) v0, cM E a0 v_4, cM E a1 v_1, cH E aH (h0 0) (h1 0) (h2 0) (h3 0) v3, cM E h0 v4, cM E h1 v5, cM E h2 v6, cM E h3 v7]) := hw.perm (p_bk1 ((p_pk _ 1 _ rfl).trans (List.Perm.cons _ (List.Perm.refl _))))
  refine x_cV (As := [.int r_3]) (rest := []) (F := (List.flatten [cM E a0 v_4])) C0 hw (p_fl (ds := [cG aG (a0 0) (a1 0) (a2 0) (a3 0) (aH 0) (aS 0) v0, cM E a1 v_1, cH E aH (h0 0) (h1 0) (h2 0) (h3 0) v3, cM E h0 v4, cM E h1 v5, cM E h2 v6, cM E h3 v7]) ((p_pk _ 0 _ rfl).trans (List.Perm.cons _ ((p_pk _ 1 _ rfl).trans (List.Perm.cons _ ((p_pk _ 1 _ rfl).trans (List.Perm.cons _ ((p_pk _ 1 _ rfl).trans (List.Perm.cons _ ((p_pk _ 1 _ rfl).trans (List.Perm.cons _ ((p_pk _ 1 _ rfl).trans (List.Perm.cons _ ((p_pk _ 1 _ rfl).trans (List.Perm.cons _ (List.Perm.refl _)))))))))))))))) hl.1 0 6 rfl rfl (c_X6_recorded l E aG a0 a1 a2 a3 aH h0 h1 h2 h3 aS h) 1 gX6_rate_X6_recorded rfl ⟨rfl, rfl⟩ (by decide +kernel) ⟨Nat.le_of_ble_eq_true rfl, Nat.le_of_ble_eq_true rfl⟩ rfl rfl (Nat.le_of_ble_eq_true rfl) dX6_rate_24 ⟨Nat.zero_le _, Nat.zero_le _⟩ (fun r_5 u_13 H locs h hw => ?_)
  obtain ⟨v_6, v_7, v_8, v_9, v_10, v_11, v_12⟩ := u_13
  replace hw : mw E A s.heap H locs (List.flatten [cG aG (a0 0) (a1 0) (a2 0) (a3 0) (aH 0) (aS 0) v_6, cM E a0 v_4, cM E a1 v_7, cH E aH (h0 0) (h1 0) (h2 0) (h3 0) v_8, cM E h0 v_9, cM E h1 v_10, cM E h2 v_11, cM E h3 v_12]) := hw.perm (p_bk (ds := [cG aG (a0 0) (a1 0) (a2 0) (a3 0) (aH 0) (aS 0) v_6, cM E a1 v_7, cH E aH (h0 0) (h1 0) (h2 0) (h3 0) v_8, cM E h0 v_9, cM E h1 v_10, cM E h2 v_11, cM E h3 v_12]) ((p_pk _ 0 _ rfl).trans (List.Perm.cons _ ((p_pk _ 1 _ rfl).trans (List.Perm.cons _ ((p_pk _ 1 _ rfl).trans (List.Perm.cons _ ((p_pk _ 1 _ rfl).trans (List.Perm.cons _ ((p_pk _ 1 _ rfl).trans (List.Perm.cons _ ((p_pk _ 1 _ rfl).trans (List.Perm.cons _ ((p_pk _ 1 _ rfl).trans (List.Perm.cons _ (List.Perm.refl _))))))))))))))))
  exact x_ret C0 ⟨v_6, v_4, v_7, v_8, v_9, v_10, v_11, v_12⟩ hw h dX6_rate_27

abbrev rmX6_unrate : Room := { frames := 5, cells := 0, slots := 0, locals := 111 }
set_option maxRecDepth 100000 in
set_option maxHeartbeats 4000000 in
theorem c_X6_unrate (l : Launch) (E : EE) (aG : Nat → Nat) (a0 : Nat → Nat) (a1 : Nat → Nat) (a2 : Nat → Nat) (a3 : Nat → Nat) (aH : Nat → Nat) (h0 : Nat → Nat) (h1 : Nat → Nat) (h2 : Nat → Nat) (h3 : Nat → Nat) (aS : Nat → Nat) {v0 : V} {v1 : V} {v2 : V} {v3 : V} {v4 : V} {v5 : V} {v6 : V} {v7 : V}  {p1 : Int32} {p2 : Int32} {p3 : Int32} {post : Int32 → V → V → V → V → V → V → V → V → Prop} (h : s_X6_unrate v0 v1 v2 v3 v4 v5 v6 v7 p1 p2 p3 post) : KI l E yX6_unrate wsX6_unrate rmX6_unrate [.ref (aG 0), .int p1, .int p2, .int p3] (List.flatten [cG aG (a0 0) (a1 0) (a2 0) (a3 0) (aH 0) (aS 0) v0, cM E a0 v1, cM E a1 v2, cH E aH (h0 0) (h1 0) (h2 0) (h3 0) v3, cM E h0 v4, cM E h1 v5, cM E h2 v6, cM E h3 v7]) (S := V × V × V × V × V × V × V × V) (fun r (u : V × V × V × V × V × V × V × V) => post r u.1 u.2.1 u.2.2.1 u.2.2.2.1 u.2.2.2.2.1 u.2.2.2.2.2.1 u.2.2.2.2.2.2.1 u.2.2.2.2.2.2.2) (fun (u : V × V × V × V × V × V × V × V) => (List.flatten [cG aG (a0 0) (a1 0) (a2 0) (a3 0) (aH 0) (aS 0) u.1, cM E a0 u.2.1, cM E a1 u.2.2.1, cH E aH (h0 0) (h1 0) (h2 0) (h3 0) u.2.2.2.1, cM E h0 u.2.2.2.2.1, cM E h1 u.2.2.2.2.2.1, cM E h2 u.2.2.2.2.2.2.1, cM E h3 u.2.2.2.2.2.2.2])) := by
  unfold s_X6_unrate at h
  refine KI.go (cc := cX6_unrate) (ret := (some .int)) (maxL := 4) (own := RX6) (by decide) rfl (Nat.le_of_ble_eq_true rfl) rfl (fun p e s m below meth c A ls C0 hw hl => ?_)
  have hx := C0.1
  have hb := C0.2.1
  have hiX6 : ∀ w ∈ wsX60, w ∈ wsX6_unrate := fun w h => List.mem_cons_of_mem _ (List.mem_append_left _ (List.mem_append_left _ (List.mem_append_left _ (List.mem_append_left _ (List.mem_append_left _ (List.mem_append_right _ h))))))
  replace hl : lv_has ls 4 [(0, .ref (aG 0)), (1, .int p1), (2, .int p2), (3, .int p3)] := hl
  refine lv_aload_n hx hb dX6_unrate_0 rfl (lv_at hl 0 rfl) ?_
  refine x_get C0 hw 6 hiX6 rfl 0 rfl 1 (by decide) 1 rfl rfl dX6_unrate_1 ?_
  refine lv_aload_n hx hb dX6_unrate_4 rfl (lv_at hl 0 rfl) ?_
  refine x_get C0 hw 6 hiX6 rfl 0 rfl 0 (by decide) 2 rfl rfl dX6_unrate_5 ?_
  refine x_cVv (As := [.ref (a0 0)]) (rest := []) (F := (List.flatten [cG aG (a0 0) (a1 0) (a2 0) (a3 0) (aH 0) (aS 0) v0, cH E aH (h0 0) (h1 0) (h2 0) (h3 0) v3, cM E h0 v4, cM E h1 v5, cM E h2 v6, cM E h3 v7])) C0 hw (p_fl (ds := [cM E a1 v2, cM E a0 v1]) ((p_pk _ 2 _ rfl).trans (List.Perm.cons _ ((p_pk _ 1 _ rfl).trans (List.Perm.cons _ (List.Perm.refl _)))))) hl.1 24 1 rfl rfl (c_X1_copyFrom l E a1 a0 h) 1 gX6_unrate_X1_copyFrom rfl ⟨rfl, rfl⟩ (by decide +kernel) ⟨Nat.le_of_ble_eq_true rfl, Nat.le_of_ble_eq_true rfl⟩ rfl rfl (Nat.le_of_ble_eq_true rfl) dX6_unrate_8 ⟨Nat.zero_le _, Nat.zero_le _⟩ (fun u_14 H locs h hw => ?_)
  obtain ⟨v_1, v_2⟩ := u_14
  replace hw : mw E A s.heap H locs (List.flatten [cG aG (a0 0) (a1 0) (a2 0) (a3 0) (aH 0) (aS 0) v0, cM E a0 v_2, cM E a1 v_1, cH E aH (h0 0) (h1 0) (h2 0) (h3 0) v3, cM E h0 v4, cM E h1 v5, cM E h2 v6, cM E h3 v7]) := hw.perm (p_bk (ds := [cM E a1 v_1, cM E a0 v_2]) ((p_pk _ 2 _ rfl).trans (List.Perm.cons _ ((p_pk _ 1 _ rfl).trans (List.Perm.cons _ (List.Perm.refl _))))))
  refine lv_aload_n hx hb dX6_unrate_11 rfl (lv_at hl 0 rfl) ?_
  refine lv_aload_n hx hb dX6_unrate_12 rfl (lv_at hl 0 rfl) ?_
  refine x_get C0 hw 6 hiX6 rfl 0 rfl 0 (by decide) 2 rfl rfl dX6_unrate_13 ?_
  refine lv_iload_n hx hb dX6_unrate_16 rfl (lv_at hl 1 rfl) ?_
  refine lv_iload_n hx hb dX6_unrate_17 rfl (lv_at hl 2 rfl) ?_
  refine lv_iload_n hx hb dX6_unrate_18 rfl (lv_at hl 3 rfl) ?_
  refine x_cV (As := [.int p1, .int p2, .int p3]) (rest := [.ref (aG 0)]) (F := (List.flatten [cG aG (a0 0) (a1 0) (a2 0) (a3 0) (aH 0) (aS 0) v0, cM E a1 v_1, cH E aH (h0 0) (h1 0) (h2 0) (h3 0) v3, cM E h0 v4, cM E h1 v5, cM E h2 v6, cM E h3 v7])) C0 hw (p_fl1 ((p_pk _ 1 _ rfl).trans (List.Perm.cons _ (List.Perm.refl _)))) hl.1 1 1 rfl rfl (c_X1_takeRate l E a0 h) 3 gX6_unrate_X1_takeRate rfl ⟨rfl, rfl⟩ (by decide +kernel) ⟨Nat.le_of_ble_eq_true rfl, Nat.le_of_ble_eq_true rfl⟩ rfl rfl (Nat.le_of_ble_eq_true rfl) dX6_unrate_19 ⟨Nat.zero_le _, Nat.zero_le _⟩ (fun r_3 v_4 H locs h hw => ?_)
  replace hw : mw E A s.heap H locs (List.flatten [cG aG (a0 0) (a1 0) (a2 0) (a3 0) (aH 0) (aS 0) v0, cM E a0 v_4, cM E a1 v_1, cH E aH (h0 0) (h1 0) (h2 0) (h3 0) v3, cM E h0 v4, cM E h1 v5, cM E h2 v6, cM E h3 v7]) := hw.perm (p_bk1 ((p_pk _ 1 _ rfl).trans (List.Perm.cons _ (List.Perm.refl _))))
  refine x_cV (As := [.int r_3]) (rest := []) (F := (List.flatten [cM E a0 v_4])) C0 hw (p_fl (ds := [cG aG (a0 0) (a1 0) (a2 0) (a3 0) (aH 0) (aS 0) v0, cM E a1 v_1, cH E aH (h0 0) (h1 0) (h2 0) (h3 0) v3, cM E h0 v4, cM E h1 v5, cM E h2 v6, cM E h3 v7]) ((p_pk _ 0 _ rfl).trans (List.Perm.cons _ ((p_pk _ 1 _ rfl).trans (List.Perm.cons _ ((p_pk _ 1 _ rfl).trans (List.Perm.cons _ ((p_pk _ 1 _ rfl).trans (List.Perm.cons _ ((p_pk _ 1 _ rfl).trans (List.Perm.cons _ ((p_pk _ 1 _ rfl).trans (List.Perm.cons _ ((p_pk _ 1 _ rfl).trans (List.Perm.cons _ (List.Perm.refl _)))))))))))))))) hl.1 0 6 rfl rfl (c_X6_recorded l E aG a0 a1 a2 a3 aH h0 h1 h2 h3 aS h) 1 gX6_unrate_X6_recorded rfl ⟨rfl, rfl⟩ (by decide +kernel) ⟨Nat.le_of_ble_eq_true rfl, Nat.le_of_ble_eq_true rfl⟩ rfl rfl (Nat.le_of_ble_eq_true rfl) dX6_unrate_22 ⟨Nat.zero_le _, Nat.zero_le _⟩ (fun r_5 u_13 H locs h hw => ?_)
  obtain ⟨v_6, v_7, v_8, v_9, v_10, v_11, v_12⟩ := u_13
  replace hw : mw E A s.heap H locs (List.flatten [cG aG (a0 0) (a1 0) (a2 0) (a3 0) (aH 0) (aS 0) v_6, cM E a0 v_4, cM E a1 v_7, cH E aH (h0 0) (h1 0) (h2 0) (h3 0) v_8, cM E h0 v_9, cM E h1 v_10, cM E h2 v_11, cM E h3 v_12]) := hw.perm (p_bk (ds := [cG aG (a0 0) (a1 0) (a2 0) (a3 0) (aH 0) (aS 0) v_6, cM E a1 v_7, cH E aH (h0 0) (h1 0) (h2 0) (h3 0) v_8, cM E h0 v_9, cM E h1 v_10, cM E h2 v_11, cM E h3 v_12]) ((p_pk _ 0 _ rfl).trans (List.Perm.cons _ ((p_pk _ 1 _ rfl).trans (List.Perm.cons _ ((p_pk _ 1 _ rfl).trans (List.Perm.cons _ ((p_pk _ 1 _ rfl).trans (List.Perm.cons _ ((p_pk _ 1 _ rfl).trans (List.Perm.cons _ ((p_pk _ 1 _ rfl).trans (List.Perm.cons _ ((p_pk _ 1 _ rfl).trans (List.Perm.cons _ (List.Perm.refl _))))))))))))))))
  exact x_ret C0 ⟨v_6, v_4, v_7, v_8, v_9, v_10, v_11, v_12⟩ hw h dX6_unrate_25

abbrev rmX6_lend : Room := { frames := 5, cells := 0, slots := 0, locals := 111 }
set_option maxRecDepth 100000 in
set_option maxHeartbeats 4000000 in
theorem c_X6_lend (l : Launch) (E : EE) (aG : Nat → Nat) (a0 : Nat → Nat) (a1 : Nat → Nat) (a2 : Nat → Nat) (a3 : Nat → Nat) (aH : Nat → Nat) (h0 : Nat → Nat) (h1 : Nat → Nat) (h2 : Nat → Nat) (h3 : Nat → Nat) (aS : Nat → Nat) {v0 : V} {v1 : V} {v2 : V} {v3 : V} {v4 : V} {v5 : V} {v6 : V} {v7 : V}  {p1 : Int32} {p2 : Int32} {p3 : Int32} {p4 : Int32} {post : Int32 → V → V → V → V → V → V → V → V → Prop} (h : s_X6_lend v0 v1 v2 v3 v4 v5 v6 v7 p1 p2 p3 p4 post) : KI l E yX6_lend wsX6_lend rmX6_lend [.ref (aG 0), .int p1, .int p2, .int p3, .int p4] (List.flatten [cG aG (a0 0) (a1 0) (a2 0) (a3 0) (aH 0) (aS 0) v0, cM E a0 v1, cM E a1 v2, cH E aH (h0 0) (h1 0) (h2 0) (h3 0) v3, cM E h0 v4, cM E h1 v5, cM E h2 v6, cM E h3 v7]) (S := V × V × V × V × V × V × V × V) (fun r (u : V × V × V × V × V × V × V × V) => post r u.1 u.2.1 u.2.2.1 u.2.2.2.1 u.2.2.2.2.1 u.2.2.2.2.2.1 u.2.2.2.2.2.2.1 u.2.2.2.2.2.2.2) (fun (u : V × V × V × V × V × V × V × V) => (List.flatten [cG aG (a0 0) (a1 0) (a2 0) (a3 0) (aH 0) (aS 0) u.1, cM E a0 u.2.1, cM E a1 u.2.2.1, cH E aH (h0 0) (h1 0) (h2 0) (h3 0) u.2.2.2.1, cM E h0 u.2.2.2.2.1, cM E h1 u.2.2.2.2.2.1, cM E h2 u.2.2.2.2.2.2.1, cM E h3 u.2.2.2.2.2.2.2])) := by
  unfold s_X6_lend at h
  refine KI.go (cc := cX6_lend) (ret := (some .int)) (maxL := 5) (own := RX6) (by decide) rfl (Nat.le_of_ble_eq_true rfl) rfl (fun p e s m below meth c A ls C0 hw hl => ?_)
  have hx := C0.1
  have hb := C0.2.1
  have hiX6 : ∀ w ∈ wsX60, w ∈ wsX6_lend := fun w h => List.mem_cons_of_mem _ (List.mem_append_left _ (List.mem_append_left _ (List.mem_append_left _ (List.mem_append_left _ (List.mem_append_left _ (List.mem_append_right _ h))))))
  replace hl : lv_has ls 5 [(0, .ref (aG 0)), (1, .int p1), (2, .int p2), (3, .int p3), (4, .int p4)] := hl
  refine lv_aload_n hx hb dX6_lend_0 rfl (lv_at hl 0 rfl) ?_
  refine x_get C0 hw 6 hiX6 rfl 0 rfl 1 (by decide) 1 rfl rfl dX6_lend_1 ?_
  refine lv_aload_n hx hb dX6_lend_4 rfl (lv_at hl 0 rfl) ?_
  refine x_get C0 hw 6 hiX6 rfl 0 rfl 0 (by decide) 2 rfl rfl dX6_lend_5 ?_
  refine x_cVv (As := [.ref (a0 0)]) (rest := []) (F := (List.flatten [cG aG (a0 0) (a1 0) (a2 0) (a3 0) (aH 0) (aS 0) v0, cH E aH (h0 0) (h1 0) (h2 0) (h3 0) v3, cM E h0 v4, cM E h1 v5, cM E h2 v6, cM E h3 v7])) C0 hw (p_fl (ds := [cM E a1 v2, cM E a0 v1]) ((p_pk _ 2 _ rfl).trans (List.Perm.cons _ ((p_pk _ 1 _ rfl).trans (List.Perm.cons _ (List.Perm.refl _)))))) hl.1 24 1 rfl rfl (c_X1_copyFrom l E a1 a0 h) 1 gX6_lend_X1_copyFrom rfl ⟨rfl, rfl⟩ (by decide +kernel) ⟨Nat.le_of_ble_eq_true rfl, Nat.le_of_ble_eq_true rfl⟩ rfl rfl (Nat.le_of_ble_eq_true rfl) dX6_lend_8 ⟨Nat.zero_le _, Nat.zero_le _⟩ (fun u_14 H locs h hw => ?_)
  obtain ⟨v_1, v_2⟩ := u_14
  replace hw : mw E A s.heap H locs (List.flatten [cG aG (a0 0) (a1 0) (a2 0) (a3 0) (aH 0) (aS 0) v0, cM E a0 v_2, cM E a1 v_1, cH E aH (h0 0) (h1 0) (h2 0) (h3 0) v3, cM E h0 v4, cM E h1 v5, cM E h2 v6, cM E h3 v7]) := hw.perm (p_bk (ds := [cM E a1 v_1, cM E a0 v_2]) ((p_pk _ 2 _ rfl).trans (List.Perm.cons _ ((p_pk _ 1 _ rfl).trans (List.Perm.cons _ (List.Perm.refl _))))))
  refine lv_aload_n hx hb dX6_lend_11 rfl (lv_at hl 0 rfl) ?_
  refine lv_aload_n hx hb dX6_lend_12 rfl (lv_at hl 0 rfl) ?_
  refine x_get C0 hw 6 hiX6 rfl 0 rfl 0 (by decide) 2 rfl rfl dX6_lend_13 ?_
  refine lv_iload_n hx hb dX6_lend_16 rfl (lv_at hl 1 rfl) ?_
  refine lv_iload_n hx hb dX6_lend_17 rfl (lv_at hl 2 rfl) ?_
  refine lv_iload_n hx hb dX6_lend_18 rfl (lv_at hl 3 rfl) ?_
  refine lv_iload hx hb dX6_lend_19 (lv_at hl 4 rfl) ?_
  refine x_cV (As := [.int p1, .int p2, .int p3, .int p4]) (rest := [.ref (aG 0)]) (F := (List.flatten [cG aG (a0 0) (a1 0) (a2 0) (a3 0) (aH 0) (aS 0) v0, cM E a1 v_1, cH E aH (h0 0) (h1 0) (h2 0) (h3 0) v3, cM E h0 v4, cM E h1 v5, cM E h2 v6, cM E h3 v7])) C0 hw (p_fl1 ((p_pk _ 1 _ rfl).trans (List.Perm.cons _ (List.Perm.refl _)))) hl.1 1 1 rfl rfl (c_X1_lendStones l E a0 h) 4 gX6_lend_X1_lendStones rfl ⟨rfl, rfl⟩ (by decide +kernel) ⟨Nat.le_of_ble_eq_true rfl, Nat.le_of_ble_eq_true rfl⟩ rfl rfl (Nat.le_of_ble_eq_true rfl) dX6_lend_21 ⟨Nat.zero_le _, Nat.zero_le _⟩ (fun r_3 v_4 H locs h hw => ?_)
  replace hw : mw E A s.heap H locs (List.flatten [cG aG (a0 0) (a1 0) (a2 0) (a3 0) (aH 0) (aS 0) v0, cM E a0 v_4, cM E a1 v_1, cH E aH (h0 0) (h1 0) (h2 0) (h3 0) v3, cM E h0 v4, cM E h1 v5, cM E h2 v6, cM E h3 v7]) := hw.perm (p_bk1 ((p_pk _ 1 _ rfl).trans (List.Perm.cons _ (List.Perm.refl _))))
  refine x_cV (As := [.int r_3]) (rest := []) (F := (List.flatten [cM E a0 v_4])) C0 hw (p_fl (ds := [cG aG (a0 0) (a1 0) (a2 0) (a3 0) (aH 0) (aS 0) v0, cM E a1 v_1, cH E aH (h0 0) (h1 0) (h2 0) (h3 0) v3, cM E h0 v4, cM E h1 v5, cM E h2 v6, cM E h3 v7]) ((p_pk _ 0 _ rfl).trans (List.Perm.cons _ ((p_pk _ 1 _ rfl).trans (List.Perm.cons _ ((p_pk _ 1 _ rfl).trans (List.Perm.cons _ ((p_pk _ 1 _ rfl).trans (List.Perm.cons _ ((p_pk _ 1 _ rfl).trans (List.Perm.cons _ ((p_pk _ 1 _ rfl).trans (List.Perm.cons _ ((p_pk _ 1 _ rfl).trans (List.Perm.cons _ (List.Perm.refl _)))))))))))))))) hl.1 0 6 rfl rfl (c_X6_recorded l E aG a0 a1 a2 a3 aH h0 h1 h2 h3 aS h) 1 gX6_lend_X6_recorded rfl ⟨rfl, rfl⟩ (by decide +kernel) ⟨Nat.le_of_ble_eq_true rfl, Nat.le_of_ble_eq_true rfl⟩ rfl rfl (Nat.le_of_ble_eq_true rfl) dX6_lend_24 ⟨Nat.zero_le _, Nat.zero_le _⟩ (fun r_5 u_13 H locs h hw => ?_)
  obtain ⟨v_6, v_7, v_8, v_9, v_10, v_11, v_12⟩ := u_13
  replace hw : mw E A s.heap H locs (List.flatten [cG aG (a0 0) (a1 0) (a2 0) (a3 0) (aH 0) (aS 0) v_6, cM E a0 v_4, cM E a1 v_7, cH E aH (h0 0) (h1 0) (h2 0) (h3 0) v_8, cM E h0 v_9, cM E h1 v_10, cM E h2 v_11, cM E h3 v_12]) := hw.perm (p_bk (ds := [cG aG (a0 0) (a1 0) (a2 0) (a3 0) (aH 0) (aS 0) v_6, cM E a1 v_7, cH E aH (h0 0) (h1 0) (h2 0) (h3 0) v_8, cM E h0 v_9, cM E h1 v_10, cM E h2 v_11, cM E h3 v_12]) ((p_pk _ 0 _ rfl).trans (List.Perm.cons _ ((p_pk _ 1 _ rfl).trans (List.Perm.cons _ ((p_pk _ 1 _ rfl).trans (List.Perm.cons _ ((p_pk _ 1 _ rfl).trans (List.Perm.cons _ ((p_pk _ 1 _ rfl).trans (List.Perm.cons _ ((p_pk _ 1 _ rfl).trans (List.Perm.cons _ ((p_pk _ 1 _ rfl).trans (List.Perm.cons _ (List.Perm.refl _))))))))))))))))
  exact x_ret C0 ⟨v_6, v_4, v_7, v_8, v_9, v_10, v_11, v_12⟩ hw h dX6_lend_27

abbrev rmX6_back : Room := { frames := 5, cells := 0, slots := 0, locals := 111 }
set_option maxRecDepth 100000 in
set_option maxHeartbeats 4000000 in
theorem c_X6_back (l : Launch) (E : EE) (aG : Nat → Nat) (a0 : Nat → Nat) (a1 : Nat → Nat) (a2 : Nat → Nat) (a3 : Nat → Nat) (aH : Nat → Nat) (h0 : Nat → Nat) (h1 : Nat → Nat) (h2 : Nat → Nat) (h3 : Nat → Nat) (aS : Nat → Nat) {v0 : V} {v1 : V} {v2 : V} {v3 : V} {v4 : V} {v5 : V} {v6 : V} {v7 : V}  {p1 : Int32} {post : Int32 → V → V → V → V → V → V → V → V → Prop} (h : s_X6_back v0 v1 v2 v3 v4 v5 v6 v7 p1 post) : KI l E yX6_back wsX6_back rmX6_back [.ref (aG 0), .int p1] (List.flatten [cG aG (a0 0) (a1 0) (a2 0) (a3 0) (aH 0) (aS 0) v0, cM E a0 v1, cM E a1 v2, cH E aH (h0 0) (h1 0) (h2 0) (h3 0) v3, cM E h0 v4, cM E h1 v5, cM E h2 v6, cM E h3 v7]) (S := V × V × V × V × V × V × V × V) (fun r (u : V × V × V × V × V × V × V × V) => post r u.1 u.2.1 u.2.2.1 u.2.2.2.1 u.2.2.2.2.1 u.2.2.2.2.2.1 u.2.2.2.2.2.2.1 u.2.2.2.2.2.2.2) (fun (u : V × V × V × V × V × V × V × V) => (List.flatten [cG aG (a0 0) (a1 0) (a2 0) (a3 0) (aH 0) (aS 0) u.1, cM E a0 u.2.1, cM E a1 u.2.2.1, cH E aH (h0 0) (h1 0) (h2 0) (h3 0) u.2.2.2.1, cM E h0 u.2.2.2.2.1, cM E h1 u.2.2.2.2.2.1, cM E h2 u.2.2.2.2.2.2.1, cM E h3 u.2.2.2.2.2.2.2])) := by
  unfold s_X6_back at h
  refine KI.go (cc := cX6_back) (ret := (some .int)) (maxL := 2) (own := RX6) (by decide) rfl (Nat.le_of_ble_eq_true rfl) rfl (fun p e s m below meth c A ls C0 hw hl => ?_)
  have hx := C0.1
  have hb := C0.2.1
  have hiX6 : ∀ w ∈ wsX60, w ∈ wsX6_back := fun w h => List.mem_cons_of_mem _ (List.mem_append_left _ (List.mem_append_left _ (List.mem_append_left _ (List.mem_append_left _ (List.mem_append_left _ (List.mem_append_right _ h))))))
  replace hl : lv_has ls 2 [(0, .ref (aG 0)), (1, .int p1)] := hl
  refine lv_aload_n hx hb dX6_back_0 rfl (lv_at hl 0 rfl) ?_
  refine x_get C0 hw 6 hiX6 rfl 0 rfl 1 (by decide) 1 rfl rfl dX6_back_1 ?_
  refine lv_aload_n hx hb dX6_back_4 rfl (lv_at hl 0 rfl) ?_
  refine x_get C0 hw 6 hiX6 rfl 0 rfl 0 (by decide) 2 rfl rfl dX6_back_5 ?_
  refine x_cVv (As := [.ref (a0 0)]) (rest := []) (F := (List.flatten [cG aG (a0 0) (a1 0) (a2 0) (a3 0) (aH 0) (aS 0) v0, cH E aH (h0 0) (h1 0) (h2 0) (h3 0) v3, cM E h0 v4, cM E h1 v5, cM E h2 v6, cM E h3 v7])) C0 hw (p_fl (ds := [cM E a1 v2, cM E a0 v1]) ((p_pk _ 2 _ rfl).trans (List.Perm.cons _ ((p_pk _ 1 _ rfl).trans (List.Perm.cons _ (List.Perm.refl _)))))) hl.1 24 1 rfl rfl (c_X1_copyFrom l E a1 a0 h) 1 gX6_back_X1_copyFrom rfl ⟨rfl, rfl⟩ (by decide +kernel) ⟨Nat.le_of_ble_eq_true rfl, Nat.le_of_ble_eq_true rfl⟩ rfl rfl (Nat.le_of_ble_eq_true rfl) dX6_back_8 ⟨Nat.zero_le _, Nat.zero_le _⟩ (fun u_14 H locs h hw => ?_)
  obtain ⟨v_1, v_2⟩ := u_14
  replace hw : mw E A s.heap H locs (List.flatten [cG aG (a0 0) (a1 0) (a2 0) (a3 0) (aH 0) (aS 0) v0, cM E a0 v_2, cM E a1 v_1, cH E aH (h0 0) (h1 0) (h2 0) (h3 0) v3, cM E h0 v4, cM E h1 v5, cM E h2 v6, cM E h3 v7]) := hw.perm (p_bk (ds := [cM E a1 v_1, cM E a0 v_2]) ((p_pk _ 2 _ rfl).trans (List.Perm.cons _ ((p_pk _ 1 _ rfl).trans (List.Perm.cons _ (List.Perm.refl _))))))
  refine lv_aload_n hx hb dX6_back_11 rfl (lv_at hl 0 rfl) ?_
  refine lv_aload_n hx hb dX6_back_12 rfl (lv_at hl 0 rfl) ?_
  refine x_get C0 hw 6 hiX6 rfl 0 rfl 0 (by decide) 2 rfl rfl dX6_back_13 ?_
  refine lv_iload_n hx hb dX6_back_16 rfl (lv_at hl 1 rfl) ?_
  refine x_cV (As := [.int p1]) (rest := [.ref (aG 0)]) (F := (List.flatten [cG aG (a0 0) (a1 0) (a2 0) (a3 0) (aH 0) (aS 0) v0, cM E a1 v_1, cH E aH (h0 0) (h1 0) (h2 0) (h3 0) v3, cM E h0 v4, cM E h1 v5, cM E h2 v6, cM E h3 v7])) C0 hw (p_fl1 ((p_pk _ 1 _ rfl).trans (List.Perm.cons _ (List.Perm.refl _)))) hl.1 1 1 rfl rfl (c_X1_giveBack l E a0 h) 1 gX6_back_X1_giveBack rfl ⟨rfl, rfl⟩ (by decide +kernel) ⟨Nat.le_of_ble_eq_true rfl, Nat.le_of_ble_eq_true rfl⟩ rfl rfl (Nat.le_of_ble_eq_true rfl) dX6_back_17 ⟨Nat.zero_le _, Nat.zero_le _⟩ (fun r_3 v_4 H locs h hw => ?_)
  replace hw : mw E A s.heap H locs (List.flatten [cG aG (a0 0) (a1 0) (a2 0) (a3 0) (aH 0) (aS 0) v0, cM E a0 v_4, cM E a1 v_1, cH E aH (h0 0) (h1 0) (h2 0) (h3 0) v3, cM E h0 v4, cM E h1 v5, cM E h2 v6, cM E h3 v7]) := hw.perm (p_bk1 ((p_pk _ 1 _ rfl).trans (List.Perm.cons _ (List.Perm.refl _))))
  refine x_cV (As := [.int r_3]) (rest := []) (F := (List.flatten [cM E a0 v_4])) C0 hw (p_fl (ds := [cG aG (a0 0) (a1 0) (a2 0) (a3 0) (aH 0) (aS 0) v0, cM E a1 v_1, cH E aH (h0 0) (h1 0) (h2 0) (h3 0) v3, cM E h0 v4, cM E h1 v5, cM E h2 v6, cM E h3 v7]) ((p_pk _ 0 _ rfl).trans (List.Perm.cons _ ((p_pk _ 1 _ rfl).trans (List.Perm.cons _ ((p_pk _ 1 _ rfl).trans (List.Perm.cons _ ((p_pk _ 1 _ rfl).trans (List.Perm.cons _ ((p_pk _ 1 _ rfl).trans (List.Perm.cons _ ((p_pk _ 1 _ rfl).trans (List.Perm.cons _ ((p_pk _ 1 _ rfl).trans (List.Perm.cons _ (List.Perm.refl _)))))))))))))))) hl.1 0 6 rfl rfl (c_X6_recorded l E aG a0 a1 a2 a3 aH h0 h1 h2 h3 aS h) 1 gX6_back_X6_recorded rfl ⟨rfl, rfl⟩ (by decide +kernel) ⟨Nat.le_of_ble_eq_true rfl, Nat.le_of_ble_eq_true rfl⟩ rfl rfl (Nat.le_of_ble_eq_true rfl) dX6_back_20 ⟨Nat.zero_le _, Nat.zero_le _⟩ (fun r_5 u_13 H locs h hw => ?_)
  obtain ⟨v_6, v_7, v_8, v_9, v_10, v_11, v_12⟩ := u_13
  replace hw : mw E A s.heap H locs (List.flatten [cG aG (a0 0) (a1 0) (a2 0) (a3 0) (aH 0) (aS 0) v_6, cM E a0 v_4, cM E a1 v_7, cH E aH (h0 0) (h1 0) (h2 0) (h3 0) v_8, cM E h0 v_9, cM E h1 v_10, cM E h2 v_11, cM E h3 v_12]) := hw.perm (p_bk (ds := [cG aG (a0 0) (a1 0) (a2 0) (a3 0) (aH 0) (aS 0) v_6, cM E a1 v_7, cH E aH (h0 0) (h1 0) (h2 0) (h3 0) v_8, cM E h0 v_9, cM E h1 v_10, cM E h2 v_11, cM E h3 v_12]) ((p_pk _ 0 _ rfl).trans (List.Perm.cons _ ((p_pk _ 1 _ rfl).trans (List.Perm.cons _ ((p_pk _ 1 _ rfl).trans (List.Perm.cons _ ((p_pk _ 1 _ rfl).trans (List.Perm.cons _ ((p_pk _ 1 _ rfl).trans (List.Perm.cons _ ((p_pk _ 1 _ rfl).trans (List.Perm.cons _ ((p_pk _ 1 _ rfl).trans (List.Perm.cons _ (List.Perm.refl _))))))))))))))))
  exact x_ret C0 ⟨v_6, v_4, v_7, v_8, v_9, v_10, v_11, v_12⟩ hw h dX6_back_23

abbrev rmX6_keep : Room := { frames := 5, cells := 0, slots := 0, locals := 111 }
set_option maxRecDepth 100000 in
set_option maxHeartbeats 4000000 in
theorem c_X6_keep (l : Launch) (E : EE) (aG : Nat → Nat) (a0 : Nat → Nat) (a1 : Nat → Nat) (a2 : Nat → Nat) (a3 : Nat → Nat) (aH : Nat → Nat) (h0 : Nat → Nat) (h1 : Nat → Nat) (h2 : Nat → Nat) (h3 : Nat → Nat) (aS : Nat → Nat) {v0 : V} {v1 : V} {v2 : V} {v3 : V} {v4 : V} {v5 : V} {v6 : V} {v7 : V}  {p1 : Int32} {post : Int32 → V → V → V → V → V → V → V → V → Prop} (h : s_X6_keep v0 v1 v2 v3 v4 v5 v6 v7 p1 post) : KI l E yX6_keep wsX6_keep rmX6_keep [.ref (aG 0), .int p1] (List.flatten [cG aG (a0 0) (a1 0) (a2 0) (a3 0) (aH 0) (aS 0) v0, cM E a0 v1, cM E a1 v2, cH E aH (h0 0) (h1 0) (h2 0) (h3 0) v3, cM E h0 v4, cM E h1 v5, cM E h2 v6, cM E h3 v7]) (S := V × V × V × V × V × V × V × V) (fun r (u : V × V × V × V × V × V × V × V) => post r u.1 u.2.1 u.2.2.1 u.2.2.2.1 u.2.2.2.2.1 u.2.2.2.2.2.1 u.2.2.2.2.2.2.1 u.2.2.2.2.2.2.2) (fun (u : V × V × V × V × V × V × V × V) => (List.flatten [cG aG (a0 0) (a1 0) (a2 0) (a3 0) (aH 0) (aS 0) u.1, cM E a0 u.2.1, cM E a1 u.2.2.1, cH E aH (h0 0) (h1 0) (h2 0) (h3 0) u.2.2.2.1, cM E h0 u.2.2.2.2.1, cM E h1 u.2.2.2.2.2.1, cM E h2 u.2.2.2.2.2.2.1, cM E h3 u.2.2.2.2.2.2.2])) := by
  unfold s_X6_keep at h
  refine KI.go (cc := cX6_keep) (ret := (some .int)) (maxL := 2) (own := RX6) (by decide) rfl (Nat.le_of_ble_eq_true rfl) rfl (fun p e s m below meth c A ls C0 hw hl => ?_)
  have hx := C0.1
  have hb := C0.2.1
  have hiX6 : ∀ w ∈ wsX60, w ∈ wsX6_keep := fun w h => List.mem_cons_of_mem _ (List.mem_append_left _ (List.mem_append_left _ (List.mem_append_left _ (List.mem_append_left _ (List.mem_append_left _ (List.mem_append_right _ h))))))
  replace hl : lv_has ls 2 [(0, .ref (aG 0)), (1, .int p1)] := hl
  refine lv_aload_n hx hb dX6_keep_0 rfl (lv_at hl 0 rfl) ?_
  refine x_get C0 hw 6 hiX6 rfl 0 rfl 1 (by decide) 1 rfl rfl dX6_keep_1 ?_
  refine lv_aload_n hx hb dX6_keep_4 rfl (lv_at hl 0 rfl) ?_
  refine x_get C0 hw 6 hiX6 rfl 0 rfl 0 (by decide) 2 rfl rfl dX6_keep_5 ?_
  refine x_cVv (As := [.ref (a0 0)]) (rest := []) (F := (List.flatten [cG aG (a0 0) (a1 0) (a2 0) (a3 0) (aH 0) (aS 0) v0, cH E aH (h0 0) (h1 0) (h2 0) (h3 0) v3, cM E h0 v4, cM E h1 v5, cM E h2 v6, cM E h3 v7])) C0 hw (p_fl (ds := [cM E a1 v2, cM E a0 v1]) ((p_pk _ 2 _ rfl).trans (List.Perm.cons _ ((p_pk _ 1 _ rfl).trans (List.Perm.cons _ (List.Perm.refl _)))))) hl.1 24 1 rfl rfl (c_X1_copyFrom l E a1 a0 h) 1 gX6_keep_X1_copyFrom rfl ⟨rfl, rfl⟩ (by decide +kernel) ⟨Nat.le_of_ble_eq_true rfl, Nat.le_of_ble_eq_true rfl⟩ rfl rfl (Nat.le_of_ble_eq_true rfl) dX6_keep_8 ⟨Nat.zero_le _, Nat.zero_le _⟩ (fun u_14 H locs h hw => ?_)
  obtain ⟨v_1, v_2⟩ := u_14
  replace hw : mw E A s.heap H locs (List.flatten [cG aG (a0 0) (a1 0) (a2 0) (a3 0) (aH 0) (aS 0) v0, cM E a0 v_2, cM E a1 v_1, cH E aH (h0 0) (h1 0) (h2 0) (h3 0) v3, cM E h0 v4, cM E h1 v5, cM E h2 v6, cM E h3 v7]) := hw.perm (p_bk (ds := [cM E a1 v_1, cM E a0 v_2]) ((p_pk _ 2 _ rfl).trans (List.Perm.cons _ ((p_pk _ 1 _ rfl).trans (List.Perm.cons _ (List.Perm.refl _))))))
  refine lv_aload_n hx hb dX6_keep_11 rfl (lv_at hl 0 rfl) ?_
  refine lv_aload_n hx hb dX6_keep_12 rfl (lv_at hl 0 rfl) ?_
  refine x_get C0 hw 6 hiX6 rfl 0 rfl 0 (by decide) 2 rfl rfl dX6_keep_13 ?_
  refine lv_iload_n hx hb dX6_keep_16 rfl (lv_at hl 1 rfl) ?_
  refine x_cV (As := [.int p1]) (rest := [.ref (aG 0)]) (F := (List.flatten [cG aG (a0 0) (a1 0) (a2 0) (a3 0) (aH 0) (aS 0) v0, cM E a1 v_1, cH E aH (h0 0) (h1 0) (h2 0) (h3 0) v3, cM E h0 v4, cM E h1 v5, cM E h2 v6, cM E h3 v7])) C0 hw (p_fl1 ((p_pk _ 1 _ rfl).trans (List.Perm.cons _ (List.Perm.refl _)))) hl.1 1 1 rfl rfl (c_X1_keepStone l E a0 h) 1 gX6_keep_X1_keepStone rfl ⟨rfl, rfl⟩ (by decide +kernel) ⟨Nat.le_of_ble_eq_true rfl, Nat.le_of_ble_eq_true rfl⟩ rfl rfl (Nat.le_of_ble_eq_true rfl) dX6_keep_17 ⟨Nat.zero_le _, Nat.zero_le _⟩ (fun r_3 v_4 H locs h hw => ?_)
  replace hw : mw E A s.heap H locs (List.flatten [cG aG (a0 0) (a1 0) (a2 0) (a3 0) (aH 0) (aS 0) v0, cM E a0 v_4, cM E a1 v_1, cH E aH (h0 0) (h1 0) (h2 0) (h3 0) v3, cM E h0 v4, cM E h1 v5, cM E h2 v6, cM E h3 v7]) := hw.perm (p_bk1 ((p_pk _ 1 _ rfl).trans (List.Perm.cons _ (List.Perm.refl _))))
  refine x_cV (As := [.int r_3]) (rest := []) (F := (List.flatten [cM E a0 v_4])) C0 hw (p_fl (ds := [cG aG (a0 0) (a1 0) (a2 0) (a3 0) (aH 0) (aS 0) v0, cM E a1 v_1, cH E aH (h0 0) (h1 0) (h2 0) (h3 0) v3, cM E h0 v4, cM E h1 v5, cM E h2 v6, cM E h3 v7]) ((p_pk _ 0 _ rfl).trans (List.Perm.cons _ ((p_pk _ 1 _ rfl).trans (List.Perm.cons _ ((p_pk _ 1 _ rfl).trans (List.Perm.cons _ ((p_pk _ 1 _ rfl).trans (List.Perm.cons _ ((p_pk _ 1 _ rfl).trans (List.Perm.cons _ ((p_pk _ 1 _ rfl).trans (List.Perm.cons _ ((p_pk _ 1 _ rfl).trans (List.Perm.cons _ (List.Perm.refl _)))))))))))))))) hl.1 0 6 rfl rfl (c_X6_recorded l E aG a0 a1 a2 a3 aH h0 h1 h2 h3 aS h) 1 gX6_keep_X6_recorded rfl ⟨rfl, rfl⟩ (by decide +kernel) ⟨Nat.le_of_ble_eq_true rfl, Nat.le_of_ble_eq_true rfl⟩ rfl rfl (Nat.le_of_ble_eq_true rfl) dX6_keep_20 ⟨Nat.zero_le _, Nat.zero_le _⟩ (fun r_5 u_13 H locs h hw => ?_)
  obtain ⟨v_6, v_7, v_8, v_9, v_10, v_11, v_12⟩ := u_13
  replace hw : mw E A s.heap H locs (List.flatten [cG aG (a0 0) (a1 0) (a2 0) (a3 0) (aH 0) (aS 0) v_6, cM E a0 v_4, cM E a1 v_7, cH E aH (h0 0) (h1 0) (h2 0) (h3 0) v_8, cM E h0 v_9, cM E h1 v_10, cM E h2 v_11, cM E h3 v_12]) := hw.perm (p_bk (ds := [cG aG (a0 0) (a1 0) (a2 0) (a3 0) (aH 0) (aS 0) v_6, cM E a1 v_7, cH E aH (h0 0) (h1 0) (h2 0) (h3 0) v_8, cM E h0 v_9, cM E h1 v_10, cM E h2 v_11, cM E h3 v_12]) ((p_pk _ 0 _ rfl).trans (List.Perm.cons _ ((p_pk _ 1 _ rfl).trans (List.Perm.cons _ ((p_pk _ 1 _ rfl).trans (List.Perm.cons _ ((p_pk _ 1 _ rfl).trans (List.Perm.cons _ ((p_pk _ 1 _ rfl).trans (List.Perm.cons _ ((p_pk _ 1 _ rfl).trans (List.Perm.cons _ ((p_pk _ 1 _ rfl).trans (List.Perm.cons _ (List.Perm.refl _))))))))))))))))
  exact x_ret C0 ⟨v_6, v_4, v_7, v_8, v_9, v_10, v_11, v_12⟩ hw h dX6_keep_23

abbrev rmX6_sell : Room := { frames := 5, cells := 0, slots := 0, locals := 111 }
set_option maxRecDepth 100000 in
set_option maxHeartbeats 4000000 in
theorem c_X6_sell (l : Launch) (E : EE) (aG : Nat → Nat) (a0 : Nat → Nat) (a1 : Nat → Nat) (a2 : Nat → Nat) (a3 : Nat → Nat) (aH : Nat → Nat) (h0 : Nat → Nat) (h1 : Nat → Nat) (h2 : Nat → Nat) (h3 : Nat → Nat) (aS : Nat → Nat) {v0 : V} {v1 : V} {v2 : V} {v3 : V} {v4 : V} {v5 : V} {v6 : V} {v7 : V}  {p1 : Int32} {p2 : Int32} {post : Int32 → V → V → V → V → V → V → V → V → Prop} (h : s_X6_sell v0 v1 v2 v3 v4 v5 v6 v7 p1 p2 post) : KI l E yX6_sell wsX6_sell rmX6_sell [.ref (aG 0), .int p1, .int p2] (List.flatten [cG aG (a0 0) (a1 0) (a2 0) (a3 0) (aH 0) (aS 0) v0, cM E a0 v1, cM E a1 v2, cH E aH (h0 0) (h1 0) (h2 0) (h3 0) v3, cM E h0 v4, cM E h1 v5, cM E h2 v6, cM E h3 v7]) (S := V × V × V × V × V × V × V × V) (fun r (u : V × V × V × V × V × V × V × V) => post r u.1 u.2.1 u.2.2.1 u.2.2.2.1 u.2.2.2.2.1 u.2.2.2.2.2.1 u.2.2.2.2.2.2.1 u.2.2.2.2.2.2.2) (fun (u : V × V × V × V × V × V × V × V) => (List.flatten [cG aG (a0 0) (a1 0) (a2 0) (a3 0) (aH 0) (aS 0) u.1, cM E a0 u.2.1, cM E a1 u.2.2.1, cH E aH (h0 0) (h1 0) (h2 0) (h3 0) u.2.2.2.1, cM E h0 u.2.2.2.2.1, cM E h1 u.2.2.2.2.2.1, cM E h2 u.2.2.2.2.2.2.1, cM E h3 u.2.2.2.2.2.2.2])) := by
  unfold s_X6_sell at h
  refine KI.go (cc := cX6_sell) (ret := (some .int)) (maxL := 3) (own := RX6) (by decide) rfl (Nat.le_of_ble_eq_true rfl) rfl (fun p e s m below meth c A ls C0 hw hl => ?_)
  have hx := C0.1
  have hb := C0.2.1
  have hiX6 : ∀ w ∈ wsX60, w ∈ wsX6_sell := fun w h => List.mem_cons_of_mem _ (List.mem_append_left _ (List.mem_append_left _ (List.mem_append_left _ (List.mem_append_left _ (List.mem_append_left _ (List.mem_append_right _ h))))))
  replace hl : lv_has ls 3 [(0, .ref (aG 0)), (1, .int p1), (2, .int p2)] := hl
  refine lv_aload_n hx hb dX6_sell_0 rfl (lv_at hl 0 rfl) ?_
  refine x_get C0 hw 6 hiX6 rfl 0 rfl 1 (by decide) 1 rfl rfl dX6_sell_1 ?_
  refine lv_aload_n hx hb dX6_sell_4 rfl (lv_at hl 0 rfl) ?_
  refine x_get C0 hw 6 hiX6 rfl 0 rfl 0 (by decide) 2 rfl rfl dX6_sell_5 ?_
  refine x_cVv (As := [.ref (a0 0)]) (rest := []) (F := (List.flatten [cG aG (a0 0) (a1 0) (a2 0) (a3 0) (aH 0) (aS 0) v0, cH E aH (h0 0) (h1 0) (h2 0) (h3 0) v3, cM E h0 v4, cM E h1 v5, cM E h2 v6, cM E h3 v7])) C0 hw (p_fl (ds := [cM E a1 v2, cM E a0 v1]) ((p_pk _ 2 _ rfl).trans (List.Perm.cons _ ((p_pk _ 1 _ rfl).trans (List.Perm.cons _ (List.Perm.refl _)))))) hl.1 24 1 rfl rfl (c_X1_copyFrom l E a1 a0 h) 1 gX6_sell_X1_copyFrom rfl ⟨rfl, rfl⟩ (by decide +kernel) ⟨Nat.le_of_ble_eq_true rfl, Nat.le_of_ble_eq_true rfl⟩ rfl rfl (Nat.le_of_ble_eq_true rfl) dX6_sell_8 ⟨Nat.zero_le _, Nat.zero_le _⟩ (fun u_14 H locs h hw => ?_)
  obtain ⟨v_1, v_2⟩ := u_14
  replace hw : mw E A s.heap H locs (List.flatten [cG aG (a0 0) (a1 0) (a2 0) (a3 0) (aH 0) (aS 0) v0, cM E a0 v_2, cM E a1 v_1, cH E aH (h0 0) (h1 0) (h2 0) (h3 0) v3, cM E h0 v4, cM E h1 v5, cM E h2 v6, cM E h3 v7]) := hw.perm (p_bk (ds := [cM E a1 v_1, cM E a0 v_2]) ((p_pk _ 2 _ rfl).trans (List.Perm.cons _ ((p_pk _ 1 _ rfl).trans (List.Perm.cons _ (List.Perm.refl _))))))
  refine lv_aload_n hx hb dX6_sell_11 rfl (lv_at hl 0 rfl) ?_
  refine lv_aload_n hx hb dX6_sell_12 rfl (lv_at hl 0 rfl) ?_
  refine x_get C0 hw 6 hiX6 rfl 0 rfl 0 (by decide) 2 rfl rfl dX6_sell_13 ?_
  refine lv_iload_n hx hb dX6_sell_16 rfl (lv_at hl 1 rfl) ?_
  refine lv_iload_n hx hb dX6_sell_17 rfl (lv_at hl 2 rfl) ?_
  refine x_cV (As := [.int p1, .int p2]) (rest := [.ref (aG 0)]) (F := (List.flatten [cG aG (a0 0) (a1 0) (a2 0) (a3 0) (aH 0) (aS 0) v0, cM E a1 v_1, cH E aH (h0 0) (h1 0) (h2 0) (h3 0) v3, cM E h0 v4, cM E h1 v5, cM E h2 v6, cM E h3 v7])) C0 hw (p_fl1 ((p_pk _ 1 _ rfl).trans (List.Perm.cons _ (List.Perm.refl _)))) hl.1 1 1 rfl rfl (c_X1_sellStone l E a0 h) 2 gX6_sell_X1_sellStone rfl ⟨rfl, rfl⟩ (by decide +kernel) ⟨Nat.le_of_ble_eq_true rfl, Nat.le_of_ble_eq_true rfl⟩ rfl rfl (Nat.le_of_ble_eq_true rfl) dX6_sell_18 ⟨Nat.zero_le _, Nat.zero_le _⟩ (fun r_3 v_4 H locs h hw => ?_)
  replace hw : mw E A s.heap H locs (List.flatten [cG aG (a0 0) (a1 0) (a2 0) (a3 0) (aH 0) (aS 0) v0, cM E a0 v_4, cM E a1 v_1, cH E aH (h0 0) (h1 0) (h2 0) (h3 0) v3, cM E h0 v4, cM E h1 v5, cM E h2 v6, cM E h3 v7]) := hw.perm (p_bk1 ((p_pk _ 1 _ rfl).trans (List.Perm.cons _ (List.Perm.refl _))))
  refine x_cV (As := [.int r_3]) (rest := []) (F := (List.flatten [cM E a0 v_4])) C0 hw (p_fl (ds := [cG aG (a0 0) (a1 0) (a2 0) (a3 0) (aH 0) (aS 0) v0, cM E a1 v_1, cH E aH (h0 0) (h1 0) (h2 0) (h3 0) v3, cM E h0 v4, cM E h1 v5, cM E h2 v6, cM E h3 v7]) ((p_pk _ 0 _ rfl).trans (List.Perm.cons _ ((p_pk _ 1 _ rfl).trans (List.Perm.cons _ ((p_pk _ 1 _ rfl).trans (List.Perm.cons _ ((p_pk _ 1 _ rfl).trans (List.Perm.cons _ ((p_pk _ 1 _ rfl).trans (List.Perm.cons _ ((p_pk _ 1 _ rfl).trans (List.Perm.cons _ ((p_pk _ 1 _ rfl).trans (List.Perm.cons _ (List.Perm.refl _)))))))))))))))) hl.1 0 6 rfl rfl (c_X6_recorded l E aG a0 a1 a2 a3 aH h0 h1 h2 h3 aS h) 1 gX6_sell_X6_recorded rfl ⟨rfl, rfl⟩ (by decide +kernel) ⟨Nat.le_of_ble_eq_true rfl, Nat.le_of_ble_eq_true rfl⟩ rfl rfl (Nat.le_of_ble_eq_true rfl) dX6_sell_21 ⟨Nat.zero_le _, Nat.zero_le _⟩ (fun r_5 u_13 H locs h hw => ?_)
  obtain ⟨v_6, v_7, v_8, v_9, v_10, v_11, v_12⟩ := u_13
  replace hw : mw E A s.heap H locs (List.flatten [cG aG (a0 0) (a1 0) (a2 0) (a3 0) (aH 0) (aS 0) v_6, cM E a0 v_4, cM E a1 v_7, cH E aH (h0 0) (h1 0) (h2 0) (h3 0) v_8, cM E h0 v_9, cM E h1 v_10, cM E h2 v_11, cM E h3 v_12]) := hw.perm (p_bk (ds := [cG aG (a0 0) (a1 0) (a2 0) (a3 0) (aH 0) (aS 0) v_6, cM E a1 v_7, cH E aH (h0 0) (h1 0) (h2 0) (h3 0) v_8, cM E h0 v_9, cM E h1 v_10, cM E h2 v_11, cM E h3 v_12]) ((p_pk _ 0 _ rfl).trans (List.Perm.cons _ ((p_pk _ 1 _ rfl).trans (List.Perm.cons _ ((p_pk _ 1 _ rfl).trans (List.Perm.cons _ ((p_pk _ 1 _ rfl).trans (List.Perm.cons _ ((p_pk _ 1 _ rfl).trans (List.Perm.cons _ ((p_pk _ 1 _ rfl).trans (List.Perm.cons _ ((p_pk _ 1 _ rfl).trans (List.Perm.cons _ (List.Perm.refl _))))))))))))))))
  exact x_ret C0 ⟨v_6, v_4, v_7, v_8, v_9, v_10, v_11, v_12⟩ hw h dX6_sell_24

abbrev rmX6_grade : Room := { frames := 5, cells := 0, slots := 0, locals := 111 }
set_option maxRecDepth 100000 in
set_option maxHeartbeats 4000000 in
theorem c_X6_grade (l : Launch) (E : EE) (aG : Nat → Nat) (a0 : Nat → Nat) (a1 : Nat → Nat) (a2 : Nat → Nat) (a3 : Nat → Nat) (aH : Nat → Nat) (h0 : Nat → Nat) (h1 : Nat → Nat) (h2 : Nat → Nat) (h3 : Nat → Nat) (aS : Nat → Nat) {v0 : V} {v1 : V} {v2 : V} {v3 : V} {v4 : V} {v5 : V} {v6 : V} {v7 : V}  {p1 : Int32} {p2 : Int32} {p3 : Int32} {post : Int32 → V → V → V → V → V → V → V → V → Prop} (h : s_X6_grade v0 v1 v2 v3 v4 v5 v6 v7 p1 p2 p3 post) : KI l E yX6_grade wsX6_grade rmX6_grade [.ref (aG 0), .int p1, .int p2, .int p3] (List.flatten [cG aG (a0 0) (a1 0) (a2 0) (a3 0) (aH 0) (aS 0) v0, cM E a0 v1, cM E a1 v2, cH E aH (h0 0) (h1 0) (h2 0) (h3 0) v3, cM E h0 v4, cM E h1 v5, cM E h2 v6, cM E h3 v7]) (S := V × V × V × V × V × V × V × V) (fun r (u : V × V × V × V × V × V × V × V) => post r u.1 u.2.1 u.2.2.1 u.2.2.2.1 u.2.2.2.2.1 u.2.2.2.2.2.1 u.2.2.2.2.2.2.1 u.2.2.2.2.2.2.2) (fun (u : V × V × V × V × V × V × V × V) => (List.flatten [cG aG (a0 0) (a1 0) (a2 0) (a3 0) (aH 0) (aS 0) u.1, cM E a0 u.2.1, cM E a1 u.2.2.1, cH E aH (h0 0) (h1 0) (h2 0) (h3 0) u.2.2.2.1, cM E h0 u.2.2.2.2.1, cM E h1 u.2.2.2.2.2.1, cM E h2 u.2.2.2.2.2.2.1, cM E h3 u.2.2.2.2.2.2.2])) := by
  unfold s_X6_grade at h
  refine KI.go (cc := cX6_grade) (ret := (some .int)) (maxL := 4) (own := RX6) (by decide) rfl (Nat.le_of_ble_eq_true rfl) rfl (fun p e s m below meth c A ls C0 hw hl => ?_)
  have hx := C0.1
  have hb := C0.2.1
  have hiX6 : ∀ w ∈ wsX60, w ∈ wsX6_grade := fun w h => List.mem_cons_of_mem _ (List.mem_append_left _ (List.mem_append_left _ (List.mem_append_left _ (List.mem_append_left _ (List.mem_append_left _ (List.mem_append_right _ h))))))
  replace hl : lv_has ls 4 [(0, .ref (aG 0)), (1, .int p1), (2, .int p2), (3, .int p3)] := hl
  refine lv_aload_n hx hb dX6_grade_0 rfl (lv_at hl 0 rfl) ?_
  refine x_get C0 hw 6 hiX6 rfl 0 rfl 1 (by decide) 1 rfl rfl dX6_grade_1 ?_
  refine lv_aload_n hx hb dX6_grade_4 rfl (lv_at hl 0 rfl) ?_
  refine x_get C0 hw 6 hiX6 rfl 0 rfl 0 (by decide) 2 rfl rfl dX6_grade_5 ?_
  refine x_cVv (As := [.ref (a0 0)]) (rest := []) (F := (List.flatten [cG aG (a0 0) (a1 0) (a2 0) (a3 0) (aH 0) (aS 0) v0, cH E aH (h0 0) (h1 0) (h2 0) (h3 0) v3, cM E h0 v4, cM E h1 v5, cM E h2 v6, cM E h3 v7])) C0 hw (p_fl (ds := [cM E a1 v2, cM E a0 v1]) ((p_pk _ 2 _ rfl).trans (List.Perm.cons _ ((p_pk _ 1 _ rfl).trans (List.Perm.cons _ (List.Perm.refl _)))))) hl.1 24 1 rfl rfl (c_X1_copyFrom l E a1 a0 h) 1 gX6_grade_X1_copyFrom rfl ⟨rfl, rfl⟩ (by decide +kernel) ⟨Nat.le_of_ble_eq_true rfl, Nat.le_of_ble_eq_true rfl⟩ rfl rfl (Nat.le_of_ble_eq_true rfl) dX6_grade_8 ⟨Nat.zero_le _, Nat.zero_le _⟩ (fun u_14 H locs h hw => ?_)
  obtain ⟨v_1, v_2⟩ := u_14
  replace hw : mw E A s.heap H locs (List.flatten [cG aG (a0 0) (a1 0) (a2 0) (a3 0) (aH 0) (aS 0) v0, cM E a0 v_2, cM E a1 v_1, cH E aH (h0 0) (h1 0) (h2 0) (h3 0) v3, cM E h0 v4, cM E h1 v5, cM E h2 v6, cM E h3 v7]) := hw.perm (p_bk (ds := [cM E a1 v_1, cM E a0 v_2]) ((p_pk _ 2 _ rfl).trans (List.Perm.cons _ ((p_pk _ 1 _ rfl).trans (List.Perm.cons _ (List.Perm.refl _))))))
  refine lv_aload_n hx hb dX6_grade_11 rfl (lv_at hl 0 rfl) ?_
  refine lv_aload_n hx hb dX6_grade_12 rfl (lv_at hl 0 rfl) ?_
  refine x_get C0 hw 6 hiX6 rfl 0 rfl 0 (by decide) 2 rfl rfl dX6_grade_13 ?_
  refine lv_iload_n hx hb dX6_grade_16 rfl (lv_at hl 1 rfl) ?_
  refine lv_iload_n hx hb dX6_grade_17 rfl (lv_at hl 2 rfl) ?_
  refine lv_iload_n hx hb dX6_grade_18 rfl (lv_at hl 3 rfl) ?_
  refine x_cV (As := [.int p1, .int p2, .int p3]) (rest := [.ref (aG 0)]) (F := (List.flatten [cG aG (a0 0) (a1 0) (a2 0) (a3 0) (aH 0) (aS 0) v0, cM E a1 v_1, cH E aH (h0 0) (h1 0) (h2 0) (h3 0) v3, cM E h0 v4, cM E h1 v5, cM E h2 v6, cM E h3 v7])) C0 hw (p_fl1 ((p_pk _ 1 _ rfl).trans (List.Perm.cons _ (List.Perm.refl _)))) hl.1 1 1 rfl rfl (c_X1_regrade l E a0 h) 3 gX6_grade_X1_regrade rfl ⟨rfl, rfl⟩ (by decide +kernel) ⟨Nat.le_of_ble_eq_true rfl, Nat.le_of_ble_eq_true rfl⟩ rfl rfl (Nat.le_of_ble_eq_true rfl) dX6_grade_19 ⟨Nat.zero_le _, Nat.zero_le _⟩ (fun r_3 v_4 H locs h hw => ?_)
  replace hw : mw E A s.heap H locs (List.flatten [cG aG (a0 0) (a1 0) (a2 0) (a3 0) (aH 0) (aS 0) v0, cM E a0 v_4, cM E a1 v_1, cH E aH (h0 0) (h1 0) (h2 0) (h3 0) v3, cM E h0 v4, cM E h1 v5, cM E h2 v6, cM E h3 v7]) := hw.perm (p_bk1 ((p_pk _ 1 _ rfl).trans (List.Perm.cons _ (List.Perm.refl _))))
  refine x_cV (As := [.int r_3]) (rest := []) (F := (List.flatten [cM E a0 v_4])) C0 hw (p_fl (ds := [cG aG (a0 0) (a1 0) (a2 0) (a3 0) (aH 0) (aS 0) v0, cM E a1 v_1, cH E aH (h0 0) (h1 0) (h2 0) (h3 0) v3, cM E h0 v4, cM E h1 v5, cM E h2 v6, cM E h3 v7]) ((p_pk _ 0 _ rfl).trans (List.Perm.cons _ ((p_pk _ 1 _ rfl).trans (List.Perm.cons _ ((p_pk _ 1 _ rfl).trans (List.Perm.cons _ ((p_pk _ 1 _ rfl).trans (List.Perm.cons _ ((p_pk _ 1 _ rfl).trans (List.Perm.cons _ ((p_pk _ 1 _ rfl).trans (List.Perm.cons _ ((p_pk _ 1 _ rfl).trans (List.Perm.cons _ (List.Perm.refl _)))))))))))))))) hl.1 0 6 rfl rfl (c_X6_recorded l E aG a0 a1 a2 a3 aH h0 h1 h2 h3 aS h) 1 gX6_grade_X6_recorded rfl ⟨rfl, rfl⟩ (by decide +kernel) ⟨Nat.le_of_ble_eq_true rfl, Nat.le_of_ble_eq_true rfl⟩ rfl rfl (Nat.le_of_ble_eq_true rfl) dX6_grade_22 ⟨Nat.zero_le _, Nat.zero_le _⟩ (fun r_5 u_13 H locs h hw => ?_)
  obtain ⟨v_6, v_7, v_8, v_9, v_10, v_11, v_12⟩ := u_13
  replace hw : mw E A s.heap H locs (List.flatten [cG aG (a0 0) (a1 0) (a2 0) (a3 0) (aH 0) (aS 0) v_6, cM E a0 v_4, cM E a1 v_7, cH E aH (h0 0) (h1 0) (h2 0) (h3 0) v_8, cM E h0 v_9, cM E h1 v_10, cM E h2 v_11, cM E h3 v_12]) := hw.perm (p_bk (ds := [cG aG (a0 0) (a1 0) (a2 0) (a3 0) (aH 0) (aS 0) v_6, cM E a1 v_7, cH E aH (h0 0) (h1 0) (h2 0) (h3 0) v_8, cM E h0 v_9, cM E h1 v_10, cM E h2 v_11, cM E h3 v_12]) ((p_pk _ 0 _ rfl).trans (List.Perm.cons _ ((p_pk _ 1 _ rfl).trans (List.Perm.cons _ ((p_pk _ 1 _ rfl).trans (List.Perm.cons _ ((p_pk _ 1 _ rfl).trans (List.Perm.cons _ ((p_pk _ 1 _ rfl).trans (List.Perm.cons _ ((p_pk _ 1 _ rfl).trans (List.Perm.cons _ ((p_pk _ 1 _ rfl).trans (List.Perm.cons _ (List.Perm.refl _))))))))))))))))
  exact x_ret C0 ⟨v_6, v_4, v_7, v_8, v_9, v_10, v_11, v_12⟩ hw h dX6_grade_25

abbrev rmX6_pause : Room := { frames := 5, cells := 0, slots := 0, locals := 111 }
set_option maxRecDepth 100000 in
set_option maxHeartbeats 4000000 in
theorem c_X6_pause (l : Launch) (E : EE) (aG : Nat → Nat) (a0 : Nat → Nat) (a1 : Nat → Nat) (a2 : Nat → Nat) (a3 : Nat → Nat) (aH : Nat → Nat) (h0 : Nat → Nat) (h1 : Nat → Nat) (h2 : Nat → Nat) (h3 : Nat → Nat) (aS : Nat → Nat) {v0 : V} {v1 : V} {v2 : V} {v3 : V} {v4 : V} {v5 : V} {v6 : V} {v7 : V}  {p1 : Int32} {post : Int32 → V → V → V → V → V → V → V → V → Prop} (h : s_X6_pause v0 v1 v2 v3 v4 v5 v6 v7 p1 post) : KI l E yX6_pause wsX6_pause rmX6_pause [.ref (aG 0), .int p1] (List.flatten [cG aG (a0 0) (a1 0) (a2 0) (a3 0) (aH 0) (aS 0) v0, cM E a0 v1, cM E a1 v2, cH E aH (h0 0) (h1 0) (h2 0) (h3 0) v3, cM E h0 v4, cM E h1 v5, cM E h2 v6, cM E h3 v7]) (S := V × V × V × V × V × V × V × V) (fun r (u : V × V × V × V × V × V × V × V) => post r u.1 u.2.1 u.2.2.1 u.2.2.2.1 u.2.2.2.2.1 u.2.2.2.2.2.1 u.2.2.2.2.2.2.1 u.2.2.2.2.2.2.2) (fun (u : V × V × V × V × V × V × V × V) => (List.flatten [cG aG (a0 0) (a1 0) (a2 0) (a3 0) (aH 0) (aS 0) u.1, cM E a0 u.2.1, cM E a1 u.2.2.1, cH E aH (h0 0) (h1 0) (h2 0) (h3 0) u.2.2.2.1, cM E h0 u.2.2.2.2.1, cM E h1 u.2.2.2.2.2.1, cM E h2 u.2.2.2.2.2.2.1, cM E h3 u.2.2.2.2.2.2.2])) := by
  unfold s_X6_pause at h
  refine KI.go (cc := cX6_pause) (ret := (some .int)) (maxL := 2) (own := RX6) (by decide) rfl (Nat.le_of_ble_eq_true rfl) rfl (fun p e s m below meth c A ls C0 hw hl => ?_)
  have hx := C0.1
  have hb := C0.2.1
  have hiX6 : ∀ w ∈ wsX60, w ∈ wsX6_pause := fun w h => List.mem_cons_of_mem _ (List.mem_append_left _ (List.mem_append_left _ (List.mem_append_left _ (List.mem_append_left _ (List.mem_append_left _ (List.mem_append_right _ h))))))
  replace hl : lv_has ls 2 [(0, .ref (aG 0)), (1, .int p1)] := hl
  refine lv_aload_n hx hb dX6_pause_0 rfl (lv_at hl 0 rfl) ?_
  refine x_get C0 hw 6 hiX6 rfl 0 rfl 1 (by decide) 1 rfl rfl dX6_pause_1 ?_
  refine lv_aload_n hx hb dX6_pause_4 rfl (lv_at hl 0 rfl) ?_
  refine x_get C0 hw 6 hiX6 rfl 0 rfl 0 (by decide) 2 rfl rfl dX6_pause_5 ?_
  refine x_cVv (As := [.ref (a0 0)]) (rest := []) (F := (List.flatten [cG aG (a0 0) (a1 0) (a2 0) (a3 0) (aH 0) (aS 0) v0, cH E aH (h0 0) (h1 0) (h2 0) (h3 0) v3, cM E h0 v4, cM E h1 v5, cM E h2 v6, cM E h3 v7])) C0 hw (p_fl (ds := [cM E a1 v2, cM E a0 v1]) ((p_pk _ 2 _ rfl).trans (List.Perm.cons _ ((p_pk _ 1 _ rfl).trans (List.Perm.cons _ (List.Perm.refl _)))))) hl.1 24 1 rfl rfl (c_X1_copyFrom l E a1 a0 h) 1 gX6_pause_X1_copyFrom rfl ⟨rfl, rfl⟩ (by decide +kernel) ⟨Nat.le_of_ble_eq_true rfl, Nat.le_of_ble_eq_true rfl⟩ rfl rfl (Nat.le_of_ble_eq_true rfl) dX6_pause_8 ⟨Nat.zero_le _, Nat.zero_le _⟩ (fun u_14 H locs h hw => ?_)
  obtain ⟨v_1, v_2⟩ := u_14
  replace hw : mw E A s.heap H locs (List.flatten [cG aG (a0 0) (a1 0) (a2 0) (a3 0) (aH 0) (aS 0) v0, cM E a0 v_2, cM E a1 v_1, cH E aH (h0 0) (h1 0) (h2 0) (h3 0) v3, cM E h0 v4, cM E h1 v5, cM E h2 v6, cM E h3 v7]) := hw.perm (p_bk (ds := [cM E a1 v_1, cM E a0 v_2]) ((p_pk _ 2 _ rfl).trans (List.Perm.cons _ ((p_pk _ 1 _ rfl).trans (List.Perm.cons _ (List.Perm.refl _))))))
  refine lv_aload_n hx hb dX6_pause_11 rfl (lv_at hl 0 rfl) ?_
  refine lv_aload_n hx hb dX6_pause_12 rfl (lv_at hl 0 rfl) ?_
  refine x_get C0 hw 6 hiX6 rfl 0 rfl 0 (by decide) 2 rfl rfl dX6_pause_13 ?_
  refine lv_iload_n hx hb dX6_pause_16 rfl (lv_at hl 1 rfl) ?_
  refine x_cV (As := [.int p1]) (rest := [.ref (aG 0)]) (F := (List.flatten [cG aG (a0 0) (a1 0) (a2 0) (a3 0) (aH 0) (aS 0) v0, cM E a1 v_1, cH E aH (h0 0) (h1 0) (h2 0) (h3 0) v3, cM E h0 v4, cM E h1 v5, cM E h2 v6, cM E h3 v7])) C0 hw (p_fl1 ((p_pk _ 1 _ rfl).trans (List.Perm.cons _ (List.Perm.refl _)))) hl.1 1 1 rfl rfl (c_X1_passDays l E a0 h) 1 gX6_pause_X1_passDays rfl ⟨rfl, rfl⟩ (by decide +kernel) ⟨Nat.le_of_ble_eq_true rfl, Nat.le_of_ble_eq_true rfl⟩ rfl rfl (Nat.le_of_ble_eq_true rfl) dX6_pause_17 ⟨Nat.zero_le _, Nat.zero_le _⟩ (fun r_3 v_4 H locs h hw => ?_)
  replace hw : mw E A s.heap H locs (List.flatten [cG aG (a0 0) (a1 0) (a2 0) (a3 0) (aH 0) (aS 0) v0, cM E a0 v_4, cM E a1 v_1, cH E aH (h0 0) (h1 0) (h2 0) (h3 0) v3, cM E h0 v4, cM E h1 v5, cM E h2 v6, cM E h3 v7]) := hw.perm (p_bk1 ((p_pk _ 1 _ rfl).trans (List.Perm.cons _ (List.Perm.refl _))))
  refine x_cV (As := [.int r_3]) (rest := []) (F := (List.flatten [cM E a0 v_4])) C0 hw (p_fl (ds := [cG aG (a0 0) (a1 0) (a2 0) (a3 0) (aH 0) (aS 0) v0, cM E a1 v_1, cH E aH (h0 0) (h1 0) (h2 0) (h3 0) v3, cM E h0 v4, cM E h1 v5, cM E h2 v6, cM E h3 v7]) ((p_pk _ 0 _ rfl).trans (List.Perm.cons _ ((p_pk _ 1 _ rfl).trans (List.Perm.cons _ ((p_pk _ 1 _ rfl).trans (List.Perm.cons _ ((p_pk _ 1 _ rfl).trans (List.Perm.cons _ ((p_pk _ 1 _ rfl).trans (List.Perm.cons _ ((p_pk _ 1 _ rfl).trans (List.Perm.cons _ ((p_pk _ 1 _ rfl).trans (List.Perm.cons _ (List.Perm.refl _)))))))))))))))) hl.1 0 6 rfl rfl (c_X6_recorded l E aG a0 a1 a2 a3 aH h0 h1 h2 h3 aS h) 1 gX6_pause_X6_recorded rfl ⟨rfl, rfl⟩ (by decide +kernel) ⟨Nat.le_of_ble_eq_true rfl, Nat.le_of_ble_eq_true rfl⟩ rfl rfl (Nat.le_of_ble_eq_true rfl) dX6_pause_20 ⟨Nat.zero_le _, Nat.zero_le _⟩ (fun r_5 u_13 H locs h hw => ?_)
  obtain ⟨v_6, v_7, v_8, v_9, v_10, v_11, v_12⟩ := u_13
  replace hw : mw E A s.heap H locs (List.flatten [cG aG (a0 0) (a1 0) (a2 0) (a3 0) (aH 0) (aS 0) v_6, cM E a0 v_4, cM E a1 v_7, cH E aH (h0 0) (h1 0) (h2 0) (h3 0) v_8, cM E h0 v_9, cM E h1 v_10, cM E h2 v_11, cM E h3 v_12]) := hw.perm (p_bk (ds := [cG aG (a0 0) (a1 0) (a2 0) (a3 0) (aH 0) (aS 0) v_6, cM E a1 v_7, cH E aH (h0 0) (h1 0) (h2 0) (h3 0) v_8, cM E h0 v_9, cM E h1 v_10, cM E h2 v_11, cM E h3 v_12]) ((p_pk _ 0 _ rfl).trans (List.Perm.cons _ ((p_pk _ 1 _ rfl).trans (List.Perm.cons _ ((p_pk _ 1 _ rfl).trans (List.Perm.cons _ ((p_pk _ 1 _ rfl).trans (List.Perm.cons _ ((p_pk _ 1 _ rfl).trans (List.Perm.cons _ ((p_pk _ 1 _ rfl).trans (List.Perm.cons _ ((p_pk _ 1 _ rfl).trans (List.Perm.cons _ (List.Perm.refl _))))))))))))))))
  exact x_ret C0 ⟨v_6, v_4, v_7, v_8, v_9, v_10, v_11, v_12⟩ hw h dX6_pause_23

abbrev rmX6_set : Room := { frames := 5, cells := 0, slots := 0, locals := 111 }
set_option maxRecDepth 100000 in
set_option maxHeartbeats 4000000 in
theorem c_X6_set (l : Launch) (E : EE) (aG : Nat → Nat) (a0 : Nat → Nat) (a1 : Nat → Nat) (a2 : Nat → Nat) (a3 : Nat → Nat) (aH : Nat → Nat) (h0 : Nat → Nat) (h1 : Nat → Nat) (h2 : Nat → Nat) (h3 : Nat → Nat) (aS : Nat → Nat) {v0 : V} {v1 : V} {v2 : V} {v3 : V} {v4 : V} {v5 : V} {v6 : V} {v7 : V}  {p1 : Int32} {p2 : Int32} {post : Int32 → V → V → V → V → V → V → V → V → Prop} (h : s_X6_set v0 v1 v2 v3 v4 v5 v6 v7 p1 p2 post) : KI l E yX6_set wsX6_set rmX6_set [.ref (aG 0), .int p1, .int p2] (List.flatten [cG aG (a0 0) (a1 0) (a2 0) (a3 0) (aH 0) (aS 0) v0, cM E a0 v1, cM E a1 v2, cH E aH (h0 0) (h1 0) (h2 0) (h3 0) v3, cM E h0 v4, cM E h1 v5, cM E h2 v6, cM E h3 v7]) (S := V × V × V × V × V × V × V × V) (fun r (u : V × V × V × V × V × V × V × V) => post r u.1 u.2.1 u.2.2.1 u.2.2.2.1 u.2.2.2.2.1 u.2.2.2.2.2.1 u.2.2.2.2.2.2.1 u.2.2.2.2.2.2.2) (fun (u : V × V × V × V × V × V × V × V) => (List.flatten [cG aG (a0 0) (a1 0) (a2 0) (a3 0) (aH 0) (aS 0) u.1, cM E a0 u.2.1, cM E a1 u.2.2.1, cH E aH (h0 0) (h1 0) (h2 0) (h3 0) u.2.2.2.1, cM E h0 u.2.2.2.2.1, cM E h1 u.2.2.2.2.2.1, cM E h2 u.2.2.2.2.2.2.1, cM E h3 u.2.2.2.2.2.2.2])) := by
  unfold s_X6_set at h
  refine KI.go (cc := cX6_set) (ret := (some .int)) (maxL := 3) (own := RX6) (by decide) rfl (Nat.le_of_ble_eq_true rfl) rfl (fun p e s m below meth c A ls C0 hw hl => ?_)
  have hx := C0.1
  have hb := C0.2.1
  have hiX6 : ∀ w ∈ wsX60, w ∈ wsX6_set := fun w h => List.mem_cons_of_mem _ (List.mem_append_left _ (List.mem_append_left _ (List.mem_append_left _ (List.mem_append_left _ (List.mem_append_left _ (List.mem_append_right _ h))))))
  replace hl : lv_has ls 3 [(0, .ref (aG 0)), (1, .int p1), (2, .int p2)] := hl
  refine lv_aload_n hx hb dX6_set_0 rfl (lv_at hl 0 rfl) ?_
  refine x_get C0 hw 6 hiX6 rfl 0 rfl 1 (by decide) 1 rfl rfl dX6_set_1 ?_
  refine lv_aload_n hx hb dX6_set_4 rfl (lv_at hl 0 rfl) ?_
  refine x_get C0 hw 6 hiX6 rfl 0 rfl 0 (by decide) 2 rfl rfl dX6_set_5 ?_
  refine x_cVv (As := [.ref (a0 0)]) (rest := []) (F := (List.flatten [cG aG (a0 0) (a1 0) (a2 0) (a3 0) (aH 0) (aS 0) v0, cH E aH (h0 0) (h1 0) (h2 0) (h3 0) v3, cM E h0 v4, cM E h1 v5, cM E h2 v6, cM E h3 v7])) C0 hw (p_fl (ds := [cM E a1 v2, cM E a0 v1]) ((p_pk _ 2 _ rfl).trans (List.Perm.cons _ ((p_pk _ 1 _ rfl).trans (List.Perm.cons _ (List.Perm.refl _)))))) hl.1 24 1 rfl rfl (c_X1_copyFrom l E a1 a0 h) 1 gX6_set_X1_copyFrom rfl ⟨rfl, rfl⟩ (by decide +kernel) ⟨Nat.le_of_ble_eq_true rfl, Nat.le_of_ble_eq_true rfl⟩ rfl rfl (Nat.le_of_ble_eq_true rfl) dX6_set_8 ⟨Nat.zero_le _, Nat.zero_le _⟩ (fun u_14 H locs h hw => ?_)
  obtain ⟨v_1, v_2⟩ := u_14
  replace hw : mw E A s.heap H locs (List.flatten [cG aG (a0 0) (a1 0) (a2 0) (a3 0) (aH 0) (aS 0) v0, cM E a0 v_2, cM E a1 v_1, cH E aH (h0 0) (h1 0) (h2 0) (h3 0) v3, cM E h0 v4, cM E h1 v5, cM E h2 v6, cM E h3 v7]) := hw.perm (p_bk (ds := [cM E a1 v_1, cM E a0 v_2]) ((p_pk _ 2 _ rfl).trans (List.Perm.cons _ ((p_pk _ 1 _ rfl).trans (List.Perm.cons _ (List.Perm.refl _))))))
  refine lv_aload_n hx hb dX6_set_11 rfl (lv_at hl 0 rfl) ?_
  refine lv_aload_n hx hb dX6_set_12 rfl (lv_at hl 0 rfl) ?_
  refine x_get C0 hw 6 hiX6 rfl 0 rfl 0 (by decide) 2 rfl rfl dX6_set_13 ?_
  refine lv_iload_n hx hb dX6_set_16 rfl (lv_at hl 1 rfl) ?_
  refine lv_iload_n hx hb dX6_set_17 rfl (lv_at hl 2 rfl) ?_
  refine x_cV (As := [.int p1, .int p2]) (rest := [.ref (aG 0)]) (F := (List.flatten [cG aG (a0 0) (a1 0) (a2 0) (a3 0) (aH 0) (aS 0) v0, cM E a1 v_1, cH E aH (h0 0) (h1 0) (h2 0) (h3 0) v3, cM E h0 v4, cM E h1 v5, cM E h2 v6, cM E h3 v7])) C0 hw (p_fl1 ((p_pk _ 1 _ rfl).trans (List.Perm.cons _ (List.Perm.refl _)))) hl.1 1 1 rfl rfl (c_X1_putSetting l E a0 h) 2 gX6_set_X1_putSetting rfl ⟨rfl, rfl⟩ (by decide +kernel) ⟨Nat.le_of_ble_eq_true rfl, Nat.le_of_ble_eq_true rfl⟩ rfl rfl (Nat.le_of_ble_eq_true rfl) dX6_set_18 ⟨Nat.zero_le _, Nat.zero_le _⟩ (fun r_3 v_4 H locs h hw => ?_)
  replace hw : mw E A s.heap H locs (List.flatten [cG aG (a0 0) (a1 0) (a2 0) (a3 0) (aH 0) (aS 0) v0, cM E a0 v_4, cM E a1 v_1, cH E aH (h0 0) (h1 0) (h2 0) (h3 0) v3, cM E h0 v4, cM E h1 v5, cM E h2 v6, cM E h3 v7]) := hw.perm (p_bk1 ((p_pk _ 1 _ rfl).trans (List.Perm.cons _ (List.Perm.refl _))))
  refine x_cV (As := [.int r_3]) (rest := []) (F := (List.flatten [cM E a0 v_4])) C0 hw (p_fl (ds := [cG aG (a0 0) (a1 0) (a2 0) (a3 0) (aH 0) (aS 0) v0, cM E a1 v_1, cH E aH (h0 0) (h1 0) (h2 0) (h3 0) v3, cM E h0 v4, cM E h1 v5, cM E h2 v6, cM E h3 v7]) ((p_pk _ 0 _ rfl).trans (List.Perm.cons _ ((p_pk _ 1 _ rfl).trans (List.Perm.cons _ ((p_pk _ 1 _ rfl).trans (List.Perm.cons _ ((p_pk _ 1 _ rfl).trans (List.Perm.cons _ ((p_pk _ 1 _ rfl).trans (List.Perm.cons _ ((p_pk _ 1 _ rfl).trans (List.Perm.cons _ ((p_pk _ 1 _ rfl).trans (List.Perm.cons _ (List.Perm.refl _)))))))))))))))) hl.1 0 6 rfl rfl (c_X6_recorded l E aG a0 a1 a2 a3 aH h0 h1 h2 h3 aS h) 1 gX6_set_X6_recorded rfl ⟨rfl, rfl⟩ (by decide +kernel) ⟨Nat.le_of_ble_eq_true rfl, Nat.le_of_ble_eq_true rfl⟩ rfl rfl (Nat.le_of_ble_eq_true rfl) dX6_set_21 ⟨Nat.zero_le _, Nat.zero_le _⟩ (fun r_5 u_13 H locs h hw => ?_)
  obtain ⟨v_6, v_7, v_8, v_9, v_10, v_11, v_12⟩ := u_13
  replace hw : mw E A s.heap H locs (List.flatten [cG aG (a0 0) (a1 0) (a2 0) (a3 0) (aH 0) (aS 0) v_6, cM E a0 v_4, cM E a1 v_7, cH E aH (h0 0) (h1 0) (h2 0) (h3 0) v_8, cM E h0 v_9, cM E h1 v_10, cM E h2 v_11, cM E h3 v_12]) := hw.perm (p_bk (ds := [cG aG (a0 0) (a1 0) (a2 0) (a3 0) (aH 0) (aS 0) v_6, cM E a1 v_7, cH E aH (h0 0) (h1 0) (h2 0) (h3 0) v_8, cM E h0 v_9, cM E h1 v_10, cM E h2 v_11, cM E h3 v_12]) ((p_pk _ 0 _ rfl).trans (List.Perm.cons _ ((p_pk _ 1 _ rfl).trans (List.Perm.cons _ ((p_pk _ 1 _ rfl).trans (List.Perm.cons _ ((p_pk _ 1 _ rfl).trans (List.Perm.cons _ ((p_pk _ 1 _ rfl).trans (List.Perm.cons _ ((p_pk _ 1 _ rfl).trans (List.Perm.cons _ ((p_pk _ 1 _ rfl).trans (List.Perm.cons _ (List.Perm.refl _))))))))))))))))
  exact x_ret C0 ⟨v_6, v_4, v_7, v_8, v_9, v_10, v_11, v_12⟩ hw h dX6_set_24

abbrev rmX6_stoneOf : Room := { frames := 3, cells := 0, slots := 0, locals := 70 }
set_option maxRecDepth 100000 in
set_option maxHeartbeats 4000000 in
theorem c_X6_stoneOf (l : Launch) (E : EE) (aG : Nat → Nat) (a0 : Nat → Nat) (a1 : Nat → Nat) (a2 : Nat → Nat) (a3 : Nat → Nat) (aH : Nat → Nat) (h0 : Nat → Nat) (h1 : Nat → Nat) (h2 : Nat → Nat) (h3 : Nat → Nat) (aS : Nat → Nat) {v0 : V} {v1 : V}  {p1 : Int32} {p2 : Int32} {post : Int32 → V → V → Prop} (h : s_X6_stoneOf v0 v1 p1 p2 post) : KI l E yX6_stoneOf wsX6_stoneOf rmX6_stoneOf [.ref (aG 0), .int p1, .int p2] (List.flatten [cG aG (a0 0) (a1 0) (a2 0) (a3 0) (aH 0) (aS 0) v0, cM E a0 v1]) (S := V × V) (fun r (u : V × V) => post r u.1 u.2) (fun (u : V × V) => (List.flatten [cG aG (a0 0) (a1 0) (a2 0) (a3 0) (aH 0) (aS 0) u.1, cM E a0 u.2])) := by
  unfold s_X6_stoneOf at h
  refine KI.go (cc := cX6_stoneOf) (ret := (some .int)) (maxL := 3) (own := RX6) (by decide) rfl (Nat.le_of_ble_eq_true rfl) rfl (fun p e s m below meth c A ls C0 hw hl => ?_)
  have hx := C0.1
  have hb := C0.2.1
  have hiX1 : ∀ w ∈ wsX10, w ∈ wsX6_stoneOf := fun w h => List.mem_cons_of_mem _ (List.mem_append_left _ (List.mem_append_left _ (List.mem_append_right _ h)))
  have hiX6 : ∀ w ∈ wsX60, w ∈ wsX6_stoneOf := fun w h => List.mem_cons_of_mem _ (List.mem_append_left _ (List.mem_append_left _ (List.mem_append_left _ (List.mem_append_right _ h))))
  replace hl : lv_has ls 3 [(0, .ref (aG 0)), (1, .int p1), (2, .int p2)] := hl
  refine lv_aload_n hx hb dX6_stoneOf_0 rfl (lv_at hl 0 rfl) ?_
  refine x_get C0 hw 6 hiX6 rfl 0 rfl 0 (by decide) 1 rfl rfl dX6_stoneOf_1 ?_
  refine x_getN C0 hw 1 hiX1 rfl 1 rfl 1 (by decide) 22 rfl rfl dX6_stoneOf_4 ?_
  refine lv_iload_n hx hb dX6_stoneOf_7 rfl (lv_at hl 1 rfl) ?_
  refine x_cV (As := [.int p1]) (rest := []) (F := (List.flatten [cG aG (a0 0) (a1 0) (a2 0) (a3 0) (aH 0) (aS 0) v0])) C0 hw (p_fl1 ((p_pk _ 1 _ rfl).trans (List.Perm.cons _ (List.Perm.refl _)))) hl.1 7 5 rfl rfl (c_X5_has l E a0 h) 1 gX6_stoneOf_X5_has rfl ⟨rfl, rfl⟩ (by decide +kernel) ⟨Nat.le_of_ble_eq_true rfl, Nat.le_of_ble_eq_true rfl⟩ rfl rfl (Nat.le_of_ble_eq_true rfl) dX6_stoneOf_8 ⟨Nat.zero_le _, Nat.zero_le _⟩ (fun r_1 v_2 H locs h hw => ?_)
  replace hw : mw E A s.heap H locs (List.flatten [cG aG (a0 0) (a1 0) (a2 0) (a3 0) (aH 0) (aS 0) v0, cM E a0 v_2]) := hw.perm (p_bk1 ((p_pk _ 1 _ rfl).trans (List.Perm.cons _ (List.Perm.refl _))))
  refine lv_if_ne (tgt := 17) hx hb dX6_stoneOf_11 (by decide) (fun c_5 => ?_) (fun c_5 => ?_)
  · replace h := h.1 c_5
    refine lv_aload_n hx hb dX6_stoneOf_17 rfl (lv_at hl 0 rfl) ?_
    refine x_get C0 hw 6 hiX6 rfl 0 rfl 0 (by decide) 1 rfl rfl dX6_stoneOf_18 ?_
    refine lv_iload_n hx hb dX6_stoneOf_21 rfl (lv_at hl 1 rfl) ?_
    refine lv_iload_n hx hb dX6_stoneOf_22 rfl (lv_at hl 2 rfl) ?_
    refine x_cV (As := [.int p1, .int p2]) (rest := []) (F := (List.flatten [cG aG (a0 0) (a1 0) (a2 0) (a3 0) (aH 0) (aS 0) v0])) C0 hw (p_fl1 ((p_pk _ 1 _ rfl).trans (List.Perm.cons _ (List.Perm.refl _)))) hl.1 1 1 rfl rfl (c_X1_tellStone l E a0 h) 2 gX6_stoneOf_X1_tellStone rfl ⟨rfl, rfl⟩ (by decide +kernel) ⟨Nat.le_of_ble_eq_true rfl, Nat.le_of_ble_eq_true rfl⟩ rfl rfl (Nat.le_of_ble_eq_true rfl) dX6_stoneOf_23 ⟨Nat.zero_le _, Nat.zero_le _⟩ (fun r_3 v_4 H locs h hw => ?_)
    replace hw : mw E A s.heap H locs (List.flatten [cG aG (a0 0) (a1 0) (a2 0) (a3 0) (aH 0) (aS 0) v0, cM E a0 v_4]) := hw.perm (p_bk1 ((p_pk _ 1 _ rfl).trans (List.Perm.cons _ (List.Perm.refl _))))
    exact x_ret C0 ⟨v0, v_4⟩ hw h dX6_stoneOf_26
  · replace h := h.2 c_5
    refine x_ldc (v := (-10000001)) C0 2 rfl dX6_stoneOf_14 ?_
    exact x_ret C0 ⟨v0, v_2⟩ hw h dX6_stoneOf_16

abbrev rmX6_dealerOf : Room := { frames := 4, cells := 0, slots := 0, locals := 93 }
set_option maxRecDepth 100000 in
set_option maxHeartbeats 4000000 in
theorem c_X6_dealerOf (l : Launch) (E : EE) (aG : Nat → Nat) (a0 : Nat → Nat) (a1 : Nat → Nat) (a2 : Nat → Nat) (a3 : Nat → Nat) (aH : Nat → Nat) (h0 : Nat → Nat) (h1 : Nat → Nat) (h2 : Nat → Nat) (h3 : Nat → Nat) (aS : Nat → Nat) {v0 : V} {v1 : V}  {p1 : Int32} {p2 : Int32} {post : Int32 → V → V → Prop} (h : s_X6_dealerOf v0 v1 p1 p2 post) : KI l E yX6_dealerOf wsX6_dealerOf rmX6_dealerOf [.ref (aG 0), .int p1, .int p2] (List.flatten [cG aG (a0 0) (a1 0) (a2 0) (a3 0) (aH 0) (aS 0) v0, cM E a0 v1]) (S := V × V) (fun r (u : V × V) => post r u.1 u.2) (fun (u : V × V) => (List.flatten [cG aG (a0 0) (a1 0) (a2 0) (a3 0) (aH 0) (aS 0) u.1, cM E a0 u.2])) := by
  unfold s_X6_dealerOf at h
  refine KI.go (cc := cX6_dealerOf) (ret := (some .int)) (maxL := 3) (own := RX6) (by decide) rfl (Nat.le_of_ble_eq_true rfl) rfl (fun p e s m below meth c A ls C0 hw hl => ?_)
  have hx := C0.1
  have hb := C0.2.1
  have hiX6 : ∀ w ∈ wsX60, w ∈ wsX6_dealerOf := fun w h => List.mem_cons_of_mem _ (List.mem_append_left _ (List.mem_append_left _ (List.mem_append_left _ (List.mem_append_right _ h))))
  replace hl : lv_has ls 3 [(0, .ref (aG 0)), (1, .int p1), (2, .int p2)] := hl
  refine lv_aload_n hx hb dX6_dealerOf_0 rfl (lv_at hl 0 rfl) ?_
  refine x_get C0 hw 6 hiX6 rfl 0 rfl 0 (by decide) 1 rfl rfl dX6_dealerOf_1 ?_
  refine lv_iload_n hx hb dX6_dealerOf_4 rfl (lv_at hl 1 rfl) ?_
  refine x_cV (As := [.int p1]) (rest := []) (F := (List.flatten [cG aG (a0 0) (a1 0) (a2 0) (a3 0) (aH 0) (aS 0) v0])) C0 hw (p_fl1 ((p_pk _ 1 _ rfl).trans (List.Perm.cons _ (List.Perm.refl _)))) hl.1 1 1 rfl rfl (c_X1_hasDealer l E a0 h) 1 gX6_dealerOf_X1_hasDealer rfl ⟨rfl, rfl⟩ (by decide +kernel) ⟨Nat.le_of_ble_eq_true rfl, Nat.le_of_ble_eq_true rfl⟩ rfl rfl (Nat.le_of_ble_eq_true rfl) dX6_dealerOf_5 ⟨Nat.zero_le _, Nat.zero_le _⟩ (fun r_1 v_2 H locs h hw => ?_)
  replace hw : mw E A s.heap H locs (List.flatten [cG aG (a0 0) (a1 0) (a2 0) (a3 0) (aH 0) (aS 0) v0, cM E a0 v_2]) := hw.perm (p_bk1 ((p_pk _ 1 _ rfl).trans (List.Perm.cons _ (List.Perm.refl _))))
  refine lv_if_ne (tgt := 14) hx hb dX6_dealerOf_8 (by decide) (fun c_5 => ?_) (fun c_5 => ?_)
  · replace h := h.1 c_5
    refine lv_aload_n hx hb dX6_dealerOf_14 rfl (lv_at hl 0 rfl) ?_
    refine x_get C0 hw 6 hiX6 rfl 0 rfl 0 (by decide) 1 rfl rfl dX6_dealerOf_15 ?_
    refine lv_iload_n hx hb dX6_dealerOf_18 rfl (lv_at hl 1 rfl) ?_
    refine lv_iload_n hx hb dX6_dealerOf_19 rfl (lv_at hl 2 rfl) ?_
    refine x_cV (As := [.int p1, .int p2]) (rest := []) (F := (List.flatten [cG aG (a0 0) (a1 0) (a2 0) (a3 0) (aH 0) (aS 0) v0])) C0 hw (p_fl1 ((p_pk _ 1 _ rfl).trans (List.Perm.cons _ (List.Perm.refl _)))) hl.1 1 1 rfl rfl (c_X1_tellDealer l E a0 h) 2 gX6_dealerOf_X1_tellDealer rfl ⟨rfl, rfl⟩ (by decide +kernel) ⟨Nat.le_of_ble_eq_true rfl, Nat.le_of_ble_eq_true rfl⟩ rfl rfl (Nat.le_of_ble_eq_true rfl) dX6_dealerOf_20 ⟨Nat.zero_le _, Nat.zero_le _⟩ (fun r_3 v_4 H locs h hw => ?_)
    replace hw : mw E A s.heap H locs (List.flatten [cG aG (a0 0) (a1 0) (a2 0) (a3 0) (aH 0) (aS 0) v0, cM E a0 v_4]) := hw.perm (p_bk1 ((p_pk _ 1 _ rfl).trans (List.Perm.cons _ (List.Perm.refl _))))
    exact x_ret C0 ⟨v0, v_4⟩ hw h dX6_dealerOf_23
  · replace h := h.2 c_5
    refine x_ldc (v := (-10000001)) C0 2 rfl dX6_dealerOf_11 ?_
    exact x_ret C0 ⟨v0, v_2⟩ hw h dX6_dealerOf_13

abbrev rmX6_memoOf : Room := { frames := 3, cells := 0, slots := 0, locals := 67 }
set_option maxRecDepth 100000 in
set_option maxHeartbeats 4000000 in
theorem c_X6_memoOf (l : Launch) (E : EE) (aG : Nat → Nat) (a0 : Nat → Nat) (a1 : Nat → Nat) (a2 : Nat → Nat) (a3 : Nat → Nat) (aH : Nat → Nat) (h0 : Nat → Nat) (h1 : Nat → Nat) (h2 : Nat → Nat) (h3 : Nat → Nat) (aS : Nat → Nat) {v0 : V} {v1 : V}  {p1 : Int32} {p2 : Int32} {post : Int32 → V → V → Prop} (h : s_X6_memoOf v0 v1 p1 p2 post) : KI l E yX6_memoOf wsX6_memoOf rmX6_memoOf [.ref (aG 0), .int p1, .int p2] (List.flatten [cG aG (a0 0) (a1 0) (a2 0) (a3 0) (aH 0) (aS 0) v0, cM E a0 v1]) (S := V × V) (fun r (u : V × V) => post r u.1 u.2) (fun (u : V × V) => (List.flatten [cG aG (a0 0) (a1 0) (a2 0) (a3 0) (aH 0) (aS 0) u.1, cM E a0 u.2])) := by
  unfold s_X6_memoOf at h
  refine KI.go (cc := cX6_memoOf) (ret := (some .int)) (maxL := 3) (own := RX6) (by decide) rfl (Nat.le_of_ble_eq_true rfl) rfl (fun p e s m below meth c A ls C0 hw hl => ?_)
  have hx := C0.1
  have hb := C0.2.1
  have hiX1 : ∀ w ∈ wsX10, w ∈ wsX6_memoOf := fun w h => List.mem_cons_of_mem _ (List.mem_append_left _ (List.mem_append_left _ (List.mem_append_right _ h)))
  have hiX6 : ∀ w ∈ wsX60, w ∈ wsX6_memoOf := fun w h => List.mem_cons_of_mem _ (List.mem_append_left _ (List.mem_append_left _ (List.mem_append_left _ (List.mem_append_right _ h))))
  replace hl : lv_has ls 3 [(0, .ref (aG 0)), (1, .int p1), (2, .int p2)] := hl
  refine lv_aload_n hx hb dX6_memoOf_0 rfl (lv_at hl 0 rfl) ?_
  refine x_get C0 hw 6 hiX6 rfl 0 rfl 0 (by decide) 1 rfl rfl dX6_memoOf_1 ?_
  refine x_getN C0 hw 1 hiX1 rfl 1 rfl 2 (by decide) 23 rfl rfl dX6_memoOf_4 ?_
  refine lv_iload_n hx hb dX6_memoOf_7 rfl (lv_at hl 1 rfl) ?_
  refine x_cV (As := [.int p1]) (rest := []) (F := (List.flatten [cG aG (a0 0) (a1 0) (a2 0) (a3 0) (aH 0) (aS 0) v0])) C0 hw (p_fl1 ((p_pk _ 1 _ rfl).trans (List.Perm.cons _ (List.Perm.refl _)))) hl.1 17 2 rfl rfl (c_X2_has l E a0 h) 1 gX6_memoOf_X2_has rfl ⟨rfl, rfl⟩ (by decide +kernel) ⟨Nat.le_of_ble_eq_true rfl, Nat.le_of_ble_eq_true rfl⟩ rfl rfl (Nat.le_of_ble_eq_true rfl) dX6_memoOf_8 ⟨Nat.zero_le _, Nat.zero_le _⟩ (fun r_1 v_2 H locs h hw => ?_)
  replace hw : mw E A s.heap H locs (List.flatten [cG aG (a0 0) (a1 0) (a2 0) (a3 0) (aH 0) (aS 0) v0, cM E a0 v_2]) := hw.perm (p_bk1 ((p_pk _ 1 _ rfl).trans (List.Perm.cons _ (List.Perm.refl _))))
  refine lv_if_ne (tgt := 17) hx hb dX6_memoOf_11 (by decide) (fun c_5 => ?_) (fun c_5 => ?_)
  · replace h := h.1 c_5
    refine lv_aload_n hx hb dX6_memoOf_17 rfl (lv_at hl 0 rfl) ?_
    refine x_get C0 hw 6 hiX6 rfl 0 rfl 0 (by decide) 1 rfl rfl dX6_memoOf_18 ?_
    refine lv_iload_n hx hb dX6_memoOf_21 rfl (lv_at hl 1 rfl) ?_
    refine lv_iload_n hx hb dX6_memoOf_22 rfl (lv_at hl 2 rfl) ?_
    refine x_cV (As := [.int p1, .int p2]) (rest := []) (F := (List.flatten [cG aG (a0 0) (a1 0) (a2 0) (a3 0) (aH 0) (aS 0) v0])) C0 hw (p_fl1 ((p_pk _ 1 _ rfl).trans (List.Perm.cons _ (List.Perm.refl _)))) hl.1 1 1 rfl rfl (c_X1_tellMemo l E a0 h) 2 gX6_memoOf_X1_tellMemo rfl ⟨rfl, rfl⟩ (by decide +kernel) ⟨Nat.le_of_ble_eq_true rfl, Nat.le_of_ble_eq_true rfl⟩ rfl rfl (Nat.le_of_ble_eq_true rfl) dX6_memoOf_23 ⟨Nat.zero_le _, Nat.zero_le _⟩ (fun r_3 v_4 H locs h hw => ?_)
    replace hw : mw E A s.heap H locs (List.flatten [cG aG (a0 0) (a1 0) (a2 0) (a3 0) (aH 0) (aS 0) v0, cM E a0 v_4]) := hw.perm (p_bk1 ((p_pk _ 1 _ rfl).trans (List.Perm.cons _ (List.Perm.refl _))))
    exact x_ret C0 ⟨v0, v_4⟩ hw h dX6_memoOf_26
  · replace h := h.2 c_5
    refine x_ldc (v := (-10000001)) C0 2 rfl dX6_memoOf_14 ?_
    exact x_ret C0 ⟨v0, v_2⟩ hw h dX6_memoOf_16

abbrev rmX6_rateOf : Room := { frames := 2, cells := 0, slots := 0, locals := 48 }
set_option maxRecDepth 100000 in
set_option maxHeartbeats 4000000 in
theorem c_X6_rateOf (l : Launch) (E : EE) (aG : Nat → Nat) (a0 : Nat → Nat) (a1 : Nat → Nat) (a2 : Nat → Nat) (a3 : Nat → Nat) (aH : Nat → Nat) (h0 : Nat → Nat) (h1 : Nat → Nat) (h2 : Nat → Nat) (h3 : Nat → Nat) (aS : Nat → Nat) {v0 : V} {v1 : V}  {p1 : Int32} {p2 : Int32} {p3 : Int32} {p4 : Int32} {post : Int32 → V → V → Prop} (h : s_X6_rateOf v0 v1 p1 p2 p3 p4 post) : KI l E yX6_rateOf wsX6_rateOf rmX6_rateOf [.ref (aG 0), .int p1, .int p2, .int p3, .int p4] (List.flatten [cG aG (a0 0) (a1 0) (a2 0) (a3 0) (aH 0) (aS 0) v0, cM E a0 v1]) (S := V × V) (fun r (u : V × V) => post r u.1 u.2) (fun (u : V × V) => (List.flatten [cG aG (a0 0) (a1 0) (a2 0) (a3 0) (aH 0) (aS 0) u.1, cM E a0 u.2])) := by
  unfold s_X6_rateOf at h
  refine KI.go (cc := cX6_rateOf) (ret := (some .int)) (maxL := 6) (own := RX6) (by decide) rfl (Nat.le_of_ble_eq_true rfl) rfl (fun p e s m below meth c A ls C0 hw hl => ?_)
  have hx := C0.1
  have hb := C0.2.1
  have hiX1 : ∀ w ∈ wsX10, w ∈ wsX6_rateOf := fun w h => List.mem_cons_of_mem _ (List.mem_append_left _ (List.mem_append_right _ h))
  have hiX6 : ∀ w ∈ wsX60, w ∈ wsX6_rateOf := fun w h => List.mem_cons_of_mem _ (List.mem_append_left _ (List.mem_append_left _ (List.mem_append_right _ h)))
  replace hl : lv_has ls 6 [(0, .ref (aG 0)), (1, .int p1), (2, .int p2), (3, .int p3), (4, .int p4)] := hl
  refine lv_iload_n hx hb dX6_rateOf_0 rfl (lv_at hl 1 rfl) ?_
  refine lv_iload_n hx hb dX6_rateOf_1 rfl (lv_at hl 2 rfl) ?_
  refine lv_iload_n hx hb dX6_rateOf_2 rfl (lv_at hl 3 rfl) ?_
  refine x_cS (As := [.int p1, .int p2, .int p3]) (rest := []) (F := (List.flatten [cG aG (a0 0) (a1 0) (a2 0) (a3 0) (aH 0) (aS 0) v0, cM E a0 v1])) C0 hw (p_non _) hl.1 (c_X6_isGrade l E  h) 3 gX6_rateOf_X6_isGrade rfl ⟨rfl, rfl⟩ (by decide +kernel) ⟨Nat.le_of_ble_eq_true rfl, Nat.le_of_ble_eq_true rfl⟩ rfl rfl (Nat.le_of_ble_eq_true rfl) dX6_rateOf_3 ⟨Nat.zero_le _, Nat.zero_le _⟩ (fun r_1 _u H locs h (hw : mw E A s.heap H locs (List.flatten [cG aG (a0 0) (a1 0) (a2 0) (a3 0) (aH 0) (aS 0) v0, cM E a0 v1])) => ?_)
  refine lv_if_eq (tgt := 20) hx hb dX6_rateOf_6 (by decide) (fun c_11 => ?_) (fun c_11 => ?_)
  · replace h := h.1 c_11
    refine x_ldc (v := (-10000001)) C0 1 rfl dX6_rateOf_20 ?_
    exact x_ret C0 ⟨v0, v1⟩ hw h dX6_rateOf_22
  · replace h := h.2 c_11
    refine lv_iload hx hb dX6_rateOf_9 (lv_at hl 4 rfl) ?_
    refine lv_if_lt (tgt := 20) hx hb dX6_rateOf_11 (by decide) (fun c_10 => ?_) (fun c_10 => ?_)
    · replace h := h.1 c_10
      refine x_ldc (v := (-10000001)) C0 1 rfl dX6_rateOf_20 ?_
      exact x_ret C0 ⟨v0, v1⟩ hw h dX6_rateOf_22
    · replace h := h.2 c_10
      refine lv_iload hx hb dX6_rateOf_14 (lv_at hl 4 rfl) ?_
      refine lv_iconst (v := 1) hx hb dX6_rateOf_16 (by decide) ?_
      refine lv_icmp_le (tgt := 23) hx hb dX6_rateOf_17 (by decide) (fun c_9 => ?_) (fun c_9 => ?_)
      · replace h := h.1 c_9
        refine lv_iload hx hb dX6_rateOf_23 (lv_at hl 4 rfl) ?_
        refine lv_iconst (v := 1) hx hb dX6_rateOf_25 (by decide) ?_
        refine lv_icmp_ne (tgt := 45) hx hb dX6_rateOf_26 (by decide) (fun c_8 => ?_) (fun c_8 => ?_)
        · replace h := h.1 c_8
          refine lv_aload_n hx hb dX6_rateOf_45 rfl (lv_at hl 0 rfl) ?_
          refine x_get C0 hw 6 hiX6 rfl 0 rfl 0 (by decide) 2 rfl rfl dX6_rateOf_46 ?_
          refine x_getN C0 hw 1 hiX1 rfl 1 rfl 0 (by decide) 20 rfl rfl dX6_rateOf_49 ?_
          refine lv_iload_n hx hb dX6_rateOf_52 rfl (lv_at hl 1 rfl) ?_
          refine lv_iload_n hx hb dX6_rateOf_53 rfl (lv_at hl 2 rfl) ?_
          refine lv_iload_n hx hb dX6_rateOf_54 rfl (lv_at hl 3 rfl) ?_
          refine x_cV (As := [.int p1, .int p2, .int p3]) (rest := []) (F := (List.flatten [cG aG (a0 0) (a1 0) (a2 0) (a3 0) (aH 0) (aS 0) v0])) C0 hw (p_fl1 ((p_pk _ 1 _ rfl).trans (List.Perm.cons _ (List.Perm.refl _)))) hl.1 2 3 rfl rfl (c_X3_rateFor l E a0 h) 3 gX6_rateOf_X3_rateFor rfl ⟨rfl, rfl⟩ (by decide +kernel) ⟨Nat.le_of_ble_eq_true rfl, Nat.le_of_ble_eq_true rfl⟩ rfl rfl (Nat.le_of_ble_eq_true rfl) dX6_rateOf_55 ⟨Nat.zero_le _, Nat.zero_le _⟩ (fun r_2 v_3 H locs h hw => ?_)
          replace hw : mw E A s.heap H locs (List.flatten [cG aG (a0 0) (a1 0) (a2 0) (a3 0) (aH 0) (aS 0) v0, cM E a0 v_3]) := hw.perm (p_bk1 ((p_pk _ 1 _ rfl).trans (List.Perm.cons _ (List.Perm.refl _))))
          refine lv_istore (lv' := [(5, .int r_2), (0, .ref (aG 0)), (1, .int p1), (2, .int p2), (3, .int p3), (4, .int p4)]) hx hb dX6_rateOf_58 hl (by decide) rfl (fun ls hl => ?_)
          refine lv_iload hx hb dX6_rateOf_60 (lv_at hl 0 rfl) ?_
          refine lv_if_ne (tgt := 70) hx hb dX6_rateOf_62 (by decide) (fun c_4 => ?_) (fun c_4 => ?_)
          · replace h := h.1 c_4
            refine lv_iload hx hb dX6_rateOf_70 (lv_at hl 0 rfl) ?_
            exact x_ret C0 ⟨v0, v_3⟩ hw h dX6_rateOf_72
          · replace h := h.2 c_4
            refine x_ldc (v := (-10000004)) C0 3 rfl dX6_rateOf_65 ?_
            refine lv_goto (tgt := 72) hx hb dX6_rateOf_67 (by decide) ?_
            exact x_ret C0 ⟨v0, v_3⟩ hw h dX6_rateOf_72
        · replace h := h.2 c_8
          refine lv_aload_n hx hb dX6_rateOf_29 rfl (lv_at hl 0 rfl) ?_
          refine x_get C0 hw 6 hiX6 rfl 0 rfl 0 (by decide) 2 rfl rfl dX6_rateOf_30 ?_
          refine x_getN C0 hw 1 hiX1 rfl 1 rfl 0 (by decide) 20 rfl rfl dX6_rateOf_33 ?_
          refine lv_iload_n hx hb dX6_rateOf_36 rfl (lv_at hl 1 rfl) ?_
          refine lv_iload_n hx hb dX6_rateOf_37 rfl (lv_at hl 2 rfl) ?_
          refine lv_iload_n hx hb dX6_rateOf_38 rfl (lv_at hl 3 rfl) ?_
          refine x_cV (As := [.int p1, .int p2, .int p3]) (rest := []) (F := (List.flatten [cG aG (a0 0) (a1 0) (a2 0) (a3 0) (aH 0) (aS 0) v0])) C0 hw (p_fl1 ((p_pk _ 1 _ rfl).trans (List.Perm.cons _ (List.Perm.refl _)))) hl.1 2 3 rfl rfl (c_X3_ownRate l E a0 h) 3 gX6_rateOf_X3_ownRate rfl ⟨rfl, rfl⟩ (by decide +kernel) ⟨Nat.le_of_ble_eq_true rfl, Nat.le_of_ble_eq_true rfl⟩ rfl rfl (Nat.le_of_ble_eq_true rfl) dX6_rateOf_39 ⟨Nat.zero_le _, Nat.zero_le _⟩ (fun r_5 v_6 H locs h hw => ?_)
          replace hw : mw E A s.heap H locs (List.flatten [cG aG (a0 0) (a1 0) (a2 0) (a3 0) (aH 0) (aS 0) v0, cM E a0 v_6]) := hw.perm (p_bk1 ((p_pk _ 1 _ rfl).trans (List.Perm.cons _ (List.Perm.refl _))))
          refine lv_goto (tgt := 58) hx hb dX6_rateOf_42 (by decide) ?_
          refine lv_istore (lv' := [(5, .int r_5), (0, .ref (aG 0)), (1, .int p1), (2, .int p2), (3, .int p3), (4, .int p4)]) hx hb dX6_rateOf_58 hl (by decide) rfl (fun ls hl => ?_)
          refine lv_iload hx hb dX6_rateOf_60 (lv_at hl 0 rfl) ?_
          refine lv_if_ne (tgt := 70) hx hb dX6_rateOf_62 (by decide) (fun c_7 => ?_) (fun c_7 => ?_)
          · replace h := h.1 c_7
            refine lv_iload hx hb dX6_rateOf_70 (lv_at hl 0 rfl) ?_
            exact x_ret C0 ⟨v0, v_6⟩ hw h dX6_rateOf_72
          · replace h := h.2 c_7
            refine x_ldc (v := (-10000004)) C0 3 rfl dX6_rateOf_65 ?_
            refine lv_goto (tgt := 72) hx hb dX6_rateOf_67 (by decide) ?_
            exact x_ret C0 ⟨v0, v_6⟩ hw h dX6_rateOf_72
      · replace h := h.2 c_9
        refine x_ldc (v := (-10000001)) C0 1 rfl dX6_rateOf_20 ?_
        exact x_ret C0 ⟨v0, v1⟩ hw h dX6_rateOf_22

abbrev rmX6_count : Room := { frames := 4, cells := 0, slots := 0, locals := 88 }
set_option maxRecDepth 100000 in
set_option maxHeartbeats 4000000 in
theorem c_X6_count (l : Launch) (E : EE) (aG : Nat → Nat) (a0 : Nat → Nat) (a1 : Nat → Nat) (a2 : Nat → Nat) (a3 : Nat → Nat) (aH : Nat → Nat) (h0 : Nat → Nat) (h1 : Nat → Nat) (h2 : Nat → Nat) (h3 : Nat → Nat) (aS : Nat → Nat) {v0 : V} {v1 : V} {v2 : V} {v3 : V}  {p1 : Int32} {post : Int32 → V → V → V → V → Prop} (h : s_X6_count v0 v1 v2 v3 p1 post) : KI l E yX6_count wsX6_count rmX6_count [.ref (aG 0), .int p1] (List.flatten [cG aG (a0 0) (a1 0) (a2 0) (a3 0) (aH 0) (aS 0) v0, cM E a0 v1, cH E aH (h0 0) (h1 0) (h2 0) (h3 0) v2, cS E aS v3]) (S := V × V × V × V) (fun r (u : V × V × V × V) => post r u.1 u.2.1 u.2.2.1 u.2.2.2) (fun (u : V × V × V × V) => (List.flatten [cG aG (a0 0) (a1 0) (a2 0) (a3 0) (aH 0) (aS 0) u.1, cM E a0 u.2.1, cH E aH (h0 0) (h1 0) (h2 0) (h3 0) u.2.2.1, cS E aS u.2.2.2])) := by
  unfold s_X6_count at h
  refine KI.go (cc := cX6_count) (ret := (some .int)) (maxL := 2) (own := RX6) (by decide) rfl (Nat.le_of_ble_eq_true rfl) rfl (fun p e s m below meth c A ls C0 hw hl => ?_)
  have hx := C0.1
  have hb := C0.2.1
  have hiX0 : ∀ w ∈ wsX00, w ∈ wsX6_count := fun w h => List.mem_cons_of_mem _ (List.mem_append_left _ (List.mem_append_left _ (List.mem_append_left _ (List.mem_append_left _ (List.mem_append_left _ (List.mem_append_right _ h))))))
  have hiX4 : ∀ w ∈ wsX40, w ∈ wsX6_count := fun w h => List.mem_cons_of_mem _ (List.mem_append_left _ (List.mem_append_left _ (List.mem_append_left _ (List.mem_append_left _ (List.mem_append_right _ h)))))
  have hiX6 : ∀ w ∈ wsX60, w ∈ wsX6_count := fun w h => List.mem_cons_of_mem _ (List.mem_append_left _ (List.mem_append_left _ (List.mem_append_left _ (List.mem_append_left _ (List.mem_append_left _ (List.mem_append_left _ (List.mem_append_right _ h)))))))
  replace hl : lv_has ls 2 [(0, .ref (aG 0)), (1, .int p1)] := hl
  refine lv_iload_n hx hb dX6_count_0 rfl (lv_at hl 1 rfl) ?_
  by_cases c_1 : p1 = 11
  · replace h := h.1 c_1
    refine x_tabIn (tgt := 28) C0 11 c_1 dX6_count_1 (by decide) (by decide) rfl (by decide) ?_
    refine lv_aload_n hx hb dX6_count_28 rfl (lv_at hl 0 rfl) ?_
    refine x_get C0 hw 6 hiX6 rfl 0 rfl 4 (by decide) 1 rfl rfl dX6_count_29 ?_
    refine x_getN C0 hw 0 hiX0 rfl 24 rfl 2 (by decide) 26 rfl rfl dX6_count_32 ?_
    exact x_ret C0 ⟨v0, v1, v2, v3⟩ hw h dX6_count_35
  replace h := h.2
  by_cases c_2 : p1 = 12
  · replace h := h.1 c_2
    refine x_tabIn (tgt := 36) C0 12 c_2 dX6_count_1 (by decide) (by decide) rfl (by decide) ?_
    refine lv_aload_n hx hb dX6_count_36 rfl (lv_at hl 0 rfl) ?_
    refine x_get C0 hw 6 hiX6 rfl 0 rfl 5 (by decide) 2 rfl rfl dX6_count_37 ?_
    refine x_getN C0 hw 4 hiX4 rfl 26 rfl 1 (by decide) 28 rfl rfl dX6_count_40 ?_
    exact x_ret C0 ⟨v0, v1, v2, v3⟩ hw h dX6_count_43
  replace h := h.2
  by_cases c_4 : p1 = 13
  · replace h := h.1 c_4
    refine x_tabIn (tgt := 44) C0 13 c_4 dX6_count_1 (by decide) (by decide) rfl (by decide) ?_
    refine lv_aload_n hx hb dX6_count_44 rfl (lv_at hl 0 rfl) ?_
    refine x_get C0 hw 6 hiX6 rfl 0 rfl 6 (by decide) 3 rfl rfl dX6_count_45 ?_
    refine lv_if_eq (tgt := 55) hx hb dX6_count_48 (by decide) (fun c_3 => ?_) (fun c_3 => ?_)
    · replace h := h.1 c_3
      refine lv_iconst (v := 0) hx hb dX6_count_55 (by decide) ?_
      exact x_ret C0 ⟨v0, v1, v2, v3⟩ hw h dX6_count_56
    · replace h := h.2 c_3
      refine lv_iconst (v := 1) hx hb dX6_count_51 (by decide) ?_
      refine lv_goto (tgt := 56) hx hb dX6_count_52 (by decide) ?_
      exact x_ret C0 ⟨v0, v1, v2, v3⟩ hw h dX6_count_56
  replace h := h.2
  have cD : p1.toInt < 11 ∨ 13 < p1.toInt := by
    have := ne_toInt (z := 11) (by decide) c_1
    have := ne_toInt (z := 12) (by decide) c_2
    have := ne_toInt (z := 13) (by decide) c_4
    omega
  replace h := h cD
  refine lv_tableOut (tgt := 57) hx hb dX6_count_1 cD (by decide) ?_
  refine lv_aload_n hx hb dX6_count_57 rfl (lv_at hl 0 rfl) ?_
  refine x_get C0 hw 6 hiX6 rfl 0 rfl 0 (by decide) 4 rfl rfl dX6_count_58 ?_
  refine lv_iload_n hx hb dX6_count_61 rfl (lv_at hl 1 rfl) ?_
  refine x_cV (As := [.int p1]) (rest := []) (F := (List.flatten [cG aG (a0 0) (a1 0) (a2 0) (a3 0) (aH 0) (aS 0) v0, cH E aH (h0 0) (h1 0) (h2 0) (h3 0) v2, cS E aS v3])) C0 hw (p_fl1 ((p_pk _ 1 _ rfl).trans (List.Perm.cons _ (List.Perm.refl _)))) hl.1 1 1 rfl rfl (c_X1_tellNumber l E a0 h) 1 gX6_count_X1_tellNumber rfl ⟨rfl, rfl⟩ (by decide +kernel) ⟨Nat.le_of_ble_eq_true rfl, Nat.le_of_ble_eq_true rfl⟩ rfl rfl (Nat.le_of_ble_eq_true rfl) dX6_count_62 ⟨Nat.zero_le _, Nat.zero_le _⟩ (fun r_5 v_6 H locs h hw => ?_)
  replace hw : mw E A s.heap H locs (List.flatten [cG aG (a0 0) (a1 0) (a2 0) (a3 0) (aH 0) (aS 0) v0, cM E a0 v_6, cH E aH (h0 0) (h1 0) (h2 0) (h3 0) v2, cS E aS v3]) := hw.perm (p_bk1 ((p_pk _ 1 _ rfl).trans (List.Perm.cons _ (List.Perm.refl _))))
  exact x_ret C0 ⟨v0, v_6, v2, v3⟩ hw h dX6_count_65

abbrev rmX6_best : Room := { frames := 3, cells := 0, slots := 0, locals := 73 }
set_option maxRecDepth 100000 in
set_option maxHeartbeats 4000000 in
theorem c_X6_best (l : Launch) (E : EE) (aG : Nat → Nat) (a0 : Nat → Nat) (a1 : Nat → Nat) (a2 : Nat → Nat) (a3 : Nat → Nat) (aH : Nat → Nat) (h0 : Nat → Nat) (h1 : Nat → Nat) (h2 : Nat → Nat) (h3 : Nat → Nat) (aS : Nat → Nat) {v0 : V} {v1 : V}  {p1 : Int32} {p2 : Int32} {post : Int32 → V → V → Prop} (h : s_X6_best v0 v1 p1 p2 post) : KI l E yX6_best wsX6_best rmX6_best [.ref (aG 0), .int p1, .int p2] (List.flatten [cG aG (a0 0) (a1 0) (a2 0) (a3 0) (aH 0) (aS 0) v0, cM E a0 v1]) (S := V × V) (fun r (u : V × V) => post r u.1 u.2) (fun (u : V × V) => (List.flatten [cG aG (a0 0) (a1 0) (a2 0) (a3 0) (aH 0) (aS 0) u.1, cM E a0 u.2])) := by
  unfold s_X6_best at h
  refine KI.go (cc := cX6_best) (ret := (some .int)) (maxL := 3) (own := RX6) (by decide) rfl (Nat.le_of_ble_eq_true rfl) rfl (fun p e s m below meth c A ls C0 hw hl => ?_)
  have hx := C0.1
  have hb := C0.2.1
  have hiX6 : ∀ w ∈ wsX60, w ∈ wsX6_best := fun w h => List.mem_cons_of_mem _ (List.mem_append_left _ (List.mem_append_left _ (List.mem_append_left _ (List.mem_append_right _ h))))
  replace hl : lv_has ls 3 [(0, .ref (aG 0)), (1, .int p1), (2, .int p2)] := hl
  refine lv_aload_n hx hb dX6_best_0 rfl (lv_at hl 0 rfl) ?_
  refine x_get C0 hw 6 hiX6 rfl 0 rfl 0 (by decide) 1 rfl rfl dX6_best_1 ?_
  refine lv_iload_n hx hb dX6_best_4 rfl (lv_at hl 1 rfl) ?_
  refine x_cV (As := [.int p1]) (rest := []) (F := (List.flatten [cG aG (a0 0) (a1 0) (a2 0) (a3 0) (aH 0) (aS 0) v0])) C0 hw (p_fl1 ((p_pk _ 1 _ rfl).trans (List.Perm.cons _ (List.Perm.refl _)))) hl.1 1 1 rfl rfl (c_X1_hasDealer l E a0 h) 1 gX6_best_X1_hasDealer rfl ⟨rfl, rfl⟩ (by decide +kernel) ⟨Nat.le_of_ble_eq_true rfl, Nat.le_of_ble_eq_true rfl⟩ rfl rfl (Nat.le_of_ble_eq_true rfl) dX6_best_5 ⟨Nat.zero_le _, Nat.zero_le _⟩ (fun r_1 v_2 H locs h hw => ?_)
  replace hw : mw E A s.heap H locs (List.flatten [cG aG (a0 0) (a1 0) (a2 0) (a3 0) (aH 0) (aS 0) v0, cM E a0 v_2]) := hw.perm (p_bk1 ((p_pk _ 1 _ rfl).trans (List.Perm.cons _ (List.Perm.refl _))))
  refine lv_if_eq (tgt := 21) hx hb dX6_best_8 (by decide) (fun c_7 => ?_) (fun c_7 => ?_)
  · replace h := h.1 c_7
    refine x_ldc (v := (-10000001)) C0 3 rfl dX6_best_21 ?_
    exact x_ret C0 ⟨v0, v_2⟩ hw h dX6_best_23
  · replace h := h.2 c_7
    refine lv_iload_n hx hb dX6_best_11 rfl (lv_at hl 2 rfl) ?_
    refine lv_if_lt (tgt := 21) hx hb dX6_best_12 (by decide) (fun c_6 => ?_) (fun c_6 => ?_)
    · replace h := h.1 c_6
      refine x_ldc (v := (-10000001)) C0 3 rfl dX6_best_21 ?_
      exact x_ret C0 ⟨v0, v_2⟩ hw h dX6_best_23
    · replace h := h.2 c_6
      refine lv_iload_n hx hb dX6_best_15 rfl (lv_at hl 2 rfl) ?_
      refine x_ldc (v := 99999) C0 2 rfl dX6_best_16 ?_
      refine lv_icmp_le (tgt := 24) hx hb dX6_best_18 (by decide) (fun c_5 => ?_) (fun c_5 => ?_)
      · replace h := h.1 c_5
        refine lv_aload_n hx hb dX6_best_24 rfl (lv_at hl 0 rfl) ?_
        refine x_get C0 hw 6 hiX6 rfl 0 rfl 0 (by decide) 1 rfl rfl dX6_best_25 ?_
        refine lv_iload_n hx hb dX6_best_28 rfl (lv_at hl 1 rfl) ?_
        refine lv_iload_n hx hb dX6_best_29 rfl (lv_at hl 2 rfl) ?_
        refine x_cV (As := [.int p1, .int p2]) (rest := []) (F := (List.flatten [cG aG (a0 0) (a1 0) (a2 0) (a3 0) (aH 0) (aS 0) v0])) C0 hw (p_fl1 ((p_pk _ 1 _ rfl).trans (List.Perm.cons _ (List.Perm.refl _)))) hl.1 1 1 rfl rfl (c_X1_dearestHeld l E a0 h) 2 gX6_best_X1_dearestHeld rfl ⟨rfl, rfl⟩ (by decide +kernel) ⟨Nat.le_of_ble_eq_true rfl, Nat.le_of_ble_eq_true rfl⟩ rfl rfl (Nat.le_of_ble_eq_true rfl) dX6_best_30 ⟨Nat.zero_le _, Nat.zero_le _⟩ (fun r_3 v_4 H locs h hw => ?_)
        replace hw : mw E A s.heap H locs (List.flatten [cG aG (a0 0) (a1 0) (a2 0) (a3 0) (aH 0) (aS 0) v0, cM E a0 v_4]) := hw.perm (p_bk1 ((p_pk _ 1 _ rfl).trans (List.Perm.cons _ (List.Perm.refl _))))
        exact x_ret C0 ⟨v0, v_4⟩ hw h dX6_best_33
      · replace h := h.2 c_5
        refine x_ldc (v := (-10000001)) C0 3 rfl dX6_best_21 ?_
        exact x_ret C0 ⟨v0, v_2⟩ hw h dX6_best_23

abbrev rmX6_pair : Room := { frames := 3, cells := 0, slots := 0, locals := 72 }
set_option maxRecDepth 100000 in
set_option maxHeartbeats 4000000 in
theorem c_X6_pair (l : Launch) (E : EE) (aG : Nat → Nat) (a0 : Nat → Nat) (a1 : Nat → Nat) (a2 : Nat → Nat) (a3 : Nat → Nat) (aH : Nat → Nat) (h0 : Nat → Nat) (h1 : Nat → Nat) (h2 : Nat → Nat) (h3 : Nat → Nat) (aS : Nat → Nat) {v0 : V} {v1 : V}  {p1 : Int32} {p2 : Int32} {post : Int32 → V → V → Prop} (h : s_X6_pair v0 v1 p1 p2 post) : KI l E yX6_pair wsX6_pair rmX6_pair [.ref (aG 0), .int p1, .int p2] (List.flatten [cG aG (a0 0) (a1 0) (a2 0) (a3 0) (aH 0) (aS 0) v0, cM E a0 v1]) (S := V × V) (fun r (u : V × V) => post r u.1 u.2) (fun (u : V × V) => (List.flatten [cG aG (a0 0) (a1 0) (a2 0) (a3 0) (aH 0) (aS 0) u.1, cM E a0 u.2])) := by
  unfold s_X6_pair at h
  refine KI.go (cc := cX6_pair) (ret := (some .int)) (maxL := 3) (own := RX6) (by decide) rfl (Nat.le_of_ble_eq_true rfl) rfl (fun p e s m below meth c A ls C0 hw hl => ?_)
  have hx := C0.1
  have hb := C0.2.1
  have hiX1 : ∀ w ∈ wsX10, w ∈ wsX6_pair := fun w h => List.mem_cons_of_mem _ (List.mem_append_left _ (List.mem_append_right _ h))
  have hiX6 : ∀ w ∈ wsX60, w ∈ wsX6_pair := fun w h => List.mem_cons_of_mem _ (List.mem_append_left _ (List.mem_append_left _ (List.mem_append_right _ h)))
  replace hl : lv_has ls 3 [(0, .ref (aG 0)), (1, .int p1), (2, .int p2)] := hl
  refine lv_aload_n hx hb dX6_pair_0 rfl (lv_at hl 0 rfl) ?_
  refine x_get C0 hw 6 hiX6 rfl 0 rfl 0 (by decide) 1 rfl rfl dX6_pair_1 ?_
  refine lv_iload_n hx hb dX6_pair_4 rfl (lv_at hl 1 rfl) ?_
  refine x_cV (As := [.int p1]) (rest := []) (F := (List.flatten [cG aG (a0 0) (a1 0) (a2 0) (a3 0) (aH 0) (aS 0) v0])) C0 hw (p_fl1 ((p_pk _ 1 _ rfl).trans (List.Perm.cons _ (List.Perm.refl _)))) hl.1 1 1 rfl rfl (c_X1_hasDealer l E a0 h) 1 gX6_pair_X1_hasDealer rfl ⟨rfl, rfl⟩ (by decide +kernel) ⟨Nat.le_of_ble_eq_true rfl, Nat.le_of_ble_eq_true rfl⟩ rfl rfl (Nat.le_of_ble_eq_true rfl) dX6_pair_5 ⟨Nat.zero_le _, Nat.zero_le _⟩ (fun r_1 v_2 H locs h hw => ?_)
  replace hw : mw E A s.heap H locs (List.flatten [cG aG (a0 0) (a1 0) (a2 0) (a3 0) (aH 0) (aS 0) v0, cM E a0 v_2]) := hw.perm (p_bk1 ((p_pk _ 1 _ rfl).trans (List.Perm.cons _ (List.Perm.refl _))))
  refine lv_if_eq (tgt := 20) hx hb dX6_pair_8 (by decide) (fun c_7 => ?_) (fun c_7 => ?_)
  · replace h := h.1 c_7
    refine x_ldc (v := (-10000001)) C0 2 rfl dX6_pair_20 ?_
    exact x_ret C0 ⟨v0, v_2⟩ hw h dX6_pair_22
  · replace h := h.2 c_7
    refine lv_iload_n hx hb dX6_pair_11 rfl (lv_at hl 2 rfl) ?_
    refine lv_if_lt (tgt := 20) hx hb dX6_pair_12 (by decide) (fun c_6 => ?_) (fun c_6 => ?_)
    · replace h := h.1 c_6
      refine x_ldc (v := (-10000001)) C0 2 rfl dX6_pair_20 ?_
      exact x_ret C0 ⟨v0, v_2⟩ hw h dX6_pair_22
    · replace h := h.2 c_6
      refine lv_iload_n hx hb dX6_pair_15 rfl (lv_at hl 2 rfl) ?_
      refine lv_iconst (v := 2) hx hb dX6_pair_16 (by decide) ?_
      refine lv_icmp_le (tgt := 23) hx hb dX6_pair_17 (by decide) (fun c_5 => ?_) (fun c_5 => ?_)
      · replace h := h.1 c_5
        refine lv_aload_n hx hb dX6_pair_23 rfl (lv_at hl 0 rfl) ?_
        refine x_get C0 hw 6 hiX6 rfl 0 rfl 0 (by decide) 1 rfl rfl dX6_pair_24 ?_
        refine x_getN C0 hw 1 hiX1 rfl 1 rfl 1 (by decide) 22 rfl rfl dX6_pair_27 ?_
        refine lv_iload_n hx hb dX6_pair_30 rfl (lv_at hl 1 rfl) ?_
        refine lv_iload_n hx hb dX6_pair_31 rfl (lv_at hl 2 rfl) ?_
        refine x_cV (As := [.int p1, .int p2]) (rest := []) (F := (List.flatten [cG aG (a0 0) (a1 0) (a2 0) (a3 0) (aH 0) (aS 0) v0])) C0 hw (p_fl1 ((p_pk _ 1 _ rfl).trans (List.Perm.cons _ (List.Perm.refl _)))) hl.1 7 5 rfl rfl (c_X5_closestPair l E a0 h) 2 gX6_pair_X5_closestPair rfl ⟨rfl, rfl⟩ (by decide +kernel) ⟨Nat.le_of_ble_eq_true rfl, Nat.le_of_ble_eq_true rfl⟩ rfl rfl (Nat.le_of_ble_eq_true rfl) dX6_pair_32 ⟨Nat.zero_le _, Nat.zero_le _⟩ (fun r_3 v_4 H locs h hw => ?_)
        replace hw : mw E A s.heap H locs (List.flatten [cG aG (a0 0) (a1 0) (a2 0) (a3 0) (aH 0) (aS 0) v0, cM E a0 v_4]) := hw.perm (p_bk1 ((p_pk _ 1 _ rfl).trans (List.Perm.cons _ (List.Perm.refl _))))
        exact x_ret C0 ⟨v0, v_4⟩ hw h dX6_pair_35
      · replace h := h.2 c_5
        refine x_ldc (v := (-10000001)) C0 2 rfl dX6_pair_20 ?_
        exact x_ret C0 ⟨v0, v_2⟩ hw h dX6_pair_22

abbrev rmX6_grades : Room := { frames := 4, cells := 0, slots := 0, locals := 90 }
set_option maxRecDepth 100000 in
set_option maxHeartbeats 4000000 in
theorem c_X6_grades (l : Launch) (E : EE) (aG : Nat → Nat) (a0 : Nat → Nat) (a1 : Nat → Nat) (a2 : Nat → Nat) (a3 : Nat → Nat) (aH : Nat → Nat) (h0 : Nat → Nat) (h1 : Nat → Nat) (h2 : Nat → Nat) (h3 : Nat → Nat) (aS : Nat → Nat) {v0 : V} {v1 : V}  {p1 : Int32} {post : Int32 → V → V → Prop} (h : s_X6_grades v0 v1 p1 post) : KI l E yX6_grades wsX6_grades rmX6_grades [.ref (aG 0), .int p1] (List.flatten [cG aG (a0 0) (a1 0) (a2 0) (a3 0) (aH 0) (aS 0) v0, cM E a0 v1]) (S := V × V) (fun r (u : V × V) => post r u.1 u.2) (fun (u : V × V) => (List.flatten [cG aG (a0 0) (a1 0) (a2 0) (a3 0) (aH 0) (aS 0) u.1, cM E a0 u.2])) := by
  unfold s_X6_grades at h
  refine KI.go (cc := cX6_grades) (ret := (some .int)) (maxL := 2) (own := RX6) (by decide) rfl (Nat.le_of_ble_eq_true rfl) rfl (fun p e s m below meth c A ls C0 hw hl => ?_)
  have hx := C0.1
  have hb := C0.2.1
  have hiX1 : ∀ w ∈ wsX10, w ∈ wsX6_grades := fun w h => List.mem_cons_of_mem _ (List.mem_append_left _ (List.mem_append_right _ h))
  have hiX6 : ∀ w ∈ wsX60, w ∈ wsX6_grades := fun w h => List.mem_cons_of_mem _ (List.mem_append_left _ (List.mem_append_left _ (List.mem_append_right _ h)))
  replace hl : lv_has ls 2 [(0, .ref (aG 0)), (1, .int p1)] := hl
  refine lv_aload_n hx hb dX6_grades_0 rfl (lv_at hl 0 rfl) ?_
  refine x_get C0 hw 6 hiX6 rfl 0 rfl 0 (by decide) 1 rfl rfl dX6_grades_1 ?_
  refine lv_iload_n hx hb dX6_grades_4 rfl (lv_at hl 1 rfl) ?_
  refine x_cV (As := [.int p1]) (rest := []) (F := (List.flatten [cG aG (a0 0) (a1 0) (a2 0) (a3 0) (aH 0) (aS 0) v0])) C0 hw (p_fl1 ((p_pk _ 1 _ rfl).trans (List.Perm.cons _ (List.Perm.refl _)))) hl.1 1 1 rfl rfl (c_X1_hasDealer l E a0 h) 1 gX6_grades_X1_hasDealer rfl ⟨rfl, rfl⟩ (by decide +kernel) ⟨Nat.le_of_ble_eq_true rfl, Nat.le_of_ble_eq_true rfl⟩ rfl rfl (Nat.le_of_ble_eq_true rfl) dX6_grades_5 ⟨Nat.zero_le _, Nat.zero_le _⟩ (fun r_1 v_2 H locs h hw => ?_)
  replace hw : mw E A s.heap H locs (List.flatten [cG aG (a0 0) (a1 0) (a2 0) (a3 0) (aH 0) (aS 0) v0, cM E a0 v_2]) := hw.perm (p_bk1 ((p_pk _ 1 _ rfl).trans (List.Perm.cons _ (List.Perm.refl _))))
  refine lv_if_ne (tgt := 14) hx hb dX6_grades_8 (by decide) (fun c_5 => ?_) (fun c_5 => ?_)
  · replace h := h.1 c_5
    refine lv_aload_n hx hb dX6_grades_14 rfl (lv_at hl 0 rfl) ?_
    refine x_get C0 hw 6 hiX6 rfl 0 rfl 0 (by decide) 1 rfl rfl dX6_grades_15 ?_
    refine x_getN C0 hw 1 hiX1 rfl 1 rfl 1 (by decide) 22 rfl rfl dX6_grades_18 ?_
    refine lv_iload_n hx hb dX6_grades_21 rfl (lv_at hl 1 rfl) ?_
    refine x_cV (As := [.int p1]) (rest := []) (F := (List.flatten [cG aG (a0 0) (a1 0) (a2 0) (a3 0) (aH 0) (aS 0) v0])) C0 hw (p_fl1 ((p_pk _ 1 _ rfl).trans (List.Perm.cons _ (List.Perm.refl _)))) hl.1 7 5 rfl rfl (c_X5_unlikeGrades l E a0 h) 1 gX6_grades_X5_unlikeGrades rfl ⟨rfl, rfl⟩ (by decide +kernel) ⟨Nat.le_of_ble_eq_true rfl, Nat.le_of_ble_eq_true rfl⟩ rfl rfl (Nat.le_of_ble_eq_true rfl) dX6_grades_22 ⟨Nat.zero_le _, Nat.zero_le _⟩ (fun r_3 v_4 H locs h hw => ?_)
    replace hw : mw E A s.heap H locs (List.flatten [cG aG (a0 0) (a1 0) (a2 0) (a3 0) (aH 0) (aS 0) v0, cM E a0 v_4]) := hw.perm (p_bk1 ((p_pk _ 1 _ rfl).trans (List.Perm.cons _ (List.Perm.refl _))))
    exact x_ret C0 ⟨v0, v_4⟩ hw h dX6_grades_25
  · replace h := h.2 c_5
    refine x_ldc (v := (-10000001)) C0 2 rfl dX6_grades_11 ?_
    exact x_ret C0 ⟨v0, v_2⟩ hw h dX6_grades_13

abbrev rmX6_mark : Room := { frames := 3, cells := 0, slots := 0, locals := 68 }
set_option maxRecDepth 100000 in
set_option maxHeartbeats 4000000 in
theorem c_X6_mark (l : Launch) (E : EE) (aG : Nat → Nat) (a0 : Nat → Nat) (a1 : Nat → Nat) (a2 : Nat → Nat) (a3 : Nat → Nat) (aH : Nat → Nat) (h0 : Nat → Nat) (h1 : Nat → Nat) (h2 : Nat → Nat) (h3 : Nat → Nat) (aS : Nat → Nat) {v0 : V} {v1 : V} {v2 : V}   {post : Int32 → V → V → V → Prop} (h : s_X6_mark v0 v1 v2 post) : KI l E yX6_mark wsX6_mark rmX6_mark [.ref (aG 0)] (List.flatten [cG aG (a0 0) (a1 0) (a2 0) (a3 0) (aH 0) (aS 0) v0, cM E a0 v1, cM E a3 v2]) (S := V × V × V) (fun r (u : V × V × V) => post r u.1 u.2.1 u.2.2) (fun (u : V × V × V) => (List.flatten [cG aG (a0 0) (a1 0) (a2 0) (a3 0) (aH 0) (aS 0) u.1, cM E a0 u.2.1, cM E a3 u.2.2])) := by
  unfold s_X6_mark at h
  refine KI.go (cc := cX6_mark) (ret := (some .int)) (maxL := 1) (own := RX6) (by decide) rfl (Nat.le_of_ble_eq_true rfl) rfl (fun p e s m below meth c A ls C0 hw hl => ?_)
  have hx := C0.1
  have hb := C0.2.1
  have hiX1 : ∀ w ∈ wsX10, w ∈ wsX6_mark := fun w h => List.mem_cons_of_mem _ (List.mem_append_left _ (List.mem_append_left _ (List.mem_append_left _ (List.mem_append_right _ h))))
  have hiX6 : ∀ w ∈ wsX60, w ∈ wsX6_mark := fun w h => List.mem_cons_of_mem _ (List.mem_append_left _ (List.mem_append_left _ (List.mem_append_left _ (List.mem_append_left _ (List.mem_append_right _ h)))))
  replace hl : lv_has ls 1 [(0, .ref (aG 0))] := hl
  refine lv_aload_n hx hb dX6_mark_0 rfl (lv_at hl 0 rfl) ?_
  refine x_get C0 hw 6 hiX6 rfl 0 rfl 3 (by decide) 1 rfl rfl dX6_mark_1 ?_
  refine lv_aload_n hx hb dX6_mark_4 rfl (lv_at hl 0 rfl) ?_
  refine x_get C0 hw 6 hiX6 rfl 0 rfl 0 (by decide) 2 rfl rfl dX6_mark_5 ?_
  refine x_cVv (As := [.ref (a0 0)]) (rest := []) (F := (List.flatten [cG aG (a0 0) (a1 0) (a2 0) (a3 0) (aH 0) (aS 0) v0])) C0 hw (p_fl (ds := [cM E a3 v2, cM E a0 v1]) ((p_pk _ 2 _ rfl).trans (List.Perm.cons _ ((p_pk _ 1 _ rfl).trans (List.Perm.cons _ (List.Perm.refl _)))))) hl.1 24 1 rfl rfl (c_X1_copyFrom l E a3 a0 h) 1 gX6_mark_X1_copyFrom rfl ⟨rfl, rfl⟩ (by decide +kernel) ⟨Nat.le_of_ble_eq_true rfl, Nat.le_of_ble_eq_true rfl⟩ rfl rfl (Nat.le_of_ble_eq_true rfl) dX6_mark_8 ⟨Nat.zero_le _, Nat.zero_le _⟩ (fun u_4 H locs h hw => ?_)
  obtain ⟨v_1, v_2⟩ := u_4
  replace hw : mw E A s.heap H locs (List.flatten [cG aG (a0 0) (a1 0) (a2 0) (a3 0) (aH 0) (aS 0) v0, cM E a0 v_2, cM E a3 v_1]) := hw.perm (p_bk (ds := [cM E a3 v_1, cM E a0 v_2]) ((p_pk _ 2 _ rfl).trans (List.Perm.cons _ ((p_pk _ 1 _ rfl).trans (List.Perm.cons _ (List.Perm.refl _))))))
  refine lv_aload_n hx hb dX6_mark_11 rfl (lv_at hl 0 rfl) ?_
  refine lv_iconst (v := 1) hx hb dX6_mark_12 (by decide) ?_
  refine x_put (ws' := (List.flatten [cG aG (a0 0) (a1 0) (a2 0) (a3 0) (aH 0) (aS 0) ((sc v0 0 6 1)), cM E a0 v_2, cM E a3 v_1])) C0 hw 6 hiX6 rfl tyX6 tyX6_ok nmX6 0 rfl 6 (by decide) 3 rfl rfl rfl rfl (Nat.le_of_ble_eq_true rfl) rfl dX6_mark_13 (fun H locs hw => ?_)
  obtain ⟨v_3, e_v_3⟩ : ∃ z, z = sc v0 0 6 1 := ⟨_, rfl⟩
  rw [← e_v_3] at hw
  replace h := h v_3 e_v_3
  refine lv_aload_n hx hb dX6_mark_16 rfl (lv_at hl 0 rfl) ?_
  refine x_get C0 hw 6 hiX6 rfl 0 rfl 0 (by decide) 2 rfl rfl dX6_mark_17 ?_
  refine x_getN C0 hw 1 hiX1 rfl 1 rfl 5 (by decide) 24 rfl rfl dX6_mark_20 ?_
  exact x_ret C0 ⟨v_3, v_2, v_1⟩ hw h dX6_mark_23

abbrev rmX6_restore : Room := { frames := 4, cells := 0, slots := 0, locals := 90 }
set_option maxRecDepth 100000 in
set_option maxHeartbeats 4000000 in
theorem c_X6_restore (l : Launch) (E : EE) (aG : Nat → Nat) (a0 : Nat → Nat) (a1 : Nat → Nat) (a2 : Nat → Nat) (a3 : Nat → Nat) (aH : Nat → Nat) (h0 : Nat → Nat) (h1 : Nat → Nat) (h2 : Nat → Nat) (h3 : Nat → Nat) (aS : Nat → Nat) {v0 : V} {v1 : V} {v2 : V} {v3 : V} {v4 : V} {v5 : V} {v6 : V} {v7 : V}   {post : Int32 → V → V → V → V → V → V → V → V → Prop} (h : s_X6_restore v0 v1 v2 v3 v4 v5 v6 v7 post) : KI l E yX6_restore wsX6_restore rmX6_restore [.ref (aG 0)] (List.flatten [cG aG (a0 0) (a1 0) (a2 0) (a3 0) (aH 0) (aS 0) v0, cM E a0 v1, cM E a3 v2, cH E aH (h0 0) (h1 0) (h2 0) (h3 0) v3, cM E h0 v4, cM E h1 v5, cM E h2 v6, cM E h3 v7]) (S := V × V × V × V × V × V × V × V) (fun r (u : V × V × V × V × V × V × V × V) => post r u.1 u.2.1 u.2.2.1 u.2.2.2.1 u.2.2.2.2.1 u.2.2.2.2.2.1 u.2.2.2.2.2.2.1 u.2.2.2.2.2.2.2) (fun (u : V × V × V × V × V × V × V × V) => (List.flatten [cG aG (a0 0) (a1 0) (a2 0) (a3 0) (aH 0) (aS 0) u.1, cM E a0 u.2.1, cM E a3 u.2.2.1, cH E aH (h0 0) (h1 0) (h2 0) (h3 0) u.2.2.2.1, cM E h0 u.2.2.2.2.1, cM E h1 u.2.2.2.2.2.1, cM E h2 u.2.2.2.2.2.2.1, cM E h3 u.2.2.2.2.2.2.2])) := by
  unfold s_X6_restore at h
  refine KI.go (cc := cX6_restore) (ret := (some .int)) (maxL := 1) (own := RX6) (by decide) rfl (Nat.le_of_ble_eq_true rfl) rfl (fun p e s m below meth c A ls C0 hw hl => ?_)
  have hx := C0.1
  have hb := C0.2.1
  have hiX1 : ∀ w ∈ wsX10, w ∈ wsX6_restore := fun w h => List.mem_cons_of_mem _ (List.mem_append_left _ (List.mem_append_left _ (List.mem_append_left _ (List.mem_append_left _ (List.mem_append_right _ h)))))
  have hiX6 : ∀ w ∈ wsX60, w ∈ wsX6_restore := fun w h => List.mem_cons_of_mem _ (List.mem_append_left _ (List.mem_append_left _ (List.mem_append_left _ (List.mem_append_left _ (List.mem_append_left _ (List.mem_append_right _ h))))))
  replace hl : lv_has ls 1 [(0, .ref (aG 0))] := hl
  refine lv_aload_n hx hb dX6_restore_0 rfl (lv_at hl 0 rfl) ?_
  refine x_get C0 hw 6 hiX6 rfl 0 rfl 6 (by decide) 1 rfl rfl dX6_restore_1 ?_
  refine lv_if_ne (tgt := 10) hx hb dX6_restore_4 (by decide) (fun c_11 => ?_) (fun c_11 => ?_)
  · replace h := h.1 c_11
    refine lv_aload_n hx hb dX6_restore_10 rfl (lv_at hl 0 rfl) ?_
    refine x_get C0 hw 6 hiX6 rfl 0 rfl 4 (by decide) 3 rfl rfl dX6_restore_11 ?_
    refine lv_aload_n hx hb dX6_restore_14 rfl (lv_at hl 0 rfl) ?_
    refine x_get C0 hw 6 hiX6 rfl 0 rfl 0 (by decide) 4 rfl rfl dX6_restore_15 ?_
    refine x_cVv (As := [.ref (a0 0)]) (rest := []) (F := (List.flatten [cG aG (a0 0) (a1 0) (a2 0) (a3 0) (aH 0) (aS 0) v0, cM E a3 v2])) C0 hw (p_fl (ds := [cH E aH (h0 0) (h1 0) (h2 0) (h3 0) v3, cM E h0 v4, cM E h1 v5, cM E h2 v6, cM E h3 v7, cM E a0 v1]) ((p_pk _ 3 _ rfl).trans (List.Perm.cons _ ((p_pk _ 3 _ rfl).trans (List.Perm.cons _ ((p_pk _ 3 _ rfl).trans (List.Perm.cons _ ((p_pk _ 3 _ rfl).trans (List.Perm.cons _ ((p_pk _ 3 _ rfl).trans (List.Perm.cons _ ((p_pk _ 1 _ rfl).trans (List.Perm.cons _ (List.Perm.refl _)))))))))))))) hl.1 47 0 rfl rfl (c_X0_push l E aH h0 h1 h2 h3 a0 h) 1 gX6_restore_X0_push rfl ⟨rfl, rfl⟩ (by decide +kernel) ⟨Nat.le_of_ble_eq_true rfl, Nat.le_of_ble_eq_true rfl⟩ rfl rfl (Nat.le_of_ble_eq_true rfl) dX6_restore_18 ⟨Nat.zero_le _, Nat.zero_le _⟩ (fun u_10 H locs h hw => ?_)
    obtain ⟨v_1, v_2, v_3, v_4, v_5, v_6⟩ := u_10
    replace hw : mw E A s.heap H locs (List.flatten [cG aG (a0 0) (a1 0) (a2 0) (a3 0) (aH 0) (aS 0) v0, cM E a0 v_6, cM E a3 v2, cH E aH (h0 0) (h1 0) (h2 0) (h3 0) v_1, cM E h0 v_2, cM E h1 v_3, cM E h2 v_4, cM E h3 v_5]) := hw.perm (p_bk (ds := [cH E aH (h0 0) (h1 0) (h2 0) (h3 0) v_1, cM E h0 v_2, cM E h1 v_3, cM E h2 v_4, cM E h3 v_5, cM E a0 v_6]) ((p_pk _ 3 _ rfl).trans (List.Perm.cons _ ((p_pk _ 3 _ rfl).trans (List.Perm.cons _ ((p_pk _ 3 _ rfl).trans (List.Perm.cons _ ((p_pk _ 3 _ rfl).trans (List.Perm.cons _ ((p_pk _ 3 _ rfl).trans (List.Perm.cons _ ((p_pk _ 1 _ rfl).trans (List.Perm.cons _ (List.Perm.refl _))))))))))))))
    refine lv_aload_n hx hb dX6_restore_21 rfl (lv_at hl 0 rfl) ?_
    refine x_get C0 hw 6 hiX6 rfl 0 rfl 0 (by decide) 4 rfl rfl dX6_restore_22 ?_
    refine lv_aload_n hx hb dX6_restore_25 rfl (lv_at hl 0 rfl) ?_
    refine x_get C0 hw 6 hiX6 rfl 0 rfl 3 (by decide) 5 rfl rfl dX6_restore_26 ?_
    refine x_cVv (As := [.ref (a3 0)]) (rest := []) (F := (List.flatten [cG aG (a0 0) (a1 0) (a2 0) (a3 0) (aH 0) (aS 0) v0, cH E aH (h0 0) (h1 0) (h2 0) (h3 0) v_1, cM E h0 v_2, cM E h1 v_3, cM E h2 v_4, cM E h3 v_5])) C0 hw (p_fl (ds := [cM E a0 v_6, cM E a3 v2]) ((p_pk _ 1 _ rfl).trans (List.Perm.cons _ ((p_pk _ 1 _ rfl).trans (List.Perm.cons _ (List.Perm.refl _)))))) hl.1 1 1 rfl rfl (c_X1_copyFrom l E a0 a3 h) 1 gX6_restore_X1_copyFrom rfl ⟨rfl, rfl⟩ (by decide +kernel) ⟨Nat.le_of_ble_eq_true rfl, Nat.le_of_ble_eq_true rfl⟩ rfl rfl (Nat.le_of_ble_eq_true rfl) dX6_restore_29 ⟨Nat.zero_le _, Nat.zero_le _⟩ (fun u_9 H locs h hw => ?_)
    obtain ⟨v_7, v_8⟩ := u_9
    replace hw : mw E A s.heap H locs (List.flatten [cG aG (a0 0) (a1 0) (a2 0) (a3 0) (aH 0) (aS 0) v0, cM E a0 v_7, cM E a3 v_8, cH E aH (h0 0) (h1 0) (h2 0) (h3 0) v_1, cM E h0 v_2, cM E h1 v_3, cM E h2 v_4, cM E h3 v_5]) := hw.perm (p_bk (ds := [cM E a0 v_7, cM E a3 v_8]) ((p_pk _ 1 _ rfl).trans (List.Perm.cons _ ((p_pk _ 1 _ rfl).trans (List.Perm.cons _ (List.Perm.refl _))))))
    refine lv_aload_n hx hb dX6_restore_32 rfl (lv_at hl 0 rfl) ?_
    refine x_get C0 hw 6 hiX6 rfl 0 rfl 0 (by decide) 4 rfl rfl dX6_restore_33 ?_
    refine x_getN C0 hw 1 hiX1 rfl 1 rfl 5 (by decide) 24 rfl rfl dX6_restore_36 ?_
    exact x_ret C0 ⟨v0, v_7, v_8, v_1, v_2, v_3, v_4, v_5⟩ hw h dX6_restore_39
  · replace h := h.2 c_11
    refine x_ldc (v := (-10000002)) C0 2 rfl dX6_restore_7 ?_
    exact x_ret C0 ⟨v0, v1, v2, v3, v4, v5, v6, v7⟩ hw h dX6_restore_9

abbrev rmX6_undo : Room := { frames := 4, cells := 0, slots := 0, locals := 90 }
set_option maxRecDepth 100000 in
set_option maxHeartbeats 4000000 in
theorem c_X6_undo (l : Launch) (E : EE) (aG : Nat → Nat) (a0 : Nat → Nat) (a1 : Nat → Nat) (a2 : Nat → Nat) (a3 : Nat → Nat) (aH : Nat → Nat) (h0 : Nat → Nat) (h1 : Nat → Nat) (h2 : Nat → Nat) (h3 : Nat → Nat) (aS : Nat → Nat) {v0 : V} {v1 : V} {v2 : V} {v3 : V} {v4 : V} {v5 : V} {v6 : V}   {post : Int32 → V → V → V → V → V → V → V → Prop} (h : s_X6_undo v0 v1 v2 v3 v4 v5 v6 post) : KI l E yX6_undo wsX6_undo rmX6_undo [.ref (aG 0)] (List.flatten [cG aG (a0 0) (a1 0) (a2 0) (a3 0) (aH 0) (aS 0) v0, cM E a0 v1, cH E aH (h0 0) (h1 0) (h2 0) (h3 0) v2, cM E h0 v3, cM E h1 v4, cM E h2 v5, cM E h3 v6]) (S := V × V × V × V × V × V × V) (fun r (u : V × V × V × V × V × V × V) => post r u.1 u.2.1 u.2.2.1 u.2.2.2.1 u.2.2.2.2.1 u.2.2.2.2.2.1 u.2.2.2.2.2.2) (fun (u : V × V × V × V × V × V × V) => (List.flatten [cG aG (a0 0) (a1 0) (a2 0) (a3 0) (aH 0) (aS 0) u.1, cM E a0 u.2.1, cH E aH (h0 0) (h1 0) (h2 0) (h3 0) u.2.2.1, cM E h0 u.2.2.2.1, cM E h1 u.2.2.2.2.1, cM E h2 u.2.2.2.2.2.1, cM E h3 u.2.2.2.2.2.2])) := by
  unfold s_X6_undo at h
  refine KI.go (cc := cX6_undo) (ret := (some .int)) (maxL := 1) (own := RX6) (by decide) rfl (Nat.le_of_ble_eq_true rfl) rfl (fun p e s m below meth c A ls C0 hw hl => ?_)
  have hx := C0.1
  have hb := C0.2.1
  have hiX0 : ∀ w ∈ wsX00, w ∈ wsX6_undo := fun w h => List.mem_cons_of_mem _ (List.mem_append_left _ (List.mem_append_left _ (List.mem_append_left _ (List.mem_append_left _ (List.mem_append_right _ h)))))
  have hiX6 : ∀ w ∈ wsX60, w ∈ wsX6_undo := fun w h => List.mem_cons_of_mem _ (List.mem_append_left _ (List.mem_append_left _ (List.mem_append_left _ (List.mem_append_left _ (List.mem_append_left _ (List.mem_append_right _ h))))))
  replace hl : lv_has ls 1 [(0, .ref (aG 0))] := hl
  refine lv_aload_n hx hb dX6_undo_0 rfl (lv_at hl 0 rfl) ?_
  refine x_get C0 hw 6 hiX6 rfl 0 rfl 4 (by decide) 1 rfl rfl dX6_undo_1 ?_
  refine x_getN C0 hw 0 hiX0 rfl 24 rfl 2 (by decide) 26 rfl rfl dX6_undo_4 ?_
  refine lv_if_ne (tgt := 13) hx hb dX6_undo_7 (by decide) (fun c_8 => ?_) (fun c_8 => ?_)
  · replace h := h.1 c_8
    refine lv_aload_n hx hb dX6_undo_13 rfl (lv_at hl 0 rfl) ?_
    refine x_get C0 hw 6 hiX6 rfl 0 rfl 4 (by decide) 1 rfl rfl dX6_undo_14 ?_
    refine lv_aload_n hx hb dX6_undo_17 rfl (lv_at hl 0 rfl) ?_
    refine x_get C0 hw 6 hiX6 rfl 0 rfl 0 (by decide) 3 rfl rfl dX6_undo_18 ?_
    refine x_cVv (As := [.ref (a0 0)]) (rest := []) (F := (List.flatten [cG aG (a0 0) (a1 0) (a2 0) (a3 0) (aH 0) (aS 0) v0])) C0 hw (p_fl (ds := [cH E aH (h0 0) (h1 0) (h2 0) (h3 0) v2, cM E h0 v3, cM E h1 v4, cM E h2 v5, cM E h3 v6, cM E a0 v1]) ((p_pk _ 2 _ rfl).trans (List.Perm.cons _ ((p_pk _ 2 _ rfl).trans (List.Perm.cons _ ((p_pk _ 2 _ rfl).trans (List.Perm.cons _ ((p_pk _ 2 _ rfl).trans (List.Perm.cons _ ((p_pk _ 2 _ rfl).trans (List.Perm.cons _ ((p_pk _ 1 _ rfl).trans (List.Perm.cons _ (List.Perm.refl _)))))))))))))) hl.1 24 0 rfl rfl (c_X0_popInto l E aH h0 h1 h2 h3 a0 h) 1 gX6_undo_X0_popInto rfl ⟨rfl, rfl⟩ (by decide +kernel) ⟨Nat.le_of_ble_eq_true rfl, Nat.le_of_ble_eq_true rfl⟩ rfl rfl (Nat.le_of_ble_eq_true rfl) dX6_undo_21 ⟨Nat.zero_le _, Nat.zero_le _⟩ (fun u_7 H locs h hw => ?_)
    obtain ⟨v_1, v_2, v_3, v_4, v_5, v_6⟩ := u_7
    replace hw : mw E A s.heap H locs (List.flatten [cG aG (a0 0) (a1 0) (a2 0) (a3 0) (aH 0) (aS 0) v0, cM E a0 v_6, cH E aH (h0 0) (h1 0) (h2 0) (h3 0) v_1, cM E h0 v_2, cM E h1 v_3, cM E h2 v_4, cM E h3 v_5]) := hw.perm (p_bk (ds := [cH E aH (h0 0) (h1 0) (h2 0) (h3 0) v_1, cM E h0 v_2, cM E h1 v_3, cM E h2 v_4, cM E h3 v_5, cM E a0 v_6]) ((p_pk _ 2 _ rfl).trans (List.Perm.cons _ ((p_pk _ 2 _ rfl).trans (List.Perm.cons _ ((p_pk _ 2 _ rfl).trans (List.Perm.cons _ ((p_pk _ 2 _ rfl).trans (List.Perm.cons _ ((p_pk _ 2 _ rfl).trans (List.Perm.cons _ ((p_pk _ 1 _ rfl).trans (List.Perm.cons _ (List.Perm.refl _))))))))))))))
    refine lv_aload_n hx hb dX6_undo_24 rfl (lv_at hl 0 rfl) ?_
    refine x_get C0 hw 6 hiX6 rfl 0 rfl 4 (by decide) 1 rfl rfl dX6_undo_25 ?_
    refine x_getN C0 hw 0 hiX0 rfl 24 rfl 2 (by decide) 26 rfl rfl dX6_undo_28 ?_
    exact x_ret C0 ⟨v0, v_6, v_1, v_2, v_3, v_4, v_5⟩ hw h dX6_undo_31
  · replace h := h.2 c_8
    refine x_ldc (v := (-10000002)) C0 2 rfl dX6_undo_10 ?_
    exact x_ret C0 ⟨v0, v1, v2, v3, v4, v5, v6⟩ hw h dX6_undo_12

abbrev rmX6_type : Room := { frames := 1, cells := 0, slots := 0, locals := 21 }
set_option maxRecDepth 100000 in
set_option maxHeartbeats 4000000 in
theorem c_X6_type (l : Launch) (E : EE) (aG : Nat → Nat) (a0 : Nat → Nat) (a1 : Nat → Nat) (a2 : Nat → Nat) (a3 : Nat → Nat) (aH : Nat → Nat) (h0 : Nat → Nat) (h1 : Nat → Nat) (h2 : Nat → Nat) (h3 : Nat → Nat) (aS : Nat → Nat) {v0 : V} {v1 : V}  {p1 : Int32} {post : Int32 → V → V → Prop} (h : s_X6_type v0 v1 p1 post) : KI l E yX6_type wsX6_type rmX6_type [.ref (aG 0), .int p1] (List.flatten [cG aG (a0 0) (a1 0) (a2 0) (a3 0) (aH 0) (aS 0) v0, cS E aS v1]) (S := V × V) (fun r (u : V × V) => post r u.1 u.2) (fun (u : V × V) => (List.flatten [cG aG (a0 0) (a1 0) (a2 0) (a3 0) (aH 0) (aS 0) u.1, cS E aS u.2])) := by
  unfold s_X6_type at h
  refine KI.go (cc := cX6_type) (ret := (some .int)) (maxL := 2) (own := RX6) (by decide) rfl (Nat.le_of_ble_eq_true rfl) rfl (fun p e s m below meth c A ls C0 hw hl => ?_)
  have hx := C0.1
  have hb := C0.2.1
  have hiX6 : ∀ w ∈ wsX60, w ∈ wsX6_type := fun w h => List.mem_cons_of_mem _ (List.mem_append_left _ (List.mem_append_right _ h))
  replace hl : lv_has ls 2 [(0, .ref (aG 0)), (1, .int p1)] := hl
  refine lv_iload_n hx hb dX6_type_0 rfl (lv_at hl 1 rfl) ?_
  refine lv_bipush (v := 32) hx hb dX6_type_1 (by decide) ?_
  refine lv_icmp_lt (tgt := 12) hx hb dX6_type_3 (by decide) (fun c_4 => ?_) (fun c_4 => ?_)
  · replace h := h.1 c_4
    refine x_ldc (v := (-10000001)) C0 1 rfl dX6_type_12 ?_
    exact x_ret C0 ⟨v0, v1⟩ hw h dX6_type_14
  · replace h := h.2 c_4
    refine lv_iload_n hx hb dX6_type_6 rfl (lv_at hl 1 rfl) ?_
    refine lv_bipush (v := 126) hx hb dX6_type_7 (by decide) ?_
    refine lv_icmp_le (tgt := 15) hx hb dX6_type_9 (by decide) (fun c_3 => ?_) (fun c_3 => ?_)
    · replace h := h.1 c_3
      refine lv_aload_n hx hb dX6_type_15 rfl (lv_at hl 0 rfl) ?_
      refine x_get C0 hw 6 hiX6 rfl 0 rfl 5 (by decide) 2 rfl rfl dX6_type_16 ?_
      refine lv_iload_n hx hb dX6_type_19 rfl (lv_at hl 1 rfl) ?_
      refine lv_i2c (v := ((p1.toUInt32 % 65536).toInt32)) hx hb dX6_type_20 rfl ?_
      refine x_cV (As := [.int ((p1.toUInt32 % 65536).toInt32)]) (rest := []) (F := (List.flatten [cG aG (a0 0) (a1 0) (a2 0) (a3 0) (aH 0) (aS 0) v0])) C0 hw (p_fl1 ((p_pk _ 1 _ rfl).trans (List.Perm.cons _ (List.Perm.refl _)))) hl.1 1 4 rfl rfl (c_X4_append l E aS h) 1 gX6_type_X4_append rfl ⟨rfl, rfl⟩ (by decide +kernel) ⟨Nat.le_of_ble_eq_true rfl, Nat.le_of_ble_eq_true rfl⟩ rfl rfl (Nat.le_of_ble_eq_true rfl) dX6_type_21 ⟨Nat.zero_le _, Nat.zero_le _⟩ (fun r_1 v_2 H locs h hw => ?_)
      replace hw : mw E A s.heap H locs (List.flatten [cG aG (a0 0) (a1 0) (a2 0) (a3 0) (aH 0) (aS 0) v0, cS E aS v_2]) := hw.perm (p_bk1 ((p_pk _ 1 _ rfl).trans (List.Perm.cons _ (List.Perm.refl _))))
      exact x_ret C0 ⟨v0, v_2⟩ hw h dX6_type_24
    · replace h := h.2 c_3
      refine x_ldc (v := (-10000001)) C0 1 rfl dX6_type_12 ?_
      exact x_ret C0 ⟨v0, v1⟩ hw h dX6_type_14

abbrev rmX6_clearText : Room := { frames := 0, cells := 0, slots := 0, locals := 0 }
set_option maxRecDepth 100000 in
set_option maxHeartbeats 4000000 in
theorem c_X6_clearText (l : Launch) (E : EE) (aG : Nat → Nat) (a0 : Nat → Nat) (a1 : Nat → Nat) (a2 : Nat → Nat) (a3 : Nat → Nat) (aH : Nat → Nat) (h0 : Nat → Nat) (h1 : Nat → Nat) (h2 : Nat → Nat) (h3 : Nat → Nat) (aS : Nat → Nat) {v0 : V} {v1 : V}   {post : Int32 → V → V → Prop} (h : s_X6_clearText v0 v1 post) : KI l E yX6_clearText wsX6_clearText rmX6_clearText [.ref (aG 0)] (List.flatten [cG aG (a0 0) (a1 0) (a2 0) (a3 0) (aH 0) (aS 0) v0, cS E aS v1]) (S := V × V) (fun r (u : V × V) => post r u.1 u.2) (fun (u : V × V) => (List.flatten [cG aG (a0 0) (a1 0) (a2 0) (a3 0) (aH 0) (aS 0) u.1, cS E aS u.2])) := by
  unfold s_X6_clearText at h
  refine KI.go (cc := cX6_clearText) (ret := (some .int)) (maxL := 2) (own := RX6) (by decide) rfl (Nat.le_of_ble_eq_true rfl) rfl (fun p e s m below meth c A ls C0 hw hl => ?_)
  have hx := C0.1
  have hb := C0.2.1
  have hiX4 : ∀ w ∈ wsX40, w ∈ wsX6_clearText := fun w h => List.mem_cons_of_mem _ (List.mem_append_right _ h)
  have hiX6 : ∀ w ∈ wsX60, w ∈ wsX6_clearText := fun w h => List.mem_cons_of_mem _ (List.mem_append_left _ (List.mem_append_right _ h))
  replace hl : lv_has ls 2 [(0, .ref (aG 0))] := hl
  refine lv_aload_n hx hb dX6_clearText_0 rfl (lv_at hl 0 rfl) ?_
  refine x_get C0 hw 6 hiX6 rfl 0 rfl 5 (by decide) 1 rfl rfl dX6_clearText_1 ?_
  refine x_getN C0 hw 4 hiX4 rfl 1 rfl 1 (by decide) 28 rfl rfl dX6_clearText_4 ?_
  refine lv_istore_n (lv' := [(1, .int (v1 0 1)), (0, .ref (aG 0))]) hx hb dX6_clearText_7 rfl hl (by decide) rfl (fun ls hl => ?_)
  refine lv_aload_n hx hb dX6_clearText_8 rfl (lv_at hl 1 rfl) ?_
  refine x_get C0 hw 6 hiX6 rfl 0 rfl 5 (by decide) 1 rfl rfl dX6_clearText_9 ?_
  refine lv_iconst (v := 0) hx hb dX6_clearText_12 (by decide) ?_
  refine x_putN (ws' := (List.flatten [cG aG (a0 0) (a1 0) (a2 0) (a3 0) (aH 0) (aS 0) v0, cS E aS ((sc v1 0 1 0))])) C0 hw 4 hiX4 rfl tyX4 tyX4_ok nmX4 1 rfl 1 (by decide) 28 rfl rfl rfl rfl (Nat.le_of_ble_eq_true rfl) rfl dX6_clearText_13 (fun H locs hw => ?_)
  obtain ⟨v_1, e_v_1⟩ : ∃ z, z = sc v1 0 1 0 := ⟨_, rfl⟩
  rw [← e_v_1] at hw
  replace h := h v_1 e_v_1
  refine lv_iload_n hx hb dX6_clearText_16 rfl (lv_at hl 0 rfl) ?_
  exact x_ret C0 ⟨v0, v_1⟩ hw h dX6_clearText_17

abbrev rmX6_fault : Room := { frames := 7, cells := 0, slots := 0, locals := 155 }
set_option maxRecDepth 100000 in
set_option maxHeartbeats 4000000 in
theorem c_X6_fault (l : Launch) (E : EE) (aG : Nat → Nat) (a0 : Nat → Nat) (a1 : Nat → Nat) (a2 : Nat → Nat) (a3 : Nat → Nat) (aH : Nat → Nat) (h0 : Nat → Nat) (h1 : Nat → Nat) (h2 : Nat → Nat) (h3 : Nat → Nat) (aS : Nat → Nat) {v0 : V} {v1 : V} {v2 : V} {v3 : V}  {p1 : Int32} {post : Int32 → V → V → V → V → Prop} (h : s_X6_fault v0 v1 v2 v3 p1 post) : KI l E yX6_fault wsX6_fault rmX6_fault [.ref (aG 0), .int p1] (List.flatten [cG aG (a0 0) (a1 0) (a2 0) (a3 0) (aH 0) (aS 0) v0, cM E a0 v1, cM E a2 v2, cS E aS v3]) (S := V × V × V × V) (fun r (u : V × V × V × V) => post r u.1 u.2.1 u.2.2.1 u.2.2.2) (fun (u : V × V × V × V) => (List.flatten [cG aG (a0 0) (a1 0) (a2 0) (a3 0) (aH 0) (aS 0) u.1, cM E a0 u.2.1, cM E a2 u.2.2.1, cS E aS u.2.2.2])) := by
  unfold s_X6_fault at h
  refine KI.go (cc := cX6_fault) (ret := (some .int)) (maxL := 2) (own := RX6) (by decide) rfl (Nat.le_of_ble_eq_true rfl) rfl (fun p e s m below meth c A ls C0 hw hl => ?_)
  have hx := C0.1
  have hb := C0.2.1
  have hiX6 : ∀ w ∈ wsX60, w ∈ wsX6_fault := fun w h => List.mem_cons_of_mem _ (List.mem_append_left _ (List.mem_append_left _ (List.mem_append_left _ (List.mem_append_left _ (List.mem_append_left _ (List.mem_append_right _ h))))))
  replace hl : lv_has ls 2 [(0, .ref (aG 0)), (1, .int p1)] := hl
  refine lv_iload_n hx hb dX6_fault_0 rfl (lv_at hl 1 rfl) ?_
  refine lv_if_lt (tgt := 9) hx hb dX6_fault_1 (by decide) (fun c_11 => ?_) (fun c_11 => ?_)
  · replace h := h.1 c_11
    refine x_ldc (v := (-10000001)) C0 1 rfl dX6_fault_9 ?_
    exact x_ret C0 ⟨v0, v1, v2, v3⟩ hw h dX6_fault_11
  · replace h := h.2 c_11
    refine lv_iload_n hx hb dX6_fault_4 rfl (lv_at hl 1 rfl) ?_
    refine lv_iconst (v := 2) hx hb dX6_fault_5 (by decide) ?_
    refine lv_icmp_le (tgt := 12) hx hb dX6_fault_6 (by decide) (fun c_10 => ?_) (fun c_10 => ?_)
    · replace h := h.1 c_10
      refine lv_aload_n hx hb dX6_fault_12 rfl (lv_at hl 0 rfl) ?_
      refine x_get C0 hw 6 hiX6 rfl 0 rfl 2 (by decide) 2 rfl rfl dX6_fault_13 ?_
      refine lv_aload_n hx hb dX6_fault_16 rfl (lv_at hl 0 rfl) ?_
      refine x_get C0 hw 6 hiX6 rfl 0 rfl 0 (by decide) 3 rfl rfl dX6_fault_17 ?_
      refine x_cVv (As := [.ref (a0 0)]) (rest := []) (F := (List.flatten [cG aG (a0 0) (a1 0) (a2 0) (a3 0) (aH 0) (aS 0) v0, cS E aS v3])) C0 hw (p_fl (ds := [cM E a2 v2, cM E a0 v1]) ((p_pk _ 2 _ rfl).trans (List.Perm.cons _ ((p_pk _ 1 _ rfl).trans (List.Perm.cons _ (List.Perm.refl _)))))) hl.1 24 1 rfl rfl (c_X1_copyFrom l E a2 a0 h) 1 gX6_fault_X1_copyFrom rfl ⟨rfl, rfl⟩ (by decide +kernel) ⟨Nat.le_of_ble_eq_true rfl, Nat.le_of_ble_eq_true rfl⟩ rfl rfl (Nat.le_of_ble_eq_true rfl) dX6_fault_20 ⟨Nat.zero_le _, Nat.zero_le _⟩ (fun u_9 H locs h hw => ?_)
      obtain ⟨v_1, v_2⟩ := u_9
      replace hw : mw E A s.heap H locs (List.flatten [cG aG (a0 0) (a1 0) (a2 0) (a3 0) (aH 0) (aS 0) v0, cM E a0 v_2, cM E a2 v_1, cS E aS v3]) := hw.perm (p_bk (ds := [cM E a2 v_1, cM E a0 v_2]) ((p_pk _ 2 _ rfl).trans (List.Perm.cons _ ((p_pk _ 1 _ rfl).trans (List.Perm.cons _ (List.Perm.refl _))))))
      refine lv_aload_n hx hb dX6_fault_23 rfl (lv_at hl 0 rfl) ?_
      refine x_get C0 hw 6 hiX6 rfl 0 rfl 5 (by decide) 4 rfl rfl dX6_fault_24 ?_
      refine lv_aload_n hx hb dX6_fault_27 rfl (lv_at hl 0 rfl) ?_
      refine x_get C0 hw 6 hiX6 rfl 0 rfl 2 (by decide) 2 rfl rfl dX6_fault_28 ?_
      refine x_cV (As := [.ref (a2 0)]) (rest := []) (F := (List.flatten [cG aG (a0 0) (a1 0) (a2 0) (a3 0) (aH 0) (aS 0) v0, cM E a0 v_2])) C0 hw (p_fl (ds := [cS E aS v3, cM E a2 v_1]) ((p_pk _ 3 _ rfl).trans (List.Perm.cons _ ((p_pk _ 2 _ rfl).trans (List.Perm.cons _ (List.Perm.refl _)))))) hl.1 47 4 rfl rfl (c_X4_runOn l E aS a2 h) 1 gX6_fault_X4_runOn rfl ⟨rfl, rfl⟩ (by decide +kernel) ⟨Nat.le_of_ble_eq_true rfl, Nat.le_of_ble_eq_true rfl⟩ rfl rfl (Nat.le_of_ble_eq_true rfl) dX6_fault_31 ⟨Nat.zero_le _, Nat.zero_le _⟩ (fun r_3 u_8 H locs h hw => ?_)
      obtain ⟨v_4, v_5⟩ := u_8
      replace hw : mw E A s.heap H locs (List.flatten [cG aG (a0 0) (a1 0) (a2 0) (a3 0) (aH 0) (aS 0) v0, cM E a0 v_2, cM E a2 v_5, cS E aS v_4]) := hw.perm (p_bk (ds := [cS E aS v_4, cM E a2 v_5]) ((p_pk _ 3 _ rfl).trans (List.Perm.cons _ ((p_pk _ 2 _ rfl).trans (List.Perm.cons _ (List.Perm.refl _))))))
      refine lv_pop hx hb dX6_fault_34 rfl ?_
      refine lv_aload_n hx hb dX6_fault_35 rfl (lv_at hl 0 rfl) ?_
      refine x_get C0 hw 6 hiX6 rfl 0 rfl 5 (by decide) 4 rfl rfl dX6_fault_36 ?_
      refine lv_iload_n hx hb dX6_fault_39 rfl (lv_at hl 1 rfl) ?_
      refine x_cV (As := [.int p1]) (rest := []) (F := (List.flatten [cG aG (a0 0) (a1 0) (a2 0) (a3 0) (aH 0) (aS 0) v0, cM E a0 v_2, cM E a2 v_5])) C0 hw (p_fl1 ((p_pk _ 3 _ rfl).trans (List.Perm.cons _ (List.Perm.refl _)))) hl.1 47 4 rfl rfl (c_X4_tellFault l E aS h) 1 gX6_fault_X4_tellFault rfl ⟨rfl, rfl⟩ (by decide +kernel) ⟨Nat.le_of_ble_eq_true rfl, Nat.le_of_ble_eq_true rfl⟩ rfl rfl (Nat.le_of_ble_eq_true rfl) dX6_fault_40 ⟨Nat.zero_le _, Nat.zero_le _⟩ (fun r_6 v_7 H locs h hw => ?_)
      replace hw : mw E A s.heap H locs (List.flatten [cG aG (a0 0) (a1 0) (a2 0) (a3 0) (aH 0) (aS 0) v0, cM E a0 v_2, cM E a2 v_5, cS E aS v_7]) := hw.perm (p_bk1 ((p_pk _ 3 _ rfl).trans (List.Perm.cons _ (List.Perm.refl _))))
      exact x_ret C0 ⟨v0, v_2, v_5, v_7⟩ hw h dX6_fault_43
    · replace h := h.2 c_10
      refine x_ldc (v := (-10000001)) C0 1 rfl dX6_fault_9 ?_
      exact x_ret C0 ⟨v0, v1, v2, v3⟩ hw h dX6_fault_11

abbrev rmX6_play : Room := { frames := 7, cells := 0, slots := 0, locals := 155 }
set_option maxRecDepth 100000 in
set_option maxHeartbeats 4000000 in
theorem c_X6_play (l : Launch) (E : EE) (aG : Nat → Nat) (a0 : Nat → Nat) (a1 : Nat → Nat) (a2 : Nat → Nat) (a3 : Nat → Nat) (aH : Nat → Nat) (h0 : Nat → Nat) (h1 : Nat → Nat) (h2 : Nat → Nat) (h3 : Nat → Nat) (aS : Nat → Nat) {v0 : V} {v1 : V} {v2 : V} {v3 : V} {v4 : V} {v5 : V} {v6 : V} {v7 : V} {v8 : V}   {post : Int32 → V → V → V → V → V → V → V → V → V → Prop} (h : s_X6_play v0 v1 v2 v3 v4 v5 v6 v7 v8 post) : KI l E yX6_play wsX6_play rmX6_play [.ref (aG 0)] (List.flatten [cG aG (a0 0) (a1 0) (a2 0) (a3 0) (aH 0) (aS 0) v0, cM E a0 v1, cM E a2 v2, cH E aH (h0 0) (h1 0) (h2 0) (h3 0) v3, cM E h0 v4, cM E h1 v5, cM E h2 v6, cM E h3 v7, cS E aS v8]) (S := V × V × V × V × V × V × V × V × V) (fun r (u : V × V × V × V × V × V × V × V × V) => post r u.1 u.2.1 u.2.2.1 u.2.2.2.1 u.2.2.2.2.1 u.2.2.2.2.2.1 u.2.2.2.2.2.2.1 u.2.2.2.2.2.2.2.1 u.2.2.2.2.2.2.2.2) (fun (u : V × V × V × V × V × V × V × V × V) => (List.flatten [cG aG (a0 0) (a1 0) (a2 0) (a3 0) (aH 0) (aS 0) u.1, cM E a0 u.2.1, cM E a2 u.2.2.1, cH E aH (h0 0) (h1 0) (h2 0) (h3 0) u.2.2.2.1, cM E h0 u.2.2.2.2.1, cM E h1 u.2.2.2.2.2.1, cM E h2 u.2.2.2.2.2.2.1, cM E h3 u.2.2.2.2.2.2.2.1, cS E aS u.2.2.2.2.2.2.2.2])) := by
  unfold s_X6_play at h
  refine KI.go (cc := cX6_play) (ret := (some .int)) (maxL := 2) (own := RX6) (by decide) rfl (Nat.le_of_ble_eq_true rfl) rfl (fun p e s m below meth c A ls C0 hw hl => ?_)
  have hx := C0.1
  have hb := C0.2.1
  have hiX6 : ∀ w ∈ wsX60, w ∈ wsX6_play := fun w h => List.mem_cons_of_mem _ (List.mem_append_left _ (List.mem_append_left _ (List.mem_append_left _ (List.mem_append_left _ (List.mem_append_left _ (List.mem_append_left _ (List.mem_append_right _ h)))))))
  replace hl : lv_has ls 2 [(0, .ref (aG 0))] := hl
  refine lv_aload_n hx hb dX6_play_0 rfl (lv_at hl 0 rfl) ?_
  refine x_get C0 hw 6 hiX6 rfl 0 rfl 2 (by decide) 1 rfl rfl dX6_play_1 ?_
  refine lv_aload_n hx hb dX6_play_4 rfl (lv_at hl 0 rfl) ?_
  refine x_get C0 hw 6 hiX6 rfl 0 rfl 0 (by decide) 2 rfl rfl dX6_play_5 ?_
  refine x_cVv (As := [.ref (a0 0)]) (rest := []) (F := (List.flatten [cG aG (a0 0) (a1 0) (a2 0) (a3 0) (aH 0) (aS 0) v0, cH E aH (h0 0) (h1 0) (h2 0) (h3 0) v3, cM E h0 v4, cM E h1 v5, cM E h2 v6, cM E h3 v7, cS E aS v8])) C0 hw (p_fl (ds := [cM E a2 v2, cM E a0 v1]) ((p_pk _ 2 _ rfl).trans (List.Perm.cons _ ((p_pk _ 1 _ rfl).trans (List.Perm.cons _ (List.Perm.refl _)))))) hl.1 24 1 rfl rfl (c_X1_copyFrom l E a2 a0 h) 1 gX6_play_X1_copyFrom rfl ⟨rfl, rfl⟩ (by decide +kernel) ⟨Nat.le_of_ble_eq_true rfl, Nat.le_of_ble_eq_true rfl⟩ rfl rfl (Nat.le_of_ble_eq_true rfl) dX6_play_8 ⟨Nat.zero_le _, Nat.zero_le _⟩ (fun u_20 H locs h hw => ?_)
  obtain ⟨v_1, v_2⟩ := u_20
  replace hw : mw E A s.heap H locs (List.flatten [cG aG (a0 0) (a1 0) (a2 0) (a3 0) (aH 0) (aS 0) v0, cM E a0 v_2, cM E a2 v_1, cH E aH (h0 0) (h1 0) (h2 0) (h3 0) v3, cM E h0 v4, cM E h1 v5, cM E h2 v6, cM E h3 v7, cS E aS v8]) := hw.perm (p_bk (ds := [cM E a2 v_1, cM E a0 v_2]) ((p_pk _ 2 _ rfl).trans (List.Perm.cons _ ((p_pk _ 1 _ rfl).trans (List.Perm.cons _ (List.Perm.refl _))))))
  refine lv_aload_n hx hb dX6_play_11 rfl (lv_at hl 0 rfl) ?_
  refine x_get C0 hw 6 hiX6 rfl 0 rfl 5 (by decide) 3 rfl rfl dX6_play_12 ?_
  refine lv_aload_n hx hb dX6_play_15 rfl (lv_at hl 0 rfl) ?_
  refine x_get C0 hw 6 hiX6 rfl 0 rfl 2 (by decide) 1 rfl rfl dX6_play_16 ?_
  refine x_cV (As := [.ref (a2 0)]) (rest := []) (F := (List.flatten [cG aG (a0 0) (a1 0) (a2 0) (a3 0) (aH 0) (aS 0) v0, cM E a0 v_2, cH E aH (h0 0) (h1 0) (h2 0) (h3 0) v3, cM E h0 v4, cM E h1 v5, cM E h2 v6, cM E h3 v7])) C0 hw (p_fl (ds := [cS E aS v8, cM E a2 v_1]) ((p_pk _ 8 _ rfl).trans (List.Perm.cons _ ((p_pk _ 2 _ rfl).trans (List.Perm.cons _ (List.Perm.refl _)))))) hl.1 141 4 rfl rfl (c_X4_runOn l E aS a2 h) 1 gX6_play_X4_runOn rfl ⟨rfl, rfl⟩ (by decide +kernel) ⟨Nat.le_of_ble_eq_true rfl, Nat.le_of_ble_eq_true rfl⟩ rfl rfl (Nat.le_of_ble_eq_true rfl) dX6_play_19 ⟨Nat.zero_le _, Nat.zero_le _⟩ (fun r_3 u_19 H locs h hw => ?_)
  obtain ⟨v_4, v_5⟩ := u_19
  replace hw : mw E A s.heap H locs (List.flatten [cG aG (a0 0) (a1 0) (a2 0) (a3 0) (aH 0) (aS 0) v0, cM E a0 v_2, cM E a2 v_5, cH E aH (h0 0) (h1 0) (h2 0) (h3 0) v3, cM E h0 v4, cM E h1 v5, cM E h2 v6, cM E h3 v7, cS E aS v_4]) := hw.perm (p_bk (ds := [cS E aS v_4, cM E a2 v_5]) ((p_pk _ 8 _ rfl).trans (List.Perm.cons _ ((p_pk _ 2 _ rfl).trans (List.Perm.cons _ (List.Perm.refl _))))))
  refine lv_istore_n (lv' := [(1, .int r_3), (0, .ref (aG 0))]) hx hb dX6_play_22 rfl hl (by decide) rfl (fun ls hl => ?_)
  refine lv_aload_n hx hb dX6_play_23 rfl (lv_at hl 1 rfl) ?_
  refine x_get C0 hw 6 hiX6 rfl 0 rfl 5 (by decide) 3 rfl rfl dX6_play_24 ?_
  refine x_cV (As := []) (rest := []) (F := (List.flatten [cG aG (a0 0) (a1 0) (a2 0) (a3 0) (aH 0) (aS 0) v0, cM E a0 v_2, cM E a2 v_5, cH E aH (h0 0) (h1 0) (h2 0) (h3 0) v3, cM E h0 v4, cM E h1 v5, cM E h2 v6, cM E h3 v7])) C0 hw (p_fl1 ((p_pk _ 8 _ rfl).trans (List.Perm.cons _ (List.Perm.refl _)))) hl.1 141 4 rfl rfl (c_X4_hasFault l E aS h) 0 gX6_play_X4_hasFault rfl ⟨rfl, rfl⟩ (by decide +kernel) ⟨Nat.le_of_ble_eq_true rfl, Nat.le_of_ble_eq_true rfl⟩ rfl rfl (Nat.le_of_ble_eq_true rfl) dX6_play_27 ⟨Nat.zero_le _, Nat.zero_le _⟩ (fun r_6 v_7 H locs h hw => ?_)
  replace hw : mw E A s.heap H locs (List.flatten [cG aG (a0 0) (a1 0) (a2 0) (a3 0) (aH 0) (aS 0) v0, cM E a0 v_2, cM E a2 v_5, cH E aH (h0 0) (h1 0) (h2 0) (h3 0) v3, cM E h0 v4, cM E h1 v5, cM E h2 v6, cM E h3 v7, cS E aS v_7]) := hw.perm (p_bk1 ((p_pk _ 8 _ rfl).trans (List.Perm.cons _ (List.Perm.refl _))))
  refine lv_if_eq (tgt := 36) hx hb dX6_play_30 (by decide) (fun c_18 => ?_) (fun c_18 => ?_)
  · replace h := h.1 c_18
    refine lv_aload_n hx hb dX6_play_36 rfl (lv_at hl 1 rfl) ?_
    refine x_get C0 hw 6 hiX6 rfl 0 rfl 4 (by decide) 5 rfl rfl dX6_play_37 ?_
    refine lv_aload_n hx hb dX6_play_40 rfl (lv_at hl 1 rfl) ?_
    refine x_get C0 hw 6 hiX6 rfl 0 rfl 0 (by decide) 2 rfl rfl dX6_play_41 ?_
    refine x_cVv (As := [.ref (a0 0)]) (rest := []) (F := (List.flatten [cG aG (a0 0) (a1 0) (a2 0) (a3 0) (aH 0) (aS 0) v0, cM E a2 v_5, cS E aS v_7])) C0 hw (p_fl (ds := [cH E aH (h0 0) (h1 0) (h2 0) (h3 0) v3, cM E h0 v4, cM E h1 v5, cM E h2 v6, cM E h3 v7, cM E a0 v_2]) ((p_pk _ 3 _ rfl).trans (List.Perm.cons _ ((p_pk _ 3 _ rfl).trans (List.Perm.cons _ ((p_pk _ 3 _ rfl).trans (List.Perm.cons _ ((p_pk _ 3 _ rfl).trans (List.Perm.cons _ ((p_pk _ 3 _ rfl).trans (List.Perm.cons _ ((p_pk _ 1 _ rfl).trans (List.Perm.cons _ (List.Perm.refl _)))))))))))))) hl.1 47 0 rfl rfl (c_X0_push l E aH h0 h1 h2 h3 a0 h) 1 gX6_play_X0_push rfl ⟨rfl, rfl⟩ (by decide +kernel) ⟨Nat.le_of_ble_eq_true rfl, Nat.le_of_ble_eq_true rfl⟩ rfl rfl (Nat.le_of_ble_eq_true rfl) dX6_play_44 ⟨Nat.zero_le _, Nat.zero_le _⟩ (fun u_17 H locs h hw => ?_)
    obtain ⟨v_8, v_9, v_10, v_11, v_12, v_13⟩ := u_17
    replace hw : mw E A s.heap H locs (List.flatten [cG aG (a0 0) (a1 0) (a2 0) (a3 0) (aH 0) (aS 0) v0, cM E a0 v_13, cM E a2 v_5, cH E aH (h0 0) (h1 0) (h2 0) (h3 0) v_8, cM E h0 v_9, cM E h1 v_10, cM E h2 v_11, cM E h3 v_12, cS E aS v_7]) := hw.perm (p_bk (ds := [cH E aH (h0 0) (h1 0) (h2 0) (h3 0) v_8, cM E h0 v_9, cM E h1 v_10, cM E h2 v_11, cM E h3 v_12, cM E a0 v_13]) ((p_pk _ 3 _ rfl).trans (List.Perm.cons _ ((p_pk _ 3 _ rfl).trans (List.Perm.cons _ ((p_pk _ 3 _ rfl).trans (List.Perm.cons _ ((p_pk _ 3 _ rfl).trans (List.Perm.cons _ ((p_pk _ 3 _ rfl).trans (List.Perm.cons _ ((p_pk _ 1 _ rfl).trans (List.Perm.cons _ (List.Perm.refl _))))))))))))))
    refine lv_aload_n hx hb dX6_play_47 rfl (lv_at hl 1 rfl) ?_
    refine x_get C0 hw 6 hiX6 rfl 0 rfl 0 (by decide) 2 rfl rfl dX6_play_48 ?_
    refine lv_aload_n hx hb dX6_play_51 rfl (lv_at hl 1 rfl) ?_
    refine x_get C0 hw 6 hiX6 rfl 0 rfl 2 (by decide) 1 rfl rfl dX6_play_52 ?_
    refine x_cVv (As := [.ref (a2 0)]) (rest := []) (F := (List.flatten [cG aG (a0 0) (a1 0) (a2 0) (a3 0) (aH 0) (aS 0) v0, cH E aH (h0 0) (h1 0) (h2 0) (h3 0) v_8, cM E h0 v_9, cM E h1 v_10, cM E h2 v_11, cM E h3 v_12, cS E aS v_7])) C0 hw (p_fl (ds := [cM E a0 v_13, cM E a2 v_5]) ((p_pk _ 1 _ rfl).trans (List.Perm.cons _ ((p_pk _ 1 _ rfl).trans (List.Perm.cons _ (List.Perm.refl _)))))) hl.1 1 1 rfl rfl (c_X1_copyFrom l E a0 a2 h) 1 gX6_play_X1_copyFrom rfl ⟨rfl, rfl⟩ (by decide +kernel) ⟨Nat.le_of_ble_eq_true rfl, Nat.le_of_ble_eq_true rfl⟩ rfl rfl (Nat.le_of_ble_eq_true rfl) dX6_play_55 ⟨Nat.zero_le _, Nat.zero_le _⟩ (fun u_16 H locs h hw => ?_)
    obtain ⟨v_14, v_15⟩ := u_16
    replace hw : mw E A s.heap H locs (List.flatten [cG aG (a0 0) (a1 0) (a2 0) (a3 0) (aH 0) (aS 0) v0, cM E a0 v_14, cM E a2 v_15, cH E aH (h0 0) (h1 0) (h2 0) (h3 0) v_8, cM E h0 v_9, cM E h1 v_10, cM E h2 v_11, cM E h3 v_12, cS E aS v_7]) := hw.perm (p_bk (ds := [cM E a0 v_14, cM E a2 v_15]) ((p_pk _ 1 _ rfl).trans (List.Perm.cons _ ((p_pk _ 1 _ rfl).trans (List.Perm.cons _ (List.Perm.refl _))))))
    refine lv_iload_n hx hb dX6_play_58 rfl (lv_at hl 0 rfl) ?_
    exact x_ret C0 ⟨v0, v_14, v_15, v_8, v_9, v_10, v_11, v_12, v_7⟩ hw h dX6_play_59
  · replace h := h.2 c_18
    refine x_ldc (v := (-10000002)) C0 4 rfl dX6_play_33 ?_
    exact x_ret C0 ⟨v0, v_2, v_5, v3, v4, v5, v6, v7, v_7⟩ hw h dX6_play_35

abbrev rmX7_in : Room := { frames := 0, cells := 0, slots := 0, locals := 0 }
set_option maxRecDepth 100000 in
set_option maxHeartbeats 4000000 in
theorem c_X7_in (l : Launch) (E : EE)    {p0 : Int32} {p1 : Int32} {p2 : Int32} {post : Int32 → Prop} (h : s_X7_in p0 p1 p2 post) : KI l E yX7_in wsX7_in rmX7_in [.int p0, .int p1, .int p2] ([] : va_W) (S := Unit) (fun r (_ : Unit) => post r) (fun (_ : Unit) => ([] : va_W)) := by
  unfold s_X7_in at h
  refine KI.go (cc := cX7_in) (ret := (some .boolean)) (maxL := 3) (own := RX7) (by decide) rfl (Nat.le_of_ble_eq_true rfl) rfl (fun p e s m below meth c A ls C0 hw hl => ?_)
  have hx := C0.1
  have hb := C0.2.1
  replace hl : lv_has ls 3 [(0, .int p0), (1, .int p1), (2, .int p2)] := hl
  refine lv_iload_n hx hb dX7_in_0 rfl (lv_at hl 0 rfl) ?_
  refine lv_iload_n hx hb dX7_in_1 rfl (lv_at hl 1 rfl) ?_
  refine lv_icmp_lt (tgt := 14) hx hb dX7_in_2 (by decide) (fun c_2 => ?_) (fun c_2 => ?_)
  · replace h := h.1 c_2
    refine lv_iconst (v := 0) hx hb dX7_in_14 (by decide) ?_
    exact x_retz C0 rfl () hw h dX7_in_15
  · replace h := h.2 c_2
    refine lv_iload_n hx hb dX7_in_5 rfl (lv_at hl 0 rfl) ?_
    refine lv_iload_n hx hb dX7_in_6 rfl (lv_at hl 2 rfl) ?_
    refine lv_icmp_gt (tgt := 14) hx hb dX7_in_7 (by decide) (fun c_1 => ?_) (fun c_1 => ?_)
    · replace h := h.1 c_1
      refine lv_iconst (v := 0) hx hb dX7_in_14 (by decide) ?_
      exact x_retz C0 rfl () hw h dX7_in_15
    · replace h := h.2 c_1
      refine lv_iconst (v := 1) hx hb dX7_in_10 (by decide) ?_
      refine lv_goto (tgt := 15) hx hb dX7_in_11 (by decide) ?_
      exact x_retz C0 rfl () hw h dX7_in_15

abbrev rmX7_begins : Room := { frames := 0, cells := 0, slots := 0, locals := 0 }
set_option maxRecDepth 100000 in
set_option maxHeartbeats 4000000 in
theorem w_X7_begins_2 {p : Program} {l : Launch} {e : Env} {s : State} {m : MethodId} {below : List Frame} {meth : Method} {c : Code} {E : EE} {A : Nat → Prop} {aR : Nat → Nat} {args : Array Value} (C0 : Cx E p s m args meth c A cX7_begins 2 RX7 wsX7_begins none) {post : V → Prop}   {k0 : Int32 → V → Prop} : ∀ (n : Nat) (x1 : Int32) (v : V), sl_X7_begins_2 post k0 n x1 v → ∀ (H : Heap) (locs : List Loc) (ls : Array Slot), mw E A s.heap H locs (cR E aR v) → lv_has ls 2 [(0, .ref (aR 0)), (1, .int x1)] → (∀ (x1 : Int32) (v : V) (H : Heap) (locs : List Loc) (ls : Array Slot), k0 x1 v → mw E A s.heap H locs (cR E aR v) → lv_has ls 2 [(0, .ref (aR 0)), (1, .int x1)] → W p l e rmX7_begins s m args below meth c H locs 0 0 (qV E A post (fun u => cR E aR u) below args s) (F0 m 27 ls [])) → W p l e rmX7_begins s m args below meth c H locs 0 0 (qV E A post (fun u => cR E aR u) below args s) (F0 m 2 ls []) := by
  have hx := C0.1
  have hb := C0.2.1
  have hiX7 : ∀ w ∈ wsX70, w ∈ wsX7_begins := fun w h => List.mem_cons_of_mem _ (List.mem_append_right _ h)
  intro n
  induction n with
  | zero => intro x1 v h; exact False.elim h
  | succ n ih =>
    intro x1 v h H locs ls hw hl hk0
    replace h : sb_X7_begins_2 post k0 (sl_X7_begins_2 post k0 n) x1 v := h
    unfold sb_X7_begins_2 at h
    refine lv_iload_n hx hb dX7_begins_2 rfl (lv_at hl 1 rfl) ?_
    refine lv_sipush (v := 664) hx hb dX7_begins_3 (by decide) ?_
    refine lv_icmp_ge (tgt := 27) hx hb dX7_begins_6 (by decide) (fun c_2 => ?_) (fun c_2 => ?_)
    · replace h := h.1 c_2
      exact hk0 _ _ _ _ _ h hw (lv_sub hl [0, 1] rfl)
    · replace h := h.2 c_2
      refine lv_aload_n hx hb dX7_begins_9 rfl (lv_at hl 0 rfl) ?_
      refine x_get C0 hw 7 hiX7 rfl 0 rfl 1 (by decide) 1 rfl rfl dX7_begins_10 ?_
      refine lv_iload_n hx hb dX7_begins_13 rfl (lv_at hl 1 rfl) ?_
      refine lv_aload_n hx hb dX7_begins_14 rfl (lv_at hl 0 rfl) ?_
      refine x_get C0 hw 7 hiX7 rfl 0 rfl 0 (by decide) 2 rfl rfl dX7_begins_15 ?_
      refine lv_iload_n hx hb dX7_begins_18 rfl (lv_at hl 1 rfl) ?_
      obtain ⟨hin, h⟩ := h
      refine x_ald C0 hw 1 rfl hin dX7_begins_19 ?_
      obtain ⟨hin, h⟩ := h
      refine x_ast (ws' := (cR E aR ((st v 2 (tn x1) (v 1 (tn x1)))))) C0 hw 2 rfl hin rfl dX7_begins_20 (fun H locs hw => ?_)
      obtain ⟨v_1, e_v_1⟩ : ∃ z, z = st v 2 (tn x1) (v 1 (tn x1)) := ⟨_, rfl⟩
      rw [← e_v_1] at hw
      replace h := h v_1 e_v_1
      refine lv_iinc (v := (x1 + 1)) (lv' := [(1, .int (x1 + 1)), (0, .ref (aR 0))]) hx hb dX7_begins_21 hl (k := 1) rfl rfl (by decide) rfl (fun ls hl => ?_)
      refine lv_goto (tgt := 2) hx hb dX7_begins_24 (by decide) ?_
      exact ih _ _ h _ _ _ hw (lv_sub hl [1, 0] rfl) hk0
set_option maxRecDepth 100000 in
set_option maxHeartbeats 4000000 in
theorem c_X7_begins (l : Launch) (E : EE) (aR : Nat → Nat) {v : V}   {post : V → Prop} (h : s_X7_begins v post) : KV l E yX7_begins wsX7_begins rmX7_begins [.ref (aR 0)] (cR E aR v) post (fun u => cR E aR u) := by
  unfold s_X7_begins at h
  refine KV.go (cc := cX7_begins) (ret := none) (maxL := 2) (own := RX7) (by decide) rfl (Nat.le_of_ble_eq_true rfl) rfl (fun p e s m below meth c A ls C0 hw hl => ?_)
  have hx := C0.1
  have hb := C0.2.1
  have hiX7 : ∀ w ∈ wsX70, w ∈ wsX7_begins := fun w h => List.mem_cons_of_mem _ (List.mem_append_right _ h)
  replace hl : lv_has ls 2 [(0, .ref (aR 0))] := hl
  refine lv_iconst (v := 0) hx hb dX7_begins_0 (by decide) ?_
  refine lv_istore_n (lv' := [(1, .int 0), (0, .ref (aR 0))]) hx hb dX7_begins_1 rfl hl (by decide) rfl (fun ls hl => ?_)
  obtain ⟨n_3, h⟩ := h
  refine w_X7_begins_2 C0 _ _ _ h _ _ _ hw (lv_sub hl [1, 0] rfl) ?_
  · intro x1_4 v_5 H locs ls h hw hl
    exact x_retv C0 v_5 hw h dX7_begins_27

abbrev rmX7_returns : Room := { frames := 0, cells := 0, slots := 0, locals := 0 }
set_option maxRecDepth 100000 in
set_option maxHeartbeats 4000000 in
theorem w_X7_returns_2 {p : Program} {l : Launch} {e : Env} {s : State} {m : MethodId} {below : List Frame} {meth : Method} {c : Code} {E : EE} {A : Nat → Prop} {aR : Nat → Nat} {args : Array Value} (C0 : Cx E p s m args meth c A cX7_returns 2 RX7 wsX7_returns none) {post : V → Prop}   {k0 : Int32 → V → Prop} : ∀ (n : Nat) (x1 : Int32) (v : V), sl_X7_returns_2 post k0 n x1 v → ∀ (H : Heap) (locs : List Loc) (ls : Array Slot), mw E A s.heap H locs (cR E aR v) → lv_has ls 2 [(0, .ref (aR 0)), (1, .int x1)] → (∀ (x1 : Int32) (v : V) (H : Heap) (locs : List Loc) (ls : Array Slot), k0 x1 v → mw E A s.heap H locs (cR E aR v) → lv_has ls 2 [(0, .ref (aR 0)), (1, .int x1)] → W p l e rmX7_returns s m args below meth c H locs 0 0 (qV E A post (fun u => cR E aR u) below args s) (F0 m 27 ls [])) → W p l e rmX7_returns s m args below meth c H locs 0 0 (qV E A post (fun u => cR E aR u) below args s) (F0 m 2 ls []) := by
  have hx := C0.1
  have hb := C0.2.1
  have hiX7 : ∀ w ∈ wsX70, w ∈ wsX7_returns := fun w h => List.mem_cons_of_mem _ (List.mem_append_right _ h)
  intro n
  induction n with
  | zero => intro x1 v h; exact False.elim h
  | succ n ih =>
    intro x1 v h H locs ls hw hl hk0
    replace h : sb_X7_returns_2 post k0 (sl_X7_returns_2 post k0 n) x1 v := h
    unfold sb_X7_returns_2 at h
    refine lv_iload_n hx hb dX7_returns_2 rfl (lv_at hl 1 rfl) ?_
    refine lv_sipush (v := 664) hx hb dX7_returns_3 (by decide) ?_
    refine lv_icmp_ge (tgt := 27) hx hb dX7_returns_6 (by decide) (fun c_2 => ?_) (fun c_2 => ?_)
    · replace h := h.1 c_2
      exact hk0 _ _ _ _ _ h hw (lv_sub hl [0, 1] rfl)
    · replace h := h.2 c_2
      refine lv_aload_n hx hb dX7_returns_9 rfl (lv_at hl 0 rfl) ?_
      refine x_get C0 hw 7 hiX7 rfl 0 rfl 0 (by decide) 1 rfl rfl dX7_returns_10 ?_
      refine lv_iload_n hx hb dX7_returns_13 rfl (lv_at hl 1 rfl) ?_
      refine lv_aload_n hx hb dX7_returns_14 rfl (lv_at hl 0 rfl) ?_
      refine x_get C0 hw 7 hiX7 rfl 0 rfl 1 (by decide) 2 rfl rfl dX7_returns_15 ?_
      refine lv_iload_n hx hb dX7_returns_18 rfl (lv_at hl 1 rfl) ?_
      obtain ⟨hin, h⟩ := h
      refine x_ald C0 hw 2 rfl hin dX7_returns_19 ?_
      obtain ⟨hin, h⟩ := h
      refine x_ast (ws' := (cR E aR ((st v 1 (tn x1) (v 2 (tn x1)))))) C0 hw 1 rfl hin rfl dX7_returns_20 (fun H locs hw => ?_)
      obtain ⟨v_1, e_v_1⟩ : ∃ z, z = st v 1 (tn x1) (v 2 (tn x1)) := ⟨_, rfl⟩
      rw [← e_v_1] at hw
      replace h := h v_1 e_v_1
      refine lv_iinc (v := (x1 + 1)) (lv' := [(1, .int (x1 + 1)), (0, .ref (aR 0))]) hx hb dX7_returns_21 hl (k := 1) rfl rfl (by decide) rfl (fun ls hl => ?_)
      refine lv_goto (tgt := 2) hx hb dX7_returns_24 (by decide) ?_
      exact ih _ _ h _ _ _ hw (lv_sub hl [1, 0] rfl) hk0
set_option maxRecDepth 100000 in
set_option maxHeartbeats 4000000 in
theorem c_X7_returns (l : Launch) (E : EE) (aR : Nat → Nat) {v : V}   {post : V → Prop} (h : s_X7_returns v post) : KV l E yX7_returns wsX7_returns rmX7_returns [.ref (aR 0)] (cR E aR v) post (fun u => cR E aR u) := by
  unfold s_X7_returns at h
  refine KV.go (cc := cX7_returns) (ret := none) (maxL := 2) (own := RX7) (by decide) rfl (Nat.le_of_ble_eq_true rfl) rfl (fun p e s m below meth c A ls C0 hw hl => ?_)
  have hx := C0.1
  have hb := C0.2.1
  have hiX7 : ∀ w ∈ wsX70, w ∈ wsX7_returns := fun w h => List.mem_cons_of_mem _ (List.mem_append_right _ h)
  replace hl : lv_has ls 2 [(0, .ref (aR 0))] := hl
  refine lv_iconst (v := 0) hx hb dX7_returns_0 (by decide) ?_
  refine lv_istore_n (lv' := [(1, .int 0), (0, .ref (aR 0))]) hx hb dX7_returns_1 rfl hl (by decide) rfl (fun ls hl => ?_)
  obtain ⟨n_3, h⟩ := h
  refine w_X7_returns_2 C0 _ _ _ h _ _ _ hw (lv_sub hl [1, 0] rfl) ?_
  · intro x1_4 v_5 H locs ls h hw hl
    exact x_retv C0 v_5 hw h dX7_returns_27

abbrev rmX7_acted : Room := { frames := 1, cells := 0, slots := 0, locals := 21 }
set_option maxRecDepth 100000 in
set_option maxHeartbeats 4000000 in
theorem w_X7_acted_63 {p : Program} {l : Launch} {e : Env} {s : State} {m : MethodId} {below : List Frame} {meth : Method} {c : Code} {E : EE} {A : Nat → Prop} {aR : Nat → Nat} {args : Array Value} (C0 : Cx E p s m args meth c A cX7_acted 3 RX7 wsX7_acted (some .int)) {post : Int32 → V → Prop}  {f1 : Int32} {k0 : Int32 → V → Prop} : ∀ (n : Nat) (x2 : Int32) (v : V), sl_X7_acted_63 post f1 k0 n x2 v → ∀ (H : Heap) (locs : List Loc) (ls : Array Slot), mw E A s.heap H locs (cR E aR v) → lv_has ls 3 [(0, .ref (aR 0)), (1, .int f1), (2, .int x2)] → (∀ (x2 : Int32) (v : V) (H : Heap) (locs : List Loc) (ls : Array Slot), k0 x2 v → mw E A s.heap H locs (cR E aR v) → lv_has ls 3 [(0, .ref (aR 0)), (1, .int f1), (2, .int x2)] → W p l e rmX7_acted s m args below meth c H locs 0 0 (qI E A post (fun u => cR E aR u) below args s) (F0 m 97 ls [])) → W p l e rmX7_acted s m args below meth c H locs 0 0 (qI E A post (fun u => cR E aR u) below args s) (F0 m 63 ls []) := by
  have hx := C0.1
  have hb := C0.2.1
  have hiX7 : ∀ w ∈ wsX70, w ∈ wsX7_acted := fun w h => List.mem_cons_of_mem _ (List.mem_append_right _ h)
  intro n
  induction n with
  | zero => intro x2 v h; exact False.elim h
  | succ n ih =>
    intro x2 v h H locs ls hw hl hk0
    replace h : sb_X7_acted_63 post f1 k0 (sl_X7_acted_63 post f1 k0 n) x2 v := h
    unfold sb_X7_acted_63 at h
    refine lv_iload_n hx hb dX7_acted_63 rfl (lv_at hl 2 rfl) ?_
    refine lv_sipush (v := 664) hx hb dX7_acted_64 (by decide) ?_
    refine lv_icmp_ge (tgt := 97) hx hb dX7_acted_67 (by decide) (fun c_2 => ?_) (fun c_2 => ?_)
    · replace h := h.1 c_2
      exact hk0 _ _ _ _ _ h hw (lv_sub hl [0, 1, 2] rfl)
    · replace h := h.2 c_2
      refine lv_aload_n hx hb dX7_acted_70 rfl (lv_at hl 0 rfl) ?_
      refine x_get C0 hw 7 hiX7 rfl 0 rfl 4 (by decide) 3 rfl rfl dX7_acted_71 ?_
      refine lv_sipush (v := 664) hx hb dX7_acted_74 (by decide) ?_
      refine lv_aload_n hx hb dX7_acted_77 rfl (lv_at hl 0 rfl) ?_
      refine x_get C0 hw 7 hiX7 rfl 0 rfl 5 (by decide) 2 rfl rfl dX7_acted_78 ?_
      refine lv_imul hx hb dX7_acted_81 ?_
      refine lv_iload_n hx hb dX7_acted_82 rfl (lv_at hl 2 rfl) ?_
      refine lv_iadd hx hb dX7_acted_83 ?_
      refine lv_aload_n hx hb dX7_acted_84 rfl (lv_at hl 0 rfl) ?_
      refine x_get C0 hw 7 hiX7 rfl 0 rfl 1 (by decide) 4 rfl rfl dX7_acted_85 ?_
      refine lv_iload_n hx hb dX7_acted_88 rfl (lv_at hl 2 rfl) ?_
      obtain ⟨hin, h⟩ := h
      refine x_ald C0 hw 2 rfl hin dX7_acted_89 ?_
      obtain ⟨hin, h⟩ := h
      refine x_ast (ws' := (cR E aR ((st v 4 (tn ((664 * (v 0 5)) + x2)) (v 2 (tn x2)))))) C0 hw 4 rfl hin rfl dX7_acted_90 (fun H locs hw => ?_)
      obtain ⟨v_1, e_v_1⟩ : ∃ z, z = st v 4 (tn ((664 * (v 0 5)) + x2)) (v 2 (tn x2)) := ⟨_, rfl⟩
      rw [← e_v_1] at hw
      replace h := h v_1 e_v_1
      refine lv_iinc (v := (x2 + 1)) (lv' := [(2, .int (x2 + 1)), (0, .ref (aR 0)), (1, .int f1)]) hx hb dX7_acted_91 hl (k := 2) rfl rfl (by decide) rfl (fun ls hl => ?_)
      refine lv_goto (tgt := 63) hx hb dX7_acted_94 (by decide) ?_
      exact ih _ _ h _ _ _ hw (lv_sub hl [1, 2, 0] rfl) hk0
set_option maxRecDepth 100000 in
set_option maxHeartbeats 4000000 in
theorem w_X7_acted_22 {p : Program} {l : Launch} {e : Env} {s : State} {m : MethodId} {below : List Frame} {meth : Method} {c : Code} {E : EE} {A : Nat → Prop} {aR : Nat → Nat} {args : Array Value} (C0 : Cx E p s m args meth c A cX7_acted 3 RX7 wsX7_acted (some .int)) {post : Int32 → V → Prop}  {f1 : Int32} {k0 : Int32 → V → Prop} : ∀ (n : Nat) (x2 : Int32) (v : V), sl_X7_acted_22 post f1 k0 n x2 v → ∀ (H : Heap) (locs : List Loc) (ls : Array Slot), mw E A s.heap H locs (cR E aR v) → lv_has ls 3 [(0, .ref (aR 0)), (1, .int f1), (2, .int x2)] → (∀ (x2 : Int32) (v : V) (H : Heap) (locs : List Loc) (ls : Array Slot), k0 x2 v → mw E A s.heap H locs (cR E aR v) → lv_has ls 3 [(0, .ref (aR 0)), (1, .int f1), (2, .int x2)] → W p l e rmX7_acted s m args below meth c H locs 0 0 (qI E A post (fun u => cR E aR u) below args s) (F0 m 51 ls [])) → W p l e rmX7_acted s m args below meth c H locs 0 0 (qI E A post (fun u => cR E aR u) below args s) (F0 m 22 ls []) := by
  have hx := C0.1
  have hb := C0.2.1
  have hiX7 : ∀ w ∈ wsX70, w ∈ wsX7_acted := fun w h => List.mem_cons_of_mem _ (List.mem_append_right _ h)
  intro n
  induction n with
  | zero => intro x2 v h; exact False.elim h
  | succ n ih =>
    intro x2 v h H locs ls hw hl hk0
    replace h : sb_X7_acted_22 post f1 k0 (sl_X7_acted_22 post f1 k0 n) x2 v := h
    unfold sb_X7_acted_22 at h
    refine lv_iload_n hx hb dX7_acted_22 rfl (lv_at hl 2 rfl) ?_
    refine lv_sipush (v := 1992) hx hb dX7_acted_23 (by decide) ?_
    refine lv_icmp_ge (tgt := 51) hx hb dX7_acted_26 (by decide) (fun c_8 => ?_) (fun c_8 => ?_)
    · replace h := h.1 c_8
      exact hk0 _ _ _ _ _ h hw (lv_sub hl [0, 1, 2] rfl)
    · replace h := h.2 c_8
      refine lv_aload_n hx hb dX7_acted_29 rfl (lv_at hl 0 rfl) ?_
      refine x_get C0 hw 7 hiX7 rfl 0 rfl 4 (by decide) 3 rfl rfl dX7_acted_30 ?_
      refine lv_iload_n hx hb dX7_acted_33 rfl (lv_at hl 2 rfl) ?_
      refine lv_aload_n hx hb dX7_acted_34 rfl (lv_at hl 0 rfl) ?_
      refine x_get C0 hw 7 hiX7 rfl 0 rfl 4 (by decide) 3 rfl rfl dX7_acted_35 ?_
      refine lv_iload_n hx hb dX7_acted_38 rfl (lv_at hl 2 rfl) ?_
      refine lv_sipush (v := 664) hx hb dX7_acted_39 (by decide) ?_
      refine lv_iadd hx hb dX7_acted_42 ?_
      obtain ⟨hin, h⟩ := h
      refine x_ald C0 hw 4 rfl hin dX7_acted_43 ?_
      obtain ⟨hin, h⟩ := h
      refine x_ast (ws' := (cR E aR ((st v 4 (tn x2) (v 4 (tn (x2 + 664))))))) C0 hw 4 rfl hin rfl dX7_acted_44 (fun H locs hw => ?_)
      obtain ⟨v_7, e_v_7⟩ : ∃ z, z = st v 4 (tn x2) (v 4 (tn (x2 + 664))) := ⟨_, rfl⟩
      rw [← e_v_7] at hw
      replace h := h v_7 e_v_7
      refine lv_iinc (v := (x2 + 1)) (lv' := [(2, .int (x2 + 1)), (0, .ref (aR 0)), (1, .int f1)]) hx hb dX7_acted_45 hl (k := 2) rfl rfl (by decide) rfl (fun ls hl => ?_)
      refine lv_goto (tgt := 22) hx hb dX7_acted_48 (by decide) ?_
      exact ih _ _ h _ _ _ hw (lv_sub hl [1, 2, 0] rfl) hk0
set_option maxRecDepth 100000 in
set_option maxHeartbeats 4000000 in
theorem c_X7_acted (l : Launch) (E : EE) (aR : Nat → Nat) {v : V}  {p1 : Int32} {post : Int32 → V → Prop} (h : s_X7_acted v p1 post) : KI l E yX7_acted wsX7_acted rmX7_acted [.ref (aR 0), .int p1] (cR E aR v) post (fun u => cR E aR u) := by
  unfold s_X7_acted at h
  refine KI.go (cc := cX7_acted) (ret := (some .int)) (maxL := 3) (own := RX7) (by decide) rfl (Nat.le_of_ble_eq_true rfl) rfl (fun p e s m below meth c A ls C0 hw hl => ?_)
  have hx := C0.1
  have hb := C0.2.1
  have hiX7 : ∀ w ∈ wsX70, w ∈ wsX7_acted := fun w h => List.mem_cons_of_mem _ (List.mem_append_right _ h)
  replace hl : lv_has ls 3 [(0, .ref (aR 0)), (1, .int p1)] := hl
  refine lv_iload_n hx hb dX7_acted_0 rfl (lv_at hl 1 rfl) ?_
  refine x_ldc (v := (-10000001)) C0 1 rfl dX7_acted_1 ?_
  refine lv_icmp_gt (tgt := 12) hx hb dX7_acted_3 (by decide) (fun c_19 => ?_) (fun c_19 => ?_)
  · replace h := h.1 c_19
    refine lv_aload_n hx hb dX7_acted_12 rfl (lv_at hl 0 rfl) ?_
    refine x_get C0 hw 7 hiX7 rfl 0 rfl 5 (by decide) 2 rfl rfl dX7_acted_13 ?_
    refine lv_iconst (v := 4) hx hb dX7_acted_16 (by decide) ?_
    refine lv_icmp_ne (tgt := 61) hx hb dX7_acted_17 (by decide) (fun c_17 => ?_) (fun c_17 => ?_)
    · replace h := h.1 c_17
      refine lv_iconst (v := 0) hx hb dX7_acted_61 (by decide) ?_
      refine lv_istore_n (lv' := [(2, .int 0), (0, .ref (aR 0)), (1, .int p1)]) hx hb dX7_acted_62 rfl hl (by decide) rfl (fun ls hl => ?_)
      obtain ⟨n_3, h⟩ := h
      refine w_X7_acted_63 C0 _ _ _ h _ _ _ hw (lv_sub hl [1, 2, 0] rfl) ?_
      · intro x2_4 v_5 H locs ls h hw hl
        refine lv_aload_n hx hb dX7_acted_97 rfl (lv_at hl 0 rfl) ?_
        refine lv_dup hx hb dX7_acted_98 rfl ?_
        refine x_get C0 hw 7 hiX7 rfl 0 rfl 5 (by decide) 2 rfl rfl dX7_acted_99 ?_
        refine lv_iconst (v := 1) hx hb dX7_acted_102 (by decide) ?_
        refine lv_iadd hx hb dX7_acted_103 ?_
        refine x_put (ws' := (cR E aR ((sc v_5 0 5 ((v_5 0 5) + 1))))) C0 hw 7 hiX7 rfl tyX7 tyX7_ok nmX7 0 rfl 5 (by decide) 2 rfl rfl rfl rfl (Nat.le_of_ble_eq_true rfl) rfl dX7_acted_104 (fun H locs hw => ?_)
        obtain ⟨v_6, e_v_6⟩ : ∃ z, z = sc v_5 0 5 ((v_5 0 5) + 1) := ⟨_, rfl⟩
        rw [← e_v_6] at hw
        replace h := h v_6 e_v_6
        refine lv_iload_n hx hb dX7_acted_107 rfl (lv_at hl 1 rfl) ?_
        exact x_ret C0 v_6 hw h dX7_acted_108
    · replace h := h.2 c_17
      refine lv_iconst (v := 0) hx hb dX7_acted_20 (by decide) ?_
      refine lv_istore_n (lv' := [(2, .int 0), (0, .ref (aR 0)), (1, .int p1)]) hx hb dX7_acted_21 rfl hl (by decide) rfl (fun ls hl => ?_)
      obtain ⟨n_9, h⟩ := h
      refine w_X7_acted_22 C0 _ _ _ h _ _ _ hw (lv_sub hl [1, 2, 0] rfl) ?_
      · intro x2_10 v_11 H locs ls h hw hl
        refine lv_aload_n hx hb dX7_acted_51 rfl (lv_at hl 0 rfl) ?_
        refine lv_dup hx hb dX7_acted_52 rfl ?_
        refine x_get C0 hw 7 hiX7 rfl 0 rfl 5 (by decide) 2 rfl rfl dX7_acted_53 ?_
        refine lv_iconst (v := 1) hx hb dX7_acted_56 (by decide) ?_
        refine lv_isub hx hb dX7_acted_57 ?_
        refine x_put (ws' := (cR E aR ((sc v_11 0 5 ((v_11 0 5) - 1))))) C0 hw 7 hiX7 rfl tyX7 tyX7_ok nmX7 0 rfl 5 (by decide) 2 rfl rfl rfl rfl (Nat.le_of_ble_eq_true rfl) rfl dX7_acted_58 (fun H locs hw => ?_)
        obtain ⟨v_12, e_v_12⟩ : ∃ z, z = sc v_11 0 5 ((v_11 0 5) - 1) := ⟨_, rfl⟩
        rw [← e_v_12] at hw
        replace h := h v_12 e_v_12
        refine lv_iconst (v := 0) hx hb dX7_acted_61 (by decide) ?_
        refine lv_istore_n (lv' := [(2, .int 0), (0, .ref (aR 0)), (1, .int p1)]) hx hb dX7_acted_62 rfl hl (by decide) rfl (fun ls hl => ?_)
        obtain ⟨n_13, h⟩ := h
        refine w_X7_acted_63 C0 _ _ _ h _ _ _ hw (lv_sub hl [1, 2, 0] rfl) ?_
        · intro x2_14 v_15 H locs ls h hw hl
          refine lv_aload_n hx hb dX7_acted_97 rfl (lv_at hl 0 rfl) ?_
          refine lv_dup hx hb dX7_acted_98 rfl ?_
          refine x_get C0 hw 7 hiX7 rfl 0 rfl 5 (by decide) 2 rfl rfl dX7_acted_99 ?_
          refine lv_iconst (v := 1) hx hb dX7_acted_102 (by decide) ?_
          refine lv_iadd hx hb dX7_acted_103 ?_
          refine x_put (ws' := (cR E aR ((sc v_15 0 5 ((v_15 0 5) + 1))))) C0 hw 7 hiX7 rfl tyX7 tyX7_ok nmX7 0 rfl 5 (by decide) 2 rfl rfl rfl rfl (Nat.le_of_ble_eq_true rfl) rfl dX7_acted_104 (fun H locs hw => ?_)
          obtain ⟨v_16, e_v_16⟩ : ∃ z, z = sc v_15 0 5 ((v_15 0 5) + 1) := ⟨_, rfl⟩
          rw [← e_v_16] at hw
          replace h := h v_16 e_v_16
          refine lv_iload_n hx hb dX7_acted_107 rfl (lv_at hl 1 rfl) ?_
          exact x_ret C0 v_16 hw h dX7_acted_108
  · replace h := h.2 c_19
    refine lv_aload_n hx hb dX7_acted_6 rfl (lv_at hl 0 rfl) ?_
    refine x_cVv (As := []) (rest := []) (F := []) C0 hw (p_nil _) hl.1 0 7 rfl rfl (c_X7_returns l E aR h) 0 gX7_acted_X7_returns rfl ⟨rfl, rfl⟩ (by decide +kernel) ⟨Nat.le_of_ble_eq_true rfl, Nat.le_of_ble_eq_true rfl⟩ rfl rfl (Nat.le_of_ble_eq_true rfl) dX7_acted_7 ⟨Nat.zero_le _, Nat.zero_le _⟩ (fun v_18 H locs h (hw : mw E A s.heap H locs (cR E aR v_18)) => ?_)
    refine lv_iload_n hx hb dX7_acted_10 rfl (lv_at hl 1 rfl) ?_
    exact x_ret C0 v_18 hw h dX7_acted_11

abbrev rmX7_ofStone : Room := { frames := 0, cells := 0, slots := 0, locals := 0 }
set_option maxRecDepth 100000 in
set_option maxHeartbeats 4000000 in
theorem c_X7_ofStone (l : Launch) (E : EE) (aR : Nat → Nat) {v : V}  {p1 : Int32} {p2 : Int32} {post : Int32 → V → Prop} (h : s_X7_ofStone v p1 p2 post) : KI l E yX7_ofStone wsX7_ofStone rmX7_ofStone [.ref (aR 0), .int p1, .int p2] (cR E aR v) post (fun u => cR E aR u) := by
  unfold s_X7_ofStone at h
  refine KI.go (cc := cX7_ofStone) (ret := (some .int)) (maxL := 3) (own := RX7) (by decide) rfl (Nat.le_of_ble_eq_true rfl) rfl (fun p e s m below meth c A ls C0 hw hl => ?_)
  have hx := C0.1
  have hb := C0.2.1
  have hiX7 : ∀ w ∈ wsX70, w ∈ wsX7_ofStone := fun w h => List.mem_cons_of_mem _ (List.mem_append_right _ h)
  replace hl : lv_has ls 3 [(0, .ref (aR 0)), (1, .int p1), (2, .int p2)] := hl
  refine lv_aload_n hx hb dX7_ofStone_0 rfl (lv_at hl 0 rfl) ?_
  refine x_get C0 hw 7 hiX7 rfl 0 rfl 0 (by decide) 1 rfl rfl dX7_ofStone_1 ?_
  refine lv_bipush (v := 14) hx hb dX7_ofStone_4 (by decide) ?_
  refine lv_bipush (v := 10) hx hb dX7_ofStone_6 (by decide) ?_
  refine lv_iload_n hx hb dX7_ofStone_8 rfl (lv_at hl 1 rfl) ?_
  refine lv_imul hx hb dX7_ofStone_9 ?_
  refine lv_iadd hx hb dX7_ofStone_10 ?_
  refine lv_iload_n hx hb dX7_ofStone_11 rfl (lv_at hl 2 rfl) ?_
  refine lv_iadd hx hb dX7_ofStone_12 ?_
  obtain ⟨hin, h⟩ := h
  refine x_ald C0 hw 1 rfl hin dX7_ofStone_13 ?_
  exact x_ret C0 v hw h dX7_ofStone_14

abbrev rmX7_setStone : Room := { frames := 0, cells := 0, slots := 0, locals := 0 }
set_option maxRecDepth 100000 in
set_option maxHeartbeats 4000000 in
theorem c_X7_setStone (l : Launch) (E : EE) (aR : Nat → Nat) {v : V}  {p1 : Int32} {p2 : Int32} {p3 : Int32} {post : V → Prop} (h : s_X7_setStone v p1 p2 p3 post) : KV l E yX7_setStone wsX7_setStone rmX7_setStone [.ref (aR 0), .int p1, .int p2, .int p3] (cR E aR v) post (fun u => cR E aR u) := by
  unfold s_X7_setStone at h
  refine KV.go (cc := cX7_setStone) (ret := none) (maxL := 4) (own := RX7) (by decide) rfl (Nat.le_of_ble_eq_true rfl) rfl (fun p e s m below meth c A ls C0 hw hl => ?_)
  have hx := C0.1
  have hb := C0.2.1
  have hiX7 : ∀ w ∈ wsX70, w ∈ wsX7_setStone := fun w h => List.mem_cons_of_mem _ (List.mem_append_right _ h)
  replace hl : lv_has ls 4 [(0, .ref (aR 0)), (1, .int p1), (2, .int p2), (3, .int p3)] := hl
  refine lv_aload_n hx hb dX7_setStone_0 rfl (lv_at hl 0 rfl) ?_
  refine x_get C0 hw 7 hiX7 rfl 0 rfl 0 (by decide) 1 rfl rfl dX7_setStone_1 ?_
  refine lv_bipush (v := 14) hx hb dX7_setStone_4 (by decide) ?_
  refine lv_bipush (v := 10) hx hb dX7_setStone_6 (by decide) ?_
  refine lv_iload_n hx hb dX7_setStone_8 rfl (lv_at hl 1 rfl) ?_
  refine lv_imul hx hb dX7_setStone_9 ?_
  refine lv_iadd hx hb dX7_setStone_10 ?_
  refine lv_iload_n hx hb dX7_setStone_11 rfl (lv_at hl 2 rfl) ?_
  refine lv_iadd hx hb dX7_setStone_12 ?_
  refine lv_iload_n hx hb dX7_setStone_13 rfl (lv_at hl 3 rfl) ?_
  obtain ⟨hin, h⟩ := h
  refine x_ast (ws' := (cR E aR ((st v 1 (tn ((14 + (10 * p1)) + p2)) p3)))) C0 hw 1 rfl hin rfl dX7_setStone_14 (fun H locs hw => ?_)
  obtain ⟨v_1, e_v_1⟩ : ∃ z, z = st v 1 (tn ((14 + (10 * p1)) + p2)) p3 := ⟨_, rfl⟩
  rw [← e_v_1] at hw
  replace h := h v_1 e_v_1
  exact x_retv C0 v_1 hw h dX7_setStone_15

abbrev rmX7_ofMemo : Room := { frames := 0, cells := 0, slots := 0, locals := 0 }
set_option maxRecDepth 100000 in
set_option maxHeartbeats 4000000 in
theorem c_X7_ofMemo (l : Launch) (E : EE) (aR : Nat → Nat) {v : V}  {p1 : Int32} {p2 : Int32} {post : Int32 → V → Prop} (h : s_X7_ofMemo v p1 p2 post) : KI l E yX7_ofMemo wsX7_ofMemo rmX7_ofMemo [.ref (aR 0), .int p1, .int p2] (cR E aR v) post (fun u => cR E aR u) := by
  unfold s_X7_ofMemo at h
  refine KI.go (cc := cX7_ofMemo) (ret := (some .int)) (maxL := 3) (own := RX7) (by decide) rfl (Nat.le_of_ble_eq_true rfl) rfl (fun p e s m below meth c A ls C0 hw hl => ?_)
  have hx := C0.1
  have hb := C0.2.1
  have hiX7 : ∀ w ∈ wsX70, w ∈ wsX7_ofMemo := fun w h => List.mem_cons_of_mem _ (List.mem_append_right _ h)
  replace hl : lv_has ls 3 [(0, .ref (aR 0)), (1, .int p1), (2, .int p2)] := hl
  refine lv_aload_n hx hb dX7_ofMemo_0 rfl (lv_at hl 0 rfl) ?_
  refine x_get C0 hw 7 hiX7 rfl 0 rfl 0 (by decide) 1 rfl rfl dX7_ofMemo_1 ?_
  refine lv_sipush (v := 214) hx hb dX7_ofMemo_4 (by decide) ?_
  refine lv_iconst (v := 5) hx hb dX7_ofMemo_7 (by decide) ?_
  refine lv_iload_n hx hb dX7_ofMemo_8 rfl (lv_at hl 1 rfl) ?_
  refine lv_imul hx hb dX7_ofMemo_9 ?_
  refine lv_iadd hx hb dX7_ofMemo_10 ?_
  refine lv_iload_n hx hb dX7_ofMemo_11 rfl (lv_at hl 2 rfl) ?_
  refine lv_iadd hx hb dX7_ofMemo_12 ?_
  obtain ⟨hin, h⟩ := h
  refine x_ald C0 hw 1 rfl hin dX7_ofMemo_13 ?_
  exact x_ret C0 v hw h dX7_ofMemo_14

abbrev rmX7_isDealer : Room := { frames := 1, cells := 0, slots := 0, locals := 22 }
set_option maxRecDepth 100000 in
set_option maxHeartbeats 4000000 in
theorem c_X7_isDealer (l : Launch) (E : EE) (aR : Nat → Nat) {v : V}  {p1 : Int32} {post : Int32 → V → Prop} (h : s_X7_isDealer v p1 post) : KI l E yX7_isDealer wsX7_isDealer rmX7_isDealer [.ref (aR 0), .int p1] (cR E aR v) post (fun u => cR E aR u) := by
  unfold s_X7_isDealer at h
  refine KI.go (cc := cX7_isDealer) (ret := (some .boolean)) (maxL := 2) (own := RX7) (by decide) rfl (Nat.le_of_ble_eq_true rfl) rfl (fun p e s m below meth c A ls C0 hw hl => ?_)
  have hx := C0.1
  have hb := C0.2.1
  have hiX7 : ∀ w ∈ wsX70, w ∈ wsX7_isDealer := fun w h => List.mem_cons_of_mem _ (List.mem_append_right _ h)
  replace hl : lv_has ls 2 [(0, .ref (aR 0)), (1, .int p1)] := hl
  refine lv_iload_n hx hb dX7_isDealer_0 rfl (lv_at hl 1 rfl) ?_
  refine lv_iconst (v := 0) hx hb dX7_isDealer_1 (by decide) ?_
  refine lv_aload_n hx hb dX7_isDealer_2 rfl (lv_at hl 0 rfl) ?_
  refine x_get C0 hw 7 hiX7 rfl 0 rfl 0 (by decide) 1 rfl rfl dX7_isDealer_3 ?_
  refine lv_iconst (v := 0) hx hb dX7_isDealer_6 (by decide) ?_
  refine x_ald C0 hw 1 rfl (vp_in_nI (n := 0) (by decide) (by decide)) dX7_isDealer_7 ?_
  refine lv_iconst (v := 1) hx hb dX7_isDealer_8 (by decide) ?_
  refine lv_isub hx hb dX7_isDealer_9 ?_
  refine x_cS (As := [.int p1, .int 0, .int ((v 1 (tn 0)) - 1)]) (rest := []) (F := (cR E aR v)) C0 hw (p_non _) hl.1 (c_X7_in l E  h) 3 gX7_isDealer_X7_in rfl ⟨rfl, rfl⟩ (by decide +kernel) ⟨Nat.le_of_ble_eq_true rfl, Nat.le_of_ble_eq_true rfl⟩ rfl rfl (Nat.le_of_ble_eq_true rfl) dX7_isDealer_10 ⟨Nat.zero_le _, Nat.zero_le _⟩ (fun r_1 _u H locs h (hw : mw E A s.heap H locs (cR E aR v)) => ?_)
  exact x_retz C0 h.1 v hw h.2 dX7_isDealer_13

abbrev rmX7_isStone : Room := { frames := 1, cells := 0, slots := 0, locals := 22 }
set_option maxRecDepth 100000 in
set_option maxHeartbeats 4000000 in
theorem c_X7_isStone (l : Launch) (E : EE) (aR : Nat → Nat) {v : V}  {p1 : Int32} {post : Int32 → V → Prop} (h : s_X7_isStone v p1 post) : KI l E yX7_isStone wsX7_isStone rmX7_isStone [.ref (aR 0), .int p1] (cR E aR v) post (fun u => cR E aR u) := by
  unfold s_X7_isStone at h
  refine KI.go (cc := cX7_isStone) (ret := (some .boolean)) (maxL := 2) (own := RX7) (by decide) rfl (Nat.le_of_ble_eq_true rfl) rfl (fun p e s m below meth c A ls C0 hw hl => ?_)
  have hx := C0.1
  have hb := C0.2.1
  have hiX7 : ∀ w ∈ wsX70, w ∈ wsX7_isStone := fun w h => List.mem_cons_of_mem _ (List.mem_append_right _ h)
  replace hl : lv_has ls 2 [(0, .ref (aR 0)), (1, .int p1)] := hl
  refine lv_iload_n hx hb dX7_isStone_0 rfl (lv_at hl 1 rfl) ?_
  refine lv_iconst (v := 0) hx hb dX7_isStone_1 (by decide) ?_
  refine lv_aload_n hx hb dX7_isStone_2 rfl (lv_at hl 0 rfl) ?_
  refine x_get C0 hw 7 hiX7 rfl 0 rfl 0 (by decide) 1 rfl rfl dX7_isStone_3 ?_
  refine lv_iconst (v := 1) hx hb dX7_isStone_6 (by decide) ?_
  refine x_ald C0 hw 1 rfl (vp_in_nI (n := 1) (by decide) (by decide)) dX7_isStone_7 ?_
  refine lv_iconst (v := 1) hx hb dX7_isStone_8 (by decide) ?_
  refine lv_isub hx hb dX7_isStone_9 ?_
  refine x_cS (As := [.int p1, .int 0, .int ((v 1 (tn 1)) - 1)]) (rest := []) (F := (cR E aR v)) C0 hw (p_non _) hl.1 (c_X7_in l E  h) 3 gX7_isStone_X7_in rfl ⟨rfl, rfl⟩ (by decide +kernel) ⟨Nat.le_of_ble_eq_true rfl, Nat.le_of_ble_eq_true rfl⟩ rfl rfl (Nat.le_of_ble_eq_true rfl) dX7_isStone_10 ⟨Nat.zero_le _, Nat.zero_le _⟩ (fun r_1 _u H locs h (hw : mw E A s.heap H locs (cR E aR v)) => ?_)
  exact x_retz C0 h.1 v hw h.2 dX7_isStone_13

abbrev rmX7_isOut : Room := { frames := 1, cells := 0, slots := 0, locals := 22 }
set_option maxRecDepth 100000 in
set_option maxHeartbeats 4000000 in
theorem c_X7_isOut (l : Launch) (E : EE) (aR : Nat → Nat) {v : V}  {p1 : Int32} {post : Int32 → V → Prop} (h : s_X7_isOut v p1 post) : KI l E yX7_isOut wsX7_isOut rmX7_isOut [.ref (aR 0), .int p1] (cR E aR v) post (fun u => cR E aR u) := by
  unfold s_X7_isOut at h
  refine KI.go (cc := cX7_isOut) (ret := (some .boolean)) (maxL := 2) (own := RX7) (by decide) rfl (Nat.le_of_ble_eq_true rfl) rfl (fun p e s m below meth c A ls C0 hw hl => ?_)
  have hx := C0.1
  have hb := C0.2.1
  replace hl : lv_has ls 2 [(0, .ref (aR 0)), (1, .int p1)] := hl
  refine lv_aload_n hx hb dX7_isOut_0 rfl (lv_at hl 0 rfl) ?_
  refine lv_iload_n hx hb dX7_isOut_1 rfl (lv_at hl 1 rfl) ?_
  refine lv_iconst (v := 5) hx hb dX7_isOut_2 (by decide) ?_
  refine x_cV (As := [.int p1, .int 5]) (rest := []) (F := []) C0 hw (p_nil _) hl.1 0 7 rfl rfl (c_X7_ofStone l E aR h) 2 gX7_isOut_X7_ofStone rfl ⟨rfl, rfl⟩ (by decide +kernel) ⟨Nat.le_of_ble_eq_true rfl, Nat.le_of_ble_eq_true rfl⟩ rfl rfl (Nat.le_of_ble_eq_true rfl) dX7_isOut_3 ⟨Nat.zero_le _, Nat.zero_le _⟩ (fun r_1 v_2 H locs h (hw : mw E A s.heap H locs (cR E aR v_2)) => ?_)
  refine lv_if_lt (tgt := 13) hx hb dX7_isOut_6 (by decide) (fun c_3 => ?_) (fun c_3 => ?_)
  · replace h := h.1 c_3
    refine lv_iconst (v := 0) hx hb dX7_isOut_13 (by decide) ?_
    exact x_retz C0 rfl v_2 hw h dX7_isOut_14
  · replace h := h.2 c_3
    refine lv_iconst (v := 1) hx hb dX7_isOut_9 (by decide) ?_
    refine lv_goto (tgt := 14) hx hb dX7_isOut_10 (by decide) ?_
    exact x_retz C0 rfl v_2 hw h dX7_isOut_14

abbrev rmX7_isSold : Room := { frames := 1, cells := 0, slots := 0, locals := 22 }
set_option maxRecDepth 100000 in
set_option maxHeartbeats 4000000 in
theorem c_X7_isSold (l : Launch) (E : EE) (aR : Nat → Nat) {v : V}  {p1 : Int32} {post : Int32 → V → Prop} (h : s_X7_isSold v p1 post) : KI l E yX7_isSold wsX7_isSold rmX7_isSold [.ref (aR 0), .int p1] (cR E aR v) post (fun u => cR E aR u) := by
  unfold s_X7_isSold at h
  refine KI.go (cc := cX7_isSold) (ret := (some .boolean)) (maxL := 2) (own := RX7) (by decide) rfl (Nat.le_of_ble_eq_true rfl) rfl (fun p e s m below meth c A ls C0 hw hl => ?_)
  have hx := C0.1
  have hb := C0.2.1
  replace hl : lv_has ls 2 [(0, .ref (aR 0)), (1, .int p1)] := hl
  refine lv_aload_n hx hb dX7_isSold_0 rfl (lv_at hl 0 rfl) ?_
  refine lv_iload_n hx hb dX7_isSold_1 rfl (lv_at hl 1 rfl) ?_
  refine lv_iconst (v := 3) hx hb dX7_isSold_2 (by decide) ?_
  refine x_cV (As := [.int p1, .int 3]) (rest := []) (F := []) C0 hw (p_nil _) hl.1 0 7 rfl rfl (c_X7_ofStone l E aR h) 2 gX7_isSold_X7_ofStone rfl ⟨rfl, rfl⟩ (by decide +kernel) ⟨Nat.le_of_ble_eq_true rfl, Nat.le_of_ble_eq_true rfl⟩ rfl rfl (Nat.le_of_ble_eq_true rfl) dX7_isSold_3 ⟨Nat.zero_le _, Nat.zero_le _⟩ (fun r_1 v_2 H locs h (hw : mw E A s.heap H locs (cR E aR v_2)) => ?_)
  refine lv_if_ge (tgt := 13) hx hb dX7_isSold_6 (by decide) (fun c_3 => ?_) (fun c_3 => ?_)
  · replace h := h.1 c_3
    refine lv_iconst (v := 0) hx hb dX7_isSold_13 (by decide) ?_
    exact x_retz C0 rfl v_2 hw h dX7_isSold_14
  · replace h := h.2 c_3
    refine lv_iconst (v := 1) hx hb dX7_isSold_9 (by decide) ?_
    refine lv_goto (tgt := 14) hx hb dX7_isSold_10 (by decide) ?_
    exact x_retz C0 rfl v_2 hw h dX7_isSold_14

abbrev rmX7_sieve : Room := { frames := 1, cells := 0, slots := 0, locals := 22 }
set_option maxRecDepth 100000 in
set_option maxHeartbeats 4000000 in
theorem c_X7_sieve (l : Launch) (E : EE) (aR : Nat → Nat) {v : V}  {p1 : Int32} {post : Int32 → V → Prop} (h : s_X7_sieve v p1 post) : KI l E yX7_sieve wsX7_sieve rmX7_sieve [.ref (aR 0), .int p1] (cR E aR v) post (fun u => cR E aR u) := by
  unfold s_X7_sieve at h
  refine KI.go (cc := cX7_sieve) (ret := (some .int)) (maxL := 3) (own := RX7) (by decide) rfl (Nat.le_of_ble_eq_true rfl) rfl (fun p e s m below meth c A ls C0 hw hl => ?_)
  have hx := C0.1
  have hb := C0.2.1
  replace hl : lv_has ls 3 [(0, .ref (aR 0)), (1, .int p1)] := hl
  refine lv_aload_n hx hb dX7_sieve_0 rfl (lv_at hl 0 rfl) ?_
  refine lv_iload_n hx hb dX7_sieve_1 rfl (lv_at hl 1 rfl) ?_
  refine lv_iconst (v := 0) hx hb dX7_sieve_2 (by decide) ?_
  refine x_cV (As := [.int p1, .int 0]) (rest := []) (F := []) C0 hw (p_nil _) hl.1 0 7 rfl rfl (c_X7_ofStone l E aR h) 2 gX7_sieve_X7_ofStone rfl ⟨rfl, rfl⟩ (by decide +kernel) ⟨Nat.le_of_ble_eq_true rfl, Nat.le_of_ble_eq_true rfl⟩ rfl rfl (Nat.le_of_ble_eq_true rfl) dX7_sieve_3 ⟨Nat.zero_le _, Nat.zero_le _⟩ (fun r_1 v_2 H locs h (hw : mw E A s.heap H locs (cR E aR v_2)) => ?_)
  refine lv_istore_n (lv' := [(2, .int r_1), (0, .ref (aR 0)), (1, .int p1)]) hx hb dX7_sieve_6 rfl hl (by decide) rfl (fun ls hl => ?_)
  refine lv_iload_n hx hb dX7_sieve_7 rfl (lv_at hl 0 rfl) ?_
  refine lv_bipush (v := 10) hx hb dX7_sieve_8 (by decide) ?_
  refine lv_icmp_ge (tgt := 17) hx hb dX7_sieve_10 (by decide) (fun c_6 => ?_) (fun c_6 => ?_)
  · replace h := h.1 c_6
    refine lv_iload_n hx hb dX7_sieve_17 rfl (lv_at hl 0 rfl) ?_
    refine lv_bipush (v := 25) hx hb dX7_sieve_18 (by decide) ?_
    refine lv_icmp_ge (tgt := 27) hx hb dX7_sieve_20 (by decide) (fun c_5 => ?_) (fun c_5 => ?_)
    · replace h := h.1 c_5
      refine lv_iload_n hx hb dX7_sieve_27 rfl (lv_at hl 0 rfl) ?_
      refine lv_bipush (v := 50) hx hb dX7_sieve_28 (by decide) ?_
      refine lv_icmp_ge (tgt := 37) hx hb dX7_sieve_30 (by decide) (fun c_4 => ?_) (fun c_4 => ?_)
      · replace h := h.1 c_4
        refine lv_iload_n hx hb dX7_sieve_37 rfl (lv_at hl 0 rfl) ?_
        refine lv_bipush (v := 100) hx hb dX7_sieve_38 (by decide) ?_
        refine lv_icmp_ge (tgt := 47) hx hb dX7_sieve_40 (by decide) (fun c_3 => ?_) (fun c_3 => ?_)
        · replace h := h.1 c_3
          refine lv_iconst (v := 4) hx hb dX7_sieve_47 (by decide) ?_
          exact x_ret C0 v_2 hw h dX7_sieve_48
        · replace h := h.2 c_3
          refine lv_iconst (v := 3) hx hb dX7_sieve_43 (by decide) ?_
          refine lv_goto (tgt := 48) hx hb dX7_sieve_44 (by decide) ?_
          exact x_ret C0 v_2 hw h dX7_sieve_48
      · replace h := h.2 c_4
        refine lv_iconst (v := 2) hx hb dX7_sieve_33 (by decide) ?_
        refine lv_goto (tgt := 48) hx hb dX7_sieve_34 (by decide) ?_
        exact x_ret C0 v_2 hw h dX7_sieve_48
    · replace h := h.2 c_5
      refine lv_iconst (v := 1) hx hb dX7_sieve_23 (by decide) ?_
      refine lv_goto (tgt := 48) hx hb dX7_sieve_24 (by decide) ?_
      exact x_ret C0 v_2 hw h dX7_sieve_48
  · replace h := h.2 c_6
    refine lv_iconst (v := 0) hx hb dX7_sieve_13 (by decide) ?_
    refine lv_goto (tgt := 48) hx hb dX7_sieve_14 (by decide) ?_
    exact x_ret C0 v_2 hw h dX7_sieve_48

abbrev rmX7_rateAt : Room := { frames := 0, cells := 0, slots := 0, locals := 0 }
set_option maxRecDepth 100000 in
set_option maxHeartbeats 4000000 in
theorem c_X7_rateAt (l : Launch) (E : EE)    {p0 : Int32} {p1 : Int32} {p2 : Int32} {post : Int32 → Prop} (h : s_X7_rateAt p0 p1 p2 post) : KI l E yX7_rateAt wsX7_rateAt rmX7_rateAt [.int p0, .int p1, .int p2] ([] : va_W) (S := Unit) (fun r (_ : Unit) => post r) (fun (_ : Unit) => ([] : va_W)) := by
  unfold s_X7_rateAt at h
  refine KI.go (cc := cX7_rateAt) (ret := (some .int)) (maxL := 3) (own := RX7) (by decide) rfl (Nat.le_of_ble_eq_true rfl) rfl (fun p e s m below meth c A ls C0 hw hl => ?_)
  have hx := C0.1
  have hb := C0.2.1
  replace hl : lv_has ls 3 [(0, .int p0), (1, .int p1), (2, .int p2)] := hl
  refine lv_sipush (v := 264) hx hb dX7_rateAt_0 (by decide) ?_
  refine lv_bipush (v := 80) hx hb dX7_rateAt_3 (by decide) ?_
  refine lv_iload_n hx hb dX7_rateAt_5 rfl (lv_at hl 0 rfl) ?_
  refine lv_imul hx hb dX7_rateAt_6 ?_
  refine lv_iadd hx hb dX7_rateAt_7 ?_
  refine lv_bipush (v := 8) hx hb dX7_rateAt_8 (by decide) ?_
  refine lv_iload_n hx hb dX7_rateAt_10 rfl (lv_at hl 1 rfl) ?_
  refine lv_imul hx hb dX7_rateAt_11 ?_
  refine lv_iadd hx hb dX7_rateAt_12 ?_
  refine lv_iload_n hx hb dX7_rateAt_13 rfl (lv_at hl 2 rfl) ?_
  refine lv_iadd hx hb dX7_rateAt_14 ?_
  exact x_ret C0 () hw h dX7_rateAt_15

abbrev rmX7_rateFor : Room := { frames := 1, cells := 0, slots := 0, locals := 22 }
set_option maxRecDepth 100000 in
set_option maxHeartbeats 4000000 in
theorem w_X7_rateFor_34 {p : Program} {l : Launch} {e : Env} {s : State} {m : MethodId} {below : List Frame} {meth : Method} {c : Code} {E : EE} {A : Nat → Prop} {aR : Nat → Nat} {args : Array Value} (C0 : Cx E p s m args meth c A cX7_rateFor 9 RX7 wsX7_rateFor (some .int)) {post : Int32 → V → Prop}  {f1 : Int32} {f3 : Int32} {f4 : Int32} {f6 : Int32} {k0 : Int32 → Int32 → V → Prop} : ∀ (n : Nat) (x5 : Int32) (x7 : Int32) (v : V), sl_X7_rateFor_34 post f1 f3 f4 f6 k0 n x5 x7 v → ∀ (H : Heap) (locs : List Loc) (ls : Array Slot), mw E A s.heap H locs (cR E aR v) → lv_has ls 9 [(0, .ref (aR 0)), (1, .int f1), (3, .int f3), (4, .int f4), (5, .int x5), (6, .int f6), (7, .int x7)] → (∀ (x5 : Int32) (x7 : Int32) (v : V) (H : Heap) (locs : List Loc) (ls : Array Slot), k0 x5 x7 v → mw E A s.heap H locs (cR E aR v) → lv_has ls 9 [(0, .ref (aR 0)), (1, .int f1), (3, .int f3), (4, .int f4), (5, .int x5), (6, .int f6), (7, .int x7)] → W p l e rmX7_rateFor s m args below meth c H locs 0 0 (qI E A post (fun u => cR E aR u) below args s) (F0 m 78 ls [])) → W p l e rmX7_rateFor s m args below meth c H locs 0 0 (qI E A post (fun u => cR E aR u) below args s) (F0 m 34 ls []) := by
  have hx := C0.1
  have hb := C0.2.1
  have hiX7 : ∀ w ∈ wsX70, w ∈ wsX7_rateFor := fun w h => List.mem_cons_of_mem _ (List.mem_append_right _ h)
  intro n
  induction n with
  | zero => intro x5 x7 v h; exact False.elim h
  | succ n ih =>
    intro x5 x7 v h H locs ls hw hl hk0
    replace h : sb_X7_rateFor_34 post f1 f3 f4 f6 k0 (sl_X7_rateFor_34 post f1 f3 f4 f6 k0 n) x5 x7 v := h
    unfold sb_X7_rateFor_34 at h
    refine lv_iload hx hb dX7_rateFor_34 (lv_at hl 6 rfl) ?_
    refine lv_bipush (v := 8) hx hb dX7_rateFor_36 (by decide) ?_
    refine lv_icmp_ge (tgt := 78) hx hb dX7_rateFor_38 (by decide) (fun c_5 => ?_) (fun c_5 => ?_)
    · replace h := h.1 c_5
      exact hk0 _ _ _ _ _ _ h hw (lv_sub hl [0, 1, 2, 3, 4, 5, 6] rfl)
    · replace h := h.2 c_5
      refine lv_aload_n hx hb dX7_rateFor_41 rfl (lv_at hl 0 rfl) ?_
      refine x_get C0 hw 7 hiX7 rfl 0 rfl 0 (by decide) 1 rfl rfl dX7_rateFor_42 ?_
      refine lv_iload_n hx hb dX7_rateFor_45 rfl (lv_at hl 1 rfl) ?_
      refine lv_iload hx hb dX7_rateFor_46 (lv_at hl 5 rfl) ?_
      refine lv_iload hx hb dX7_rateFor_48 (lv_at hl 6 rfl) ?_
      refine x_cS (As := [.int f1, .int f6, .int x7]) (rest := [.ref (aR 1)]) (F := (cR E aR v)) C0 hw (p_non _) hl.1 (c_X7_rateAt l E  h) 3 gX7_rateFor_X7_rateAt rfl ⟨rfl, rfl⟩ (by decide +kernel) ⟨Nat.le_of_ble_eq_true rfl, Nat.le_of_ble_eq_true rfl⟩ rfl rfl (Nat.le_of_ble_eq_true rfl) dX7_rateFor_50 ⟨Nat.zero_le _, Nat.zero_le _⟩ (fun r_2 _u H locs h (hw : mw E A s.heap H locs (cR E aR v)) => ?_)
      obtain ⟨hin, h⟩ := h
      refine x_ald C0 hw 1 rfl hin dX7_rateFor_53 ?_
      refine lv_istore (lv' := [(8, .int (v 1 (tn r_2))), (0, .ref (aR 0)), (1, .int f1), (3, .int f3), (4, .int f4), (5, .int x5), (6, .int f6), (7, .int x7)]) hx hb dX7_rateFor_54 hl (by decide) rfl (fun ls hl => ?_)
      refine lv_iload hx hb dX7_rateFor_56 (lv_at hl 0 rfl) ?_
      refine lv_iload hx hb dX7_rateFor_58 (lv_at hl 5 rfl) ?_
      refine lv_icmp_le (tgt := 68) hx hb dX7_rateFor_60 (by decide) (fun c_3 => ?_) (fun c_3 => ?_)
      · replace h := h.1 c_3
        refine lv_iload hx hb dX7_rateFor_68 (lv_at hl 5 rfl) ?_
        refine lv_istore (lv' := [(5, .int x5), (8, .int (v 1 (tn r_2))), (0, .ref (aR 0)), (1, .int f1), (3, .int f3), (4, .int f4), (6, .int f6), (7, .int x7)]) hx hb dX7_rateFor_70 hl (by decide) rfl (fun ls hl => ?_)
        refine lv_iinc (v := (x7 + 1)) (lv' := [(7, .int (x7 + 1)), (5, .int x5), (8, .int (v 1 (tn r_2))), (0, .ref (aR 0)), (1, .int f1), (3, .int f3), (4, .int f4), (6, .int f6)]) hx hb dX7_rateFor_72 hl (k := 7) rfl rfl (by decide) rfl (fun ls hl => ?_)
        refine lv_goto (tgt := 34) hx hb dX7_rateFor_75 (by decide) ?_
        exact ih _ _ _ h _ _ _ hw (lv_sub hl [3, 4, 5, 6, 1, 7, 0] rfl) hk0
      · replace h := h.2 c_3
        refine lv_iload hx hb dX7_rateFor_63 (lv_at hl 0 rfl) ?_
        refine lv_goto (tgt := 70) hx hb dX7_rateFor_65 (by decide) ?_
        refine lv_istore (lv' := [(5, .int (v 1 (tn r_2))), (8, .int (v 1 (tn r_2))), (0, .ref (aR 0)), (1, .int f1), (3, .int f3), (4, .int f4), (6, .int f6), (7, .int x7)]) hx hb dX7_rateFor_70 hl (by decide) rfl (fun ls hl => ?_)
        refine lv_iinc (v := (x7 + 1)) (lv' := [(7, .int (x7 + 1)), (5, .int (v 1 (tn r_2))), (8, .int (v 1 (tn r_2))), (0, .ref (aR 0)), (1, .int f1), (3, .int f3), (4, .int f4), (6, .int f6)]) hx hb dX7_rateFor_72 hl (k := 7) rfl rfl (by decide) rfl (fun ls hl => ?_)
        refine lv_goto (tgt := 34) hx hb dX7_rateFor_75 (by decide) ?_
        exact ih _ _ _ h _ _ _ hw (lv_sub hl [3, 4, 5, 6, 1, 7, 0] rfl) hk0
set_option maxRecDepth 100000 in
set_option maxHeartbeats 4000000 in
theorem w_X7_rateFor_19 {p : Program} {l : Launch} {e : Env} {s : State} {m : MethodId} {below : List Frame} {meth : Method} {c : Code} {E : EE} {A : Nat → Prop} {aR : Nat → Nat} {args : Array Value} (C0 : Cx E p s m args meth c A cX7_rateFor 9 RX7 wsX7_rateFor (some .int)) {post : Int32 → V → Prop}  {f1 : Int32} {f3 : Int32} {f4 : Int32} {k0 : Int32 → Int32 → V → Prop} : ∀ (n : Nat) (x5 : Int32) (x6 : Int32) (v : V), sl_X7_rateFor_19 post f1 f3 f4 k0 n x5 x6 v → ∀ (H : Heap) (locs : List Loc) (ls : Array Slot), mw E A s.heap H locs (cR E aR v) → lv_has ls 9 [(0, .ref (aR 0)), (1, .int f1), (3, .int f3), (4, .int f4), (5, .int x5), (6, .int x6)] → (∀ (x5 : Int32) (x6 : Int32) (v : V) (H : Heap) (locs : List Loc) (ls : Array Slot), k0 x5 x6 v → mw E A s.heap H locs (cR E aR v) → lv_has ls 9 [(0, .ref (aR 0)), (1, .int f1), (3, .int f3), (4, .int f4), (5, .int x5), (6, .int x6)] → W p l e rmX7_rateFor s m args below meth c H locs 0 0 (qI E A post (fun u => cR E aR u) below args s) (F0 m 84 ls [])) → W p l e rmX7_rateFor s m args below meth c H locs 0 0 (qI E A post (fun u => cR E aR u) below args s) (F0 m 19 ls []) := by
  have hx := C0.1
  have hb := C0.2.1
  have hiX7 : ∀ w ∈ wsX70, w ∈ wsX7_rateFor := fun w h => List.mem_cons_of_mem _ (List.mem_append_right _ h)
  intro n
  induction n with
  | zero => intro x5 x6 v h; exact False.elim h
  | succ n ih =>
    intro x5 x6 v h H locs ls hw hl hk0
    replace h : sb_X7_rateFor_19 post f1 f3 f4 k0 (sl_X7_rateFor_19 post f1 f3 f4 k0 n) x5 x6 v := h
    unfold sb_X7_rateFor_19 at h
    refine lv_iload hx hb dX7_rateFor_19 (lv_at hl 5 rfl) ?_
    refine lv_bipush (v := 10) hx hb dX7_rateFor_21 (by decide) ?_
    refine lv_icmp_ge (tgt := 84) hx hb dX7_rateFor_23 (by decide) (fun c_11 => ?_) (fun c_11 => ?_)
    · replace h := h.1 c_11
      exact hk0 _ _ _ _ _ _ h hw (lv_sub hl [0, 1, 2, 3, 4, 5] rfl)
    · replace h := h.2 c_11
      refine lv_iload hx hb dX7_rateFor_26 (lv_at hl 3 rfl) ?_
      refine lv_if_ne (tgt := 84) hx hb dX7_rateFor_28 (by decide) (fun c_10 => ?_) (fun c_10 => ?_)
      · replace h := h.1 c_10
        exact hk0 _ _ _ _ _ _ h hw (lv_sub hl [0, 1, 2, 3, 4, 5] rfl)
      · replace h := h.2 c_10
        refine lv_iload_n hx hb dX7_rateFor_31 rfl (lv_at hl 2 rfl) ?_
        refine lv_istore (lv' := [(7, .int f3), (0, .ref (aR 0)), (1, .int f1), (3, .int f3), (4, .int f4), (5, .int x5), (6, .int x6)]) hx hb dX7_rateFor_32 hl (by decide) rfl (fun ls hl => ?_)
        obtain ⟨n_6, h⟩ := h
        refine w_X7_rateFor_34 C0 _ _ _ _ h _ _ _ hw (lv_sub hl [1, 2, 3, 4, 5, 6, 0] rfl) ?_
        · intro x5_7 x7_8 v_9 H locs ls h hw hl
          refine lv_iinc (v := (x6 + 1)) (lv' := [(6, .int (x6 + 1)), (0, .ref (aR 0)), (1, .int f1), (3, .int f3), (4, .int f4), (5, .int x5_7), (7, .int x7_8)]) hx hb dX7_rateFor_78 hl (k := 5) rfl rfl (by decide) rfl (fun ls hl => ?_)
          refine lv_goto (tgt := 19) hx hb dX7_rateFor_81 (by decide) ?_
          exact ih _ _ _ h _ _ _ hw (lv_sub hl [1, 2, 3, 4, 5, 0] rfl) hk0
set_option maxRecDepth 100000 in
set_option maxHeartbeats 4000000 in
theorem c_X7_rateFor (l : Launch) (E : EE) (aR : Nat → Nat) {v : V}  {p1 : Int32} {p2 : Int32} {p3 : Int32} {post : Int32 → V → Prop} (h : s_X7_rateFor v p1 p2 p3 post) : KI l E yX7_rateFor wsX7_rateFor rmX7_rateFor [.ref (aR 0), .int p1, .int p2, .int p3] (cR E aR v) post (fun u => cR E aR u) := by
  unfold s_X7_rateFor at h
  refine KI.go (cc := cX7_rateFor) (ret := (some .int)) (maxL := 9) (own := RX7) (by decide) rfl (Nat.le_of_ble_eq_true rfl) rfl (fun p e s m below meth c A ls C0 hw hl => ?_)
  have hx := C0.1
  have hb := C0.2.1
  have hiX7 : ∀ w ∈ wsX70, w ∈ wsX7_rateFor := fun w h => List.mem_cons_of_mem _ (List.mem_append_right _ h)
  replace hl : lv_has ls 9 [(0, .ref (aR 0)), (1, .int p1), (2, .int p2), (3, .int p3)] := hl
  refine lv_aload_n hx hb dX7_rateFor_0 rfl (lv_at hl 0 rfl) ?_
  refine x_get C0 hw 7 hiX7 rfl 0 rfl 0 (by decide) 1 rfl rfl dX7_rateFor_1 ?_
  refine lv_iload_n hx hb dX7_rateFor_4 rfl (lv_at hl 1 rfl) ?_
  refine lv_iload_n hx hb dX7_rateFor_5 rfl (lv_at hl 2 rfl) ?_
  refine lv_iload_n hx hb dX7_rateFor_6 rfl (lv_at hl 3 rfl) ?_
  refine x_cS (As := [.int p1, .int p2, .int p3]) (rest := [.ref (aR 1)]) (F := (cR E aR v)) C0 hw (p_non _) hl.1 (c_X7_rateAt l E  h) 3 gX7_rateFor_X7_rateAt rfl ⟨rfl, rfl⟩ (by decide +kernel) ⟨Nat.le_of_ble_eq_true rfl, Nat.le_of_ble_eq_true rfl⟩ rfl rfl (Nat.le_of_ble_eq_true rfl) dX7_rateFor_7 ⟨Nat.zero_le _, Nat.zero_le _⟩ (fun r_1 _u H locs h (hw : mw E A s.heap H locs (cR E aR v)) => ?_)
  obtain ⟨hin, h⟩ := h
  refine x_ald C0 hw 1 rfl hin dX7_rateFor_10 ?_
  refine lv_istore (lv' := [(4, .int (v 1 (tn r_1))), (0, .ref (aR 0)), (1, .int p1), (2, .int p2), (3, .int p3)]) hx hb dX7_rateFor_11 hl (by decide) rfl (fun ls hl => ?_)
  refine lv_iconst (v := 0) hx hb dX7_rateFor_13 (by decide) ?_
  refine lv_istore (lv' := [(5, .int 0), (4, .int (v 1 (tn r_1))), (0, .ref (aR 0)), (1, .int p1), (2, .int p2), (3, .int p3)]) hx hb dX7_rateFor_14 hl (by decide) rfl (fun ls hl => ?_)
  refine lv_iload_n hx hb dX7_rateFor_16 rfl (lv_at hl 4 rfl) ?_
  refine lv_istore (lv' := [(6, .int p2), (5, .int 0), (4, .int (v 1 (tn r_1))), (0, .ref (aR 0)), (1, .int p1), (2, .int p2), (3, .int p3)]) hx hb dX7_rateFor_17 hl (by decide) rfl (fun ls hl => ?_)
  obtain ⟨n_12, h⟩ := h
  refine w_X7_rateFor_19 C0 _ _ _ _ h _ _ _ hw (lv_sub hl [3, 4, 6, 2, 1, 0] rfl) ?_
  · intro x5_13 x6_14 v_15 H locs ls h hw hl
    refine lv_iload hx hb dX7_rateFor_84 (lv_at hl 3 rfl) ?_
    refine lv_if_le (tgt := 94) hx hb dX7_rateFor_86 (by decide) (fun c_16 => ?_) (fun c_16 => ?_)
    · replace h := h.1 c_16
      refine lv_iload hx hb dX7_rateFor_94 (lv_at hl 4 rfl) ?_
      exact x_ret C0 v_15 hw h dX7_rateFor_96
    · replace h := h.2 c_16
      refine lv_iload hx hb dX7_rateFor_89 (lv_at hl 3 rfl) ?_
      refine lv_goto (tgt := 96) hx hb dX7_rateFor_91 (by decide) ?_
      exact x_ret C0 v_15 hw h dX7_rateFor_96
