abbrev rmL_signs : Room := { frames := 2, cells := 0, slots := 0, locals := 42 }
set_option maxRecDepth 100000 in
set_option maxHeartbeats 4000000 in
theorem c_L_signs (l : Launch) (E : EE) (aG : Nat → Nat) (a0 : Nat → Nat) (a1 : Nat → Nat) (a2 : Nat → Nat) (a3 : Nat → Nat) (aH : Nat → Nat) (h0 : Nat → Nat) (h1 : Nat → Nat) (h2 : Nat → Nat) (h3 : Nat → Nat) (aS : Nat → Nat) {v0 : V} {v1 : V} {v2 : V} {v3 : V} {v4 : V} {v5 : V} {v6 : V} {v7 : V} {v8 : V} {v9 : V} {v10 : V} {p1 : Int32} {p2 : Int32} {p3 : Int32} {p4 : Int32} {post : Int32 → V → V → V → V → V → V → V → V → V → V → V → Prop} (h : s_L_signs v0 v1 v2 v3 v4 v5 v6 v7 v8 v9 v10 p1 p2 p3 p4 post) : KI l E yL_signs wsL_signs rmL_signs [.ref (aG 0), .int p1, .int p2, .int p3, .int p4] (List.flatten [cG aG (a0 0) (a1 0) (a2 0) (a3 0) (aH 0) (aS 0) v0, cM E a0 v1, cM E a1 v2, cM E a2 v3, cM E a3 v4, cH E aH (h0 0) (h1 0) (h2 0) (h3 0) v5, cM E h0 v6, cM E h1 v7, cM E h2 v8, cM E h3 v9, cS E aS v10]) (S := V × V × V × V × V × V × V × V × V × V × V) (fun r (u : V × V × V × V × V × V × V × V × V × V × V) => post r u.1 u.2.1 u.2.2.1 u.2.2.2.1 u.2.2.2.2.1 u.2.2.2.2.2.1 u.2.2.2.2.2.2.1 u.2.2.2.2.2.2.2.1 u.2.2.2.2.2.2.2.2.1 u.2.2.2.2.2.2.2.2.2.1 u.2.2.2.2.2.2.2.2.2.2) (fun (u : V × V × V × V × V × V × V × V × V × V × V) => (List.flatten [cG aG (a0 0) (a1 0) (a2 0) (a3 0) (aH 0) (aS 0) u.1, cM E a0 u.2.1, cM E a1 u.2.2.1, cM E a2 u.2.2.2.1, cM E a3 u.2.2.2.2.1, cH E aH (h0 0) (h1 0) (h2 0) (h3 0) u.2.2.2.2.2.1, cM E h0 u.2.2.2.2.2.2.1, cM E h1 u.2.2.2.2.2.2.2.1, cM E h2 u.2.2.2.2.2.2.2.2.1, cM E h3 u.2.2.2.2.2.2.2.2.2.1, cS E aS u.2.2.2.2.2.2.2.2.2.2])) := by
  unfold s_L_signs at h
  refine KI.go (cc := cL_signs) (ret := (some .boolean)) (maxL := 5) (own := RL) (by decide) rfl (Nat.le_of_ble_eq_true rfl) rfl (fun p e s m below meth c A ls C0 hw hl => ?_)
  have hx := C0.1
  have hb := C0.2.1
  replace hl : lv_has ls 5 [(0, .ref (aG 0)), (1, .int p1), (2, .int p2), (3, .int p3), (4, .int p4)] := hl
  refine lv_aload_n hx hb dL_signs_0 rfl (lv_at hl 0 rfl) ?_
  refine lv_iload_n hx hb dL_signs_1 rfl (lv_at hl 1 rfl) ?_
  refine x_cV (As := [.int p1]) (rest := []) (F := (List.flatten [cM E a0 v1, cM E a1 v2, cM E a2 v3, cM E a3 v4, cH E aH (h0 0) (h1 0) (h2 0) (h3 0) v5, cM E h0 v6, cM E h1 v7, cM E h2 v8, cM E h3 v9])) C0 hw (p_fl (ds := [cG aG (a0 0) (a1 0) (a2 0) (a3 0) (aH 0) (aS 0) v0, cS E aS v10]) ((p_pk _ 0 _ rfl).trans (List.Perm.cons _ ((p_pk _ 9 _ rfl).trans (List.Perm.cons _ (List.Perm.refl _)))))) hl.1 0 6 rfl rfl (c_X6_type l E aG a0 a1 a2 a3 aH h0 h1 h2 h3 aS h) 1 gL_signs_X6_type rfl ⟨rfl, rfl⟩ (by decide +kernel) ⟨Nat.le_of_ble_eq_true rfl, Nat.le_of_ble_eq_true rfl⟩ rfl rfl (Nat.le_of_ble_eq_true rfl) dL_signs_2 ⟨Nat.zero_le _, Nat.zero_le _⟩ (fun r_1 u_20 H locs h hw => ?_)
  obtain ⟨v_2, v_3⟩ := u_20
  replace hw : mw E A s.heap H locs (List.flatten [cG aG (a0 0) (a1 0) (a2 0) (a3 0) (aH 0) (aS 0) v_2, cM E a0 v1, cM E a1 v2, cM E a2 v3, cM E a3 v4, cH E aH (h0 0) (h1 0) (h2 0) (h3 0) v5, cM E h0 v6, cM E h1 v7, cM E h2 v8, cM E h3 v9, cS E aS v_3]) := hw.perm (p_bk (ds := [cG aG (a0 0) (a1 0) (a2 0) (a3 0) (aH 0) (aS 0) v_2, cS E aS v_3]) ((p_pk _ 0 _ rfl).trans (List.Perm.cons _ ((p_pk _ 9 _ rfl).trans (List.Perm.cons _ (List.Perm.refl _))))))
  refine lv_if_le (tgt := 37) hx hb dL_signs_5 (by decide) (fun c_19 => ?_) (fun c_19 => ?_)
  · replace h := h.1 c_19
    refine lv_iconst (v := 0) hx hb dL_signs_37 (by decide) ?_
    exact x_retz C0 rfl ⟨v_2, v1, v2, v3, v4, v5, v6, v7, v8, v9, v_3⟩ hw h dL_signs_38
  · replace h := h.2 c_19
    refine lv_aload_n hx hb dL_signs_8 rfl (lv_at hl 0 rfl) ?_
    refine lv_iload_n hx hb dL_signs_9 rfl (lv_at hl 2 rfl) ?_
    refine x_cV (As := [.int p2]) (rest := []) (F := (List.flatten [cM E a0 v1, cM E a1 v2, cM E a2 v3, cM E a3 v4, cH E aH (h0 0) (h1 0) (h2 0) (h3 0) v5, cM E h0 v6, cM E h1 v7, cM E h2 v8, cM E h3 v9])) C0 hw (p_fl (ds := [cG aG (a0 0) (a1 0) (a2 0) (a3 0) (aH 0) (aS 0) v_2, cS E aS v_3]) ((p_pk _ 0 _ rfl).trans (List.Perm.cons _ ((p_pk _ 9 _ rfl).trans (List.Perm.cons _ (List.Perm.refl _)))))) hl.1 0 6 rfl rfl (c_X6_type l E aG a0 a1 a2 a3 aH h0 h1 h2 h3 aS h) 1 gL_signs_X6_type rfl ⟨rfl, rfl⟩ (by decide +kernel) ⟨Nat.le_of_ble_eq_true rfl, Nat.le_of_ble_eq_true rfl⟩ rfl rfl (Nat.le_of_ble_eq_true rfl) dL_signs_10 ⟨Nat.zero_le _, Nat.zero_le _⟩ (fun r_4 u_18 H locs h hw => ?_)
    obtain ⟨v_5, v_6⟩ := u_18
    replace hw : mw E A s.heap H locs (List.flatten [cG aG (a0 0) (a1 0) (a2 0) (a3 0) (aH 0) (aS 0) v_5, cM E a0 v1, cM E a1 v2, cM E a2 v3, cM E a3 v4, cH E aH (h0 0) (h1 0) (h2 0) (h3 0) v5, cM E h0 v6, cM E h1 v7, cM E h2 v8, cM E h3 v9, cS E aS v_6]) := hw.perm (p_bk (ds := [cG aG (a0 0) (a1 0) (a2 0) (a3 0) (aH 0) (aS 0) v_5, cS E aS v_6]) ((p_pk _ 0 _ rfl).trans (List.Perm.cons _ ((p_pk _ 9 _ rfl).trans (List.Perm.cons _ (List.Perm.refl _))))))
    refine lv_if_le (tgt := 37) hx hb dL_signs_13 (by decide) (fun c_17 => ?_) (fun c_17 => ?_)
    · replace h := h.1 c_17
      refine lv_iconst (v := 0) hx hb dL_signs_37 (by decide) ?_
      exact x_retz C0 rfl ⟨v_5, v1, v2, v3, v4, v5, v6, v7, v8, v9, v_6⟩ hw h dL_signs_38
    · replace h := h.2 c_17
      refine lv_aload_n hx hb dL_signs_16 rfl (lv_at hl 0 rfl) ?_
      refine lv_iload_n hx hb dL_signs_17 rfl (lv_at hl 3 rfl) ?_
      refine x_cV (As := [.int p3]) (rest := []) (F := (List.flatten [cM E a0 v1, cM E a1 v2, cM E a2 v3, cM E a3 v4, cH E aH (h0 0) (h1 0) (h2 0) (h3 0) v5, cM E h0 v6, cM E h1 v7, cM E h2 v8, cM E h3 v9])) C0 hw (p_fl (ds := [cG aG (a0 0) (a1 0) (a2 0) (a3 0) (aH 0) (aS 0) v_5, cS E aS v_6]) ((p_pk _ 0 _ rfl).trans (List.Perm.cons _ ((p_pk _ 9 _ rfl).trans (List.Perm.cons _ (List.Perm.refl _)))))) hl.1 0 6 rfl rfl (c_X6_type l E aG a0 a1 a2 a3 aH h0 h1 h2 h3 aS h) 1 gL_signs_X6_type rfl ⟨rfl, rfl⟩ (by decide +kernel) ⟨Nat.le_of_ble_eq_true rfl, Nat.le_of_ble_eq_true rfl⟩ rfl rfl (Nat.le_of_ble_eq_true rfl) dL_signs_18 ⟨Nat.zero_le _, Nat.zero_le _⟩ (fun r_7 u_16 H locs h hw => ?_)
      obtain ⟨v_8, v_9⟩ := u_16
      replace hw : mw E A s.heap H locs (List.flatten [cG aG (a0 0) (a1 0) (a2 0) (a3 0) (aH 0) (aS 0) v_8, cM E a0 v1, cM E a1 v2, cM E a2 v3, cM E a3 v4, cH E aH (h0 0) (h1 0) (h2 0) (h3 0) v5, cM E h0 v6, cM E h1 v7, cM E h2 v8, cM E h3 v9, cS E aS v_9]) := hw.perm (p_bk (ds := [cG aG (a0 0) (a1 0) (a2 0) (a3 0) (aH 0) (aS 0) v_8, cS E aS v_9]) ((p_pk _ 0 _ rfl).trans (List.Perm.cons _ ((p_pk _ 9 _ rfl).trans (List.Perm.cons _ (List.Perm.refl _))))))
      refine lv_if_le (tgt := 37) hx hb dL_signs_21 (by decide) (fun c_15 => ?_) (fun c_15 => ?_)
      · replace h := h.1 c_15
        refine lv_iconst (v := 0) hx hb dL_signs_37 (by decide) ?_
        exact x_retz C0 rfl ⟨v_8, v1, v2, v3, v4, v5, v6, v7, v8, v9, v_9⟩ hw h dL_signs_38
      · replace h := h.2 c_15
        refine lv_aload_n hx hb dL_signs_24 rfl (lv_at hl 0 rfl) ?_
        refine lv_iload hx hb dL_signs_25 (lv_at hl 4 rfl) ?_
        refine x_cV (As := [.int p4]) (rest := []) (F := (List.flatten [cM E a0 v1, cM E a1 v2, cM E a2 v3, cM E a3 v4, cH E aH (h0 0) (h1 0) (h2 0) (h3 0) v5, cM E h0 v6, cM E h1 v7, cM E h2 v8, cM E h3 v9])) C0 hw (p_fl (ds := [cG aG (a0 0) (a1 0) (a2 0) (a3 0) (aH 0) (aS 0) v_8, cS E aS v_9]) ((p_pk _ 0 _ rfl).trans (List.Perm.cons _ ((p_pk _ 9 _ rfl).trans (List.Perm.cons _ (List.Perm.refl _)))))) hl.1 0 6 rfl rfl (c_X6_type l E aG a0 a1 a2 a3 aH h0 h1 h2 h3 aS h) 1 gL_signs_X6_type rfl ⟨rfl, rfl⟩ (by decide +kernel) ⟨Nat.le_of_ble_eq_true rfl, Nat.le_of_ble_eq_true rfl⟩ rfl rfl (Nat.le_of_ble_eq_true rfl) dL_signs_27 ⟨Nat.zero_le _, Nat.zero_le _⟩ (fun r_10 u_14 H locs h hw => ?_)
        obtain ⟨v_11, v_12⟩ := u_14
        replace hw : mw E A s.heap H locs (List.flatten [cG aG (a0 0) (a1 0) (a2 0) (a3 0) (aH 0) (aS 0) v_11, cM E a0 v1, cM E a1 v2, cM E a2 v3, cM E a3 v4, cH E aH (h0 0) (h1 0) (h2 0) (h3 0) v5, cM E h0 v6, cM E h1 v7, cM E h2 v8, cM E h3 v9, cS E aS v_12]) := hw.perm (p_bk (ds := [cG aG (a0 0) (a1 0) (a2 0) (a3 0) (aH 0) (aS 0) v_11, cS E aS v_12]) ((p_pk _ 0 _ rfl).trans (List.Perm.cons _ ((p_pk _ 9 _ rfl).trans (List.Perm.cons _ (List.Perm.refl _))))))
        refine lv_if_le (tgt := 37) hx hb dL_signs_30 (by decide) (fun c_13 => ?_) (fun c_13 => ?_)
        · replace h := h.1 c_13
          refine lv_iconst (v := 0) hx hb dL_signs_37 (by decide) ?_
          exact x_retz C0 rfl ⟨v_11, v1, v2, v3, v4, v5, v6, v7, v8, v9, v_12⟩ hw h dL_signs_38
        · replace h := h.2 c_13
          refine lv_iconst (v := 1) hx hb dL_signs_33 (by decide) ?_
          refine lv_goto (tgt := 38) hx hb dL_signs_34 (by decide) ?_
          exact x_retz C0 rfl ⟨v_11, v1, v2, v3, v4, v5, v6, v7, v8, v9, v_12⟩ hw h dL_signs_38
