abbrev rmL_digits : Room := { frames := 2, cells := 0, slots := 0, locals := 42 }
set_option maxRecDepth 100000 in
set_option maxHeartbeats 4000000 in
theorem j_L_digits_73 {p : Program} {l : Launch} {e : Env} {s : State} {m : MethodId} {below : List Frame} {meth : Method} {c : Code} {E : EE} {A : Nat → Prop} {aG : Nat → Nat} {a0 : Nat → Nat} {a1 : Nat → Nat} {a2 : Nat → Nat} {a3 : Nat → Nat} {aH : Nat → Nat} {h0 : Nat → Nat} {h1 : Nat → Nat} {h2 : Nat → Nat} {h3 : Nat → Nat} {aS : Nat → Nat} {args : Array Value} (C0 : Cx E p s m args meth c A cL_digits 3 RL wsL_digits (some .boolean)) {post : Int32 → V → V → V → V → V → V → V → V → V → V → V → Prop}  : ∀ (x1 : Int32) (q0 : Int32) (v0 : V) (v1 : V) (v2 : V) (v3 : V) (v4 : V) (v5 : V) (v6 : V) (v7 : V) (v8 : V) (v9 : V) (v10 : V), sj_L_digits_73 post  x1 q0 v0 v1 v2 v3 v4 v5 v6 v7 v8 v9 v10 → ∀ (H : Heap) (locs : List Loc) (ls : Array Slot), mw E A s.heap H locs (List.flatten [cG aG (a0 0) (a1 0) (a2 0) (a3 0) (aH 0) (aS 0) v0, cM E a0 v1, cM E a1 v2, cM E a2 v3, cM E a3 v4, cH E aH (h0 0) (h1 0) (h2 0) (h3 0) v5, cM E h0 v6, cM E h1 v7, cM E h2 v8, cM E h3 v9, cS E aS v10]) → lv_has ls 3 [(0, .ref (aG 0)), (1, .int x1)] → W p l e rmL_digits s m args below meth c H locs 0 0 (qI E A (fun r (u : V × V × V × V × V × V × V × V × V × V × V) => post r u.1 u.2.1 u.2.2.1 u.2.2.2.1 u.2.2.2.2.1 u.2.2.2.2.2.1 u.2.2.2.2.2.2.1 u.2.2.2.2.2.2.2.1 u.2.2.2.2.2.2.2.2.1 u.2.2.2.2.2.2.2.2.2.1 u.2.2.2.2.2.2.2.2.2.2) (fun (u : V × V × V × V × V × V × V × V × V × V × V) => (List.flatten [cG aG (a0 0) (a1 0) (a2 0) (a3 0) (aH 0) (aS 0) u.1, cM E a0 u.2.1, cM E a1 u.2.2.1, cM E a2 u.2.2.2.1, cM E a3 u.2.2.2.2.1, cH E aH (h0 0) (h1 0) (h2 0) (h3 0) u.2.2.2.2.2.1, cM E h0 u.2.2.2.2.2.2.1, cM E h1 u.2.2.2.2.2.2.2.1, cM E h2 u.2.2.2.2.2.2.2.2.1, cM E h3 u.2.2.2.2.2.2.2.2.2.1, cS E aS u.2.2.2.2.2.2.2.2.2.2])) below args s) (F0 m 73 ls [.int q0]) := by
  have hx := C0.1
  have hb := C0.2.1
  intro x1 q0 v0 v1 v2 v3 v4 v5 v6 v7 v8 v9 v10 h H locs ls hw hl
  unfold sj_L_digits_73 at h
  refine lv_istore_n (lv' := [(2, .int q0), (0, .ref (aG 0)), (1, .int x1)]) hx hb dL_digits_73 rfl hl (by decide) rfl (fun ls hl => ?_)
  refine lv_iload_n hx hb dL_digits_74 rfl (lv_at hl 0 rfl) ?_
  refine lv_if_eq (tgt := 96) hx hb dL_digits_75 (by decide) (fun c_6 => ?_) (fun c_6 => ?_)
  · replace h := h.1 c_6
    refine lv_iconst (v := 0) hx hb dL_digits_96 (by decide) ?_
    exact x_retz C0 rfl ⟨v0, v1, v2, v3, v4, v5, v6, v7, v8, v9, v10⟩ hw h dL_digits_97
  · replace h := h.2 c_6
    refine lv_aload_n hx hb dL_digits_78 rfl (lv_at hl 1 rfl) ?_
    refine lv_bipush (v := 48) hx hb dL_digits_79 (by decide) ?_
    refine lv_iload_n hx hb dL_digits_81 rfl (lv_at hl 2 rfl) ?_
    refine lv_bipush (v := 10) hx hb dL_digits_82 (by decide) ?_
    refine lv_irem hx hb dL_digits_84 (by decide) ?_
    refine lv_iadd hx hb dL_digits_85 ?_
    refine x_cV (As := [.int (48 + (x1 - x1 / 10 * 10))]) (rest := []) (F := (List.flatten [cM E a0 v1, cM E a1 v2, cM E a2 v3, cM E a3 v4, cH E aH (h0 0) (h1 0) (h2 0) (h3 0) v5, cM E h0 v6, cM E h1 v7, cM E h2 v8, cM E h3 v9])) C0 hw (p_fl (ds := [cG aG (a0 0) (a1 0) (a2 0) (a3 0) (aH 0) (aS 0) v0, cS E aS v10]) ((p_pk _ 0 _ rfl).trans (List.Perm.cons _ ((p_pk _ 9 _ rfl).trans (List.Perm.cons _ (List.Perm.refl _)))))) hl.1 0 6 rfl rfl (c_X6_type l E aG a0 a1 a2 a3 aH h0 h1 h2 h3 aS h) 1 gL_digits_X6_type rfl ⟨rfl, rfl⟩ (by decide +kernel) ⟨Nat.le_of_ble_eq_true rfl, Nat.le_of_ble_eq_true rfl⟩ rfl rfl (Nat.le_of_ble_eq_true rfl) dL_digits_86 ⟨Nat.zero_le _, Nat.zero_le _⟩ (fun r_1 u_5 H locs h hw => ?_)
    obtain ⟨v_2, v_3⟩ := u_5
    replace hw : mw E A s.heap H locs (List.flatten [cG aG (a0 0) (a1 0) (a2 0) (a3 0) (aH 0) (aS 0) v_2, cM E a0 v1, cM E a1 v2, cM E a2 v3, cM E a3 v4, cH E aH (h0 0) (h1 0) (h2 0) (h3 0) v5, cM E h0 v6, cM E h1 v7, cM E h2 v8, cM E h3 v9, cS E aS v_3]) := hw.perm (p_bk (ds := [cG aG (a0 0) (a1 0) (a2 0) (a3 0) (aH 0) (aS 0) v_2, cS E aS v_3]) ((p_pk _ 0 _ rfl).trans (List.Perm.cons _ ((p_pk _ 9 _ rfl).trans (List.Perm.cons _ (List.Perm.refl _))))))
    refine lv_if_le (tgt := 96) hx hb dL_digits_89 (by decide) (fun c_4 => ?_) (fun c_4 => ?_)
    · replace h := h.1 c_4
      refine lv_iconst (v := 0) hx hb dL_digits_96 (by decide) ?_
      exact x_retz C0 rfl ⟨v_2, v1, v2, v3, v4, v5, v6, v7, v8, v9, v_3⟩ hw h dL_digits_97
    · replace h := h.2 c_4
      refine lv_iconst (v := 1) hx hb dL_digits_92 (by decide) ?_
      refine lv_goto (tgt := 97) hx hb dL_digits_93 (by decide) ?_
      exact x_retz C0 rfl ⟨v_2, v1, v2, v3, v4, v5, v6, v7, v8, v9, v_3⟩ hw h dL_digits_97
set_option maxRecDepth 100000 in
set_option maxHeartbeats 4000000 in
theorem j_L_digits_45 {p : Program} {l : Launch} {e : Env} {s : State} {m : MethodId} {below : List Frame} {meth : Method} {c : Code} {E : EE} {A : Nat → Prop} {aG : Nat → Nat} {a0 : Nat → Nat} {a1 : Nat → Nat} {a2 : Nat → Nat} {a3 : Nat → Nat} {aH : Nat → Nat} {h0 : Nat → Nat} {h1 : Nat → Nat} {h2 : Nat → Nat} {h3 : Nat → Nat} {aS : Nat → Nat} {args : Array Value} (C0 : Cx E p s m args meth c A cL_digits 3 RL wsL_digits (some .boolean)) {post : Int32 → V → V → V → V → V → V → V → V → V → V → V → Prop}  : ∀ (x1 : Int32) (v0 : V) (v1 : V) (v2 : V) (v3 : V) (v4 : V) (v5 : V) (v6 : V) (v7 : V) (v8 : V) (v9 : V) (v10 : V), sj_L_digits_45 post  x1 v0 v1 v2 v3 v4 v5 v6 v7 v8 v9 v10 → ∀ (H : Heap) (locs : List Loc) (ls : Array Slot), mw E A s.heap H locs (List.flatten [cG aG (a0 0) (a1 0) (a2 0) (a3 0) (aH 0) (aS 0) v0, cM E a0 v1, cM E a1 v2, cM E a2 v3, cM E a3 v4, cH E aH (h0 0) (h1 0) (h2 0) (h3 0) v5, cM E h0 v6, cM E h1 v7, cM E h2 v8, cM E h3 v9, cS E aS v10]) → lv_has ls 3 [(0, .ref (aG 0)), (1, .int x1)] → W p l e rmL_digits s m args below meth c H locs 0 0 (qI E A (fun r (u : V × V × V × V × V × V × V × V × V × V × V) => post r u.1 u.2.1 u.2.2.1 u.2.2.2.1 u.2.2.2.2.1 u.2.2.2.2.2.1 u.2.2.2.2.2.2.1 u.2.2.2.2.2.2.2.1 u.2.2.2.2.2.2.2.2.1 u.2.2.2.2.2.2.2.2.2.1 u.2.2.2.2.2.2.2.2.2.2) (fun (u : V × V × V × V × V × V × V × V × V × V × V) => (List.flatten [cG aG (a0 0) (a1 0) (a2 0) (a3 0) (aH 0) (aS 0) u.1, cM E a0 u.2.1, cM E a1 u.2.2.1, cM E a2 u.2.2.2.1, cM E a3 u.2.2.2.2.1, cH E aH (h0 0) (h1 0) (h2 0) (h3 0) u.2.2.2.2.2.1, cM E h0 u.2.2.2.2.2.2.1, cM E h1 u.2.2.2.2.2.2.2.1, cM E h2 u.2.2.2.2.2.2.2.2.1, cM E h3 u.2.2.2.2.2.2.2.2.2.1, cS E aS u.2.2.2.2.2.2.2.2.2.2])) below args s) (F0 m 45 ls []) := by
  have hx := C0.1
  have hb := C0.2.1
  intro x1 v0 v1 v2 v3 v4 v5 v6 v7 v8 v9 v10 h H locs ls hw hl
  unfold sj_L_digits_45 at h
  refine lv_iload_n hx hb dL_digits_45 rfl (lv_at hl 1 rfl) ?_
  refine lv_bipush (v := 10) hx hb dL_digits_46 (by decide) ?_
  refine lv_icmp_lt (tgt := 68) hx hb dL_digits_48 (by decide) (fun c_12 => ?_) (fun c_12 => ?_)
  · replace h := h.1 c_12
    refine lv_iconst (v := 1) hx hb dL_digits_68 (by decide) ?_
    refine lv_goto (tgt := 73) hx hb dL_digits_69 (by decide) ?_
    exact j_L_digits_73 C0 _ _ _ _ _ _ _ _ _ _ _ _ _ h _ _ _ hw (lv_sub hl [0, 1] rfl)
  · replace h := h.2 c_12
    refine lv_aload_n hx hb dL_digits_51 rfl (lv_at hl 0 rfl) ?_
    refine lv_bipush (v := 48) hx hb dL_digits_52 (by decide) ?_
    refine lv_iload_n hx hb dL_digits_54 rfl (lv_at hl 1 rfl) ?_
    refine lv_bipush (v := 10) hx hb dL_digits_55 (by decide) ?_
    refine lv_idiv hx hb dL_digits_57 (by decide) ?_
    refine lv_bipush (v := 10) hx hb dL_digits_58 (by decide) ?_
    refine lv_irem hx hb dL_digits_60 (by decide) ?_
    refine lv_iadd hx hb dL_digits_61 ?_
    refine x_cV (As := [.int (48 + ((x1 / 10) - (x1 / 10) / 10 * 10))]) (rest := []) (F := (List.flatten [cM E a0 v1, cM E a1 v2, cM E a2 v3, cM E a3 v4, cH E aH (h0 0) (h1 0) (h2 0) (h3 0) v5, cM E h0 v6, cM E h1 v7, cM E h2 v8, cM E h3 v9])) C0 hw (p_fl (ds := [cG aG (a0 0) (a1 0) (a2 0) (a3 0) (aH 0) (aS 0) v0, cS E aS v10]) ((p_pk _ 0 _ rfl).trans (List.Perm.cons _ ((p_pk _ 9 _ rfl).trans (List.Perm.cons _ (List.Perm.refl _)))))) hl.1 0 6 rfl rfl (c_X6_type l E aG a0 a1 a2 a3 aH h0 h1 h2 h3 aS h) 1 gL_digits_X6_type rfl ⟨rfl, rfl⟩ (by decide +kernel) ⟨Nat.le_of_ble_eq_true rfl, Nat.le_of_ble_eq_true rfl⟩ rfl rfl (Nat.le_of_ble_eq_true rfl) dL_digits_62 ⟨Nat.zero_le _, Nat.zero_le _⟩ (fun r_7 u_11 H locs h hw => ?_)
    obtain ⟨v_8, v_9⟩ := u_11
    replace hw : mw E A s.heap H locs (List.flatten [cG aG (a0 0) (a1 0) (a2 0) (a3 0) (aH 0) (aS 0) v_8, cM E a0 v1, cM E a1 v2, cM E a2 v3, cM E a3 v4, cH E aH (h0 0) (h1 0) (h2 0) (h3 0) v5, cM E h0 v6, cM E h1 v7, cM E h2 v8, cM E h3 v9, cS E aS v_9]) := hw.perm (p_bk (ds := [cG aG (a0 0) (a1 0) (a2 0) (a3 0) (aH 0) (aS 0) v_8, cS E aS v_9]) ((p_pk _ 0 _ rfl).trans (List.Perm.cons _ ((p_pk _ 9 _ rfl).trans (List.Perm.cons _ (List.Perm.refl _))))))
    refine lv_if_le (tgt := 72) hx hb dL_digits_65 (by decide) (fun c_10 => ?_) (fun c_10 => ?_)
    · replace h := h.1 c_10
      refine lv_iconst (v := 0) hx hb dL_digits_72 (by decide) ?_
      exact j_L_digits_73 C0 _ _ _ _ _ _ _ _ _ _ _ _ _ h _ _ _ hw (lv_sub hl [0, 1] rfl)
    · replace h := h.2 c_10
      refine lv_iconst (v := 1) hx hb dL_digits_68 (by decide) ?_
      refine lv_goto (tgt := 73) hx hb dL_digits_69 (by decide) ?_
      exact j_L_digits_73 C0 _ _ _ _ _ _ _ _ _ _ _ _ _ h _ _ _ hw (lv_sub hl [0, 1] rfl)
set_option maxRecDepth 100000 in
set_option maxHeartbeats 4000000 in
theorem j_L_digits_22 {p : Program} {l : Launch} {e : Env} {s : State} {m : MethodId} {below : List Frame} {meth : Method} {c : Code} {E : EE} {A : Nat → Prop} {aG : Nat → Nat} {a0 : Nat → Nat} {a1 : Nat → Nat} {a2 : Nat → Nat} {a3 : Nat → Nat} {aH : Nat → Nat} {h0 : Nat → Nat} {h1 : Nat → Nat} {h2 : Nat → Nat} {h3 : Nat → Nat} {aS : Nat → Nat} {args : Array Value} (C0 : Cx E p s m args meth c A cL_digits 3 RL wsL_digits (some .boolean)) {post : Int32 → V → V → V → V → V → V → V → V → V → V → V → Prop}  : ∀ (x1 : Int32) (v0 : V) (v1 : V) (v2 : V) (v3 : V) (v4 : V) (v5 : V) (v6 : V) (v7 : V) (v8 : V) (v9 : V) (v10 : V), sj_L_digits_22 post  x1 v0 v1 v2 v3 v4 v5 v6 v7 v8 v9 v10 → ∀ (H : Heap) (locs : List Loc) (ls : Array Slot), mw E A s.heap H locs (List.flatten [cG aG (a0 0) (a1 0) (a2 0) (a3 0) (aH 0) (aS 0) v0, cM E a0 v1, cM E a1 v2, cM E a2 v3, cM E a3 v4, cH E aH (h0 0) (h1 0) (h2 0) (h3 0) v5, cM E h0 v6, cM E h1 v7, cM E h2 v8, cM E h3 v9, cS E aS v10]) → lv_has ls 3 [(0, .ref (aG 0)), (1, .int x1)] → W p l e rmL_digits s m args below meth c H locs 0 0 (qI E A (fun r (u : V × V × V × V × V × V × V × V × V × V × V) => post r u.1 u.2.1 u.2.2.1 u.2.2.2.1 u.2.2.2.2.1 u.2.2.2.2.2.1 u.2.2.2.2.2.2.1 u.2.2.2.2.2.2.2.1 u.2.2.2.2.2.2.2.2.1 u.2.2.2.2.2.2.2.2.2.1 u.2.2.2.2.2.2.2.2.2.2) (fun (u : V × V × V × V × V × V × V × V × V × V × V) => (List.flatten [cG aG (a0 0) (a1 0) (a2 0) (a3 0) (aH 0) (aS 0) u.1, cM E a0 u.2.1, cM E a1 u.2.2.1, cM E a2 u.2.2.2.1, cM E a3 u.2.2.2.2.1, cH E aH (h0 0) (h1 0) (h2 0) (h3 0) u.2.2.2.2.2.1, cM E h0 u.2.2.2.2.2.2.1, cM E h1 u.2.2.2.2.2.2.2.1, cM E h2 u.2.2.2.2.2.2.2.2.1, cM E h3 u.2.2.2.2.2.2.2.2.2.1, cS E aS u.2.2.2.2.2.2.2.2.2.2])) below args s) (F0 m 22 ls []) := by
  have hx := C0.1
  have hb := C0.2.1
  intro x1 v0 v1 v2 v3 v4 v5 v6 v7 v8 v9 v10 h H locs ls hw hl
  unfold sj_L_digits_22 at h
  refine lv_iload_n hx hb dL_digits_22 rfl (lv_at hl 1 rfl) ?_
  refine lv_bipush (v := 100) hx hb dL_digits_23 (by decide) ?_
  refine lv_icmp_lt (tgt := 45) hx hb dL_digits_25 (by decide) (fun c_18 => ?_) (fun c_18 => ?_)
  · replace h := h.1 c_18
    exact j_L_digits_45 C0 _ _ _ _ _ _ _ _ _ _ _ _ h _ _ _ hw (lv_sub hl [0, 1] rfl)
  · replace h := h.2 c_18
    refine lv_aload_n hx hb dL_digits_28 rfl (lv_at hl 0 rfl) ?_
    refine lv_bipush (v := 48) hx hb dL_digits_29 (by decide) ?_
    refine lv_iload_n hx hb dL_digits_31 rfl (lv_at hl 1 rfl) ?_
    refine lv_bipush (v := 100) hx hb dL_digits_32 (by decide) ?_
    refine lv_idiv hx hb dL_digits_34 (by decide) ?_
    refine lv_bipush (v := 10) hx hb dL_digits_35 (by decide) ?_
    refine lv_irem hx hb dL_digits_37 (by decide) ?_
    refine lv_iadd hx hb dL_digits_38 ?_
    refine x_cV (As := [.int (48 + ((x1 / 100) - (x1 / 100) / 10 * 10))]) (rest := []) (F := (List.flatten [cM E a0 v1, cM E a1 v2, cM E a2 v3, cM E a3 v4, cH E aH (h0 0) (h1 0) (h2 0) (h3 0) v5, cM E h0 v6, cM E h1 v7, cM E h2 v8, cM E h3 v9])) C0 hw (p_fl (ds := [cG aG (a0 0) (a1 0) (a2 0) (a3 0) (aH 0) (aS 0) v0, cS E aS v10]) ((p_pk _ 0 _ rfl).trans (List.Perm.cons _ ((p_pk _ 9 _ rfl).trans (List.Perm.cons _ (List.Perm.refl _)))))) hl.1 0 6 rfl rfl (c_X6_type l E aG a0 a1 a2 a3 aH h0 h1 h2 h3 aS h) 1 gL_digits_X6_type rfl ⟨rfl, rfl⟩ (by decide +kernel) ⟨Nat.le_of_ble_eq_true rfl, Nat.le_of_ble_eq_true rfl⟩ rfl rfl (Nat.le_of_ble_eq_true rfl) dL_digits_39 ⟨Nat.zero_le _, Nat.zero_le _⟩ (fun r_13 u_17 H locs h hw => ?_)
    obtain ⟨v_14, v_15⟩ := u_17
    replace hw : mw E A s.heap H locs (List.flatten [cG aG (a0 0) (a1 0) (a2 0) (a3 0) (aH 0) (aS 0) v_14, cM E a0 v1, cM E a1 v2, cM E a2 v3, cM E a3 v4, cH E aH (h0 0) (h1 0) (h2 0) (h3 0) v5, cM E h0 v6, cM E h1 v7, cM E h2 v8, cM E h3 v9, cS E aS v_15]) := hw.perm (p_bk (ds := [cG aG (a0 0) (a1 0) (a2 0) (a3 0) (aH 0) (aS 0) v_14, cS E aS v_15]) ((p_pk _ 0 _ rfl).trans (List.Perm.cons _ ((p_pk _ 9 _ rfl).trans (List.Perm.cons _ (List.Perm.refl _))))))
    refine lv_if_le (tgt := 72) hx hb dL_digits_42 (by decide) (fun c_16 => ?_) (fun c_16 => ?_)
    · replace h := h.1 c_16
      refine lv_iconst (v := 0) hx hb dL_digits_72 (by decide) ?_
      exact j_L_digits_73 C0 _ _ _ _ _ _ _ _ _ _ _ _ _ h _ _ _ hw (lv_sub hl [0, 1] rfl)
    · replace h := h.2 c_16
      exact j_L_digits_45 C0 _ _ _ _ _ _ _ _ _ _ _ _ h _ _ _ hw (lv_sub hl [0, 1] rfl)
set_option maxRecDepth 100000 in
set_option maxHeartbeats 4000000 in
theorem c_L_digits (l : Launch) (E : EE) (aG : Nat → Nat) (a0 : Nat → Nat) (a1 : Nat → Nat) (a2 : Nat → Nat) (a3 : Nat → Nat) (aH : Nat → Nat) (h0 : Nat → Nat) (h1 : Nat → Nat) (h2 : Nat → Nat) (h3 : Nat → Nat) (aS : Nat → Nat) {v0 : V} {v1 : V} {v2 : V} {v3 : V} {v4 : V} {v5 : V} {v6 : V} {v7 : V} {v8 : V} {v9 : V} {v10 : V} {p1 : Int32} {post : Int32 → V → V → V → V → V → V → V → V → V → V → V → Prop} (h : s_L_digits v0 v1 v2 v3 v4 v5 v6 v7 v8 v9 v10 p1 post) : KI l E yL_digits wsL_digits rmL_digits [.ref (aG 0), .int p1] (List.flatten [cG aG (a0 0) (a1 0) (a2 0) (a3 0) (aH 0) (aS 0) v0, cM E a0 v1, cM E a1 v2, cM E a2 v3, cM E a3 v4, cH E aH (h0 0) (h1 0) (h2 0) (h3 0) v5, cM E h0 v6, cM E h1 v7, cM E h2 v8, cM E h3 v9, cS E aS v10]) (S := V × V × V × V × V × V × V × V × V × V × V) (fun r (u : V × V × V × V × V × V × V × V × V × V × V) => post r u.1 u.2.1 u.2.2.1 u.2.2.2.1 u.2.2.2.2.1 u.2.2.2.2.2.1 u.2.2.2.2.2.2.1 u.2.2.2.2.2.2.2.1 u.2.2.2.2.2.2.2.2.1 u.2.2.2.2.2.2.2.2.2.1 u.2.2.2.2.2.2.2.2.2.2) (fun (u : V × V × V × V × V × V × V × V × V × V × V) => (List.flatten [cG aG (a0 0) (a1 0) (a2 0) (a3 0) (aH 0) (aS 0) u.1, cM E a0 u.2.1, cM E a1 u.2.2.1, cM E a2 u.2.2.2.1, cM E a3 u.2.2.2.2.1, cH E aH (h0 0) (h1 0) (h2 0) (h3 0) u.2.2.2.2.2.1, cM E h0 u.2.2.2.2.2.2.1, cM E h1 u.2.2.2.2.2.2.2.1, cM E h2 u.2.2.2.2.2.2.2.2.1, cM E h3 u.2.2.2.2.2.2.2.2.2.1, cS E aS u.2.2.2.2.2.2.2.2.2.2])) := by
  unfold s_L_digits at h
  refine KI.go (cc := cL_digits) (ret := (some .boolean)) (maxL := 3) (own := RL) (by decide) rfl (Nat.le_of_ble_eq_true rfl) rfl (fun p e s m below meth c A ls C0 hw hl => ?_)
  have hx := C0.1
  have hb := C0.2.1
  replace hl : lv_has ls 3 [(0, .ref (aG 0)), (1, .int p1)] := hl
  refine lv_iload_n hx hb dL_digits_0 rfl (lv_at hl 1 rfl) ?_
  refine lv_sipush (v := 1000) hx hb dL_digits_1 (by decide) ?_
  refine lv_icmp_lt (tgt := 22) hx hb dL_digits_4 (by decide) (fun c_24 => ?_) (fun c_24 => ?_)
  · replace h := h.1 c_24
    exact j_L_digits_22 C0 _ _ _ _ _ _ _ _ _ _ _ _ h _ _ _ hw (lv_sub hl [0, 1] rfl)
  · replace h := h.2 c_24
    refine lv_aload_n hx hb dL_digits_7 rfl (lv_at hl 0 rfl) ?_
    refine lv_bipush (v := 48) hx hb dL_digits_8 (by decide) ?_
    refine lv_iload_n hx hb dL_digits_10 rfl (lv_at hl 1 rfl) ?_
    refine lv_sipush (v := 1000) hx hb dL_digits_11 (by decide) ?_
    refine lv_idiv hx hb dL_digits_14 (by decide) ?_
    refine lv_iadd hx hb dL_digits_15 ?_
    refine x_cV (As := [.int (48 + (p1 / 1000))]) (rest := []) (F := (List.flatten [cM E a0 v1, cM E a1 v2, cM E a2 v3, cM E a3 v4, cH E aH (h0 0) (h1 0) (h2 0) (h3 0) v5, cM E h0 v6, cM E h1 v7, cM E h2 v8, cM E h3 v9])) C0 hw (p_fl (ds := [cG aG (a0 0) (a1 0) (a2 0) (a3 0) (aH 0) (aS 0) v0, cS E aS v10]) ((p_pk _ 0 _ rfl).trans (List.Perm.cons _ ((p_pk _ 9 _ rfl).trans (List.Perm.cons _ (List.Perm.refl _)))))) hl.1 0 6 rfl rfl (c_X6_type l E aG a0 a1 a2 a3 aH h0 h1 h2 h3 aS h) 1 gL_digits_X6_type rfl ⟨rfl, rfl⟩ (by decide +kernel) ⟨Nat.le_of_ble_eq_true rfl, Nat.le_of_ble_eq_true rfl⟩ rfl rfl (Nat.le_of_ble_eq_true rfl) dL_digits_16 ⟨Nat.zero_le _, Nat.zero_le _⟩ (fun r_19 u_23 H locs h hw => ?_)
    obtain ⟨v_20, v_21⟩ := u_23
    replace hw : mw E A s.heap H locs (List.flatten [cG aG (a0 0) (a1 0) (a2 0) (a3 0) (aH 0) (aS 0) v_20, cM E a0 v1, cM E a1 v2, cM E a2 v3, cM E a3 v4, cH E aH (h0 0) (h1 0) (h2 0) (h3 0) v5, cM E h0 v6, cM E h1 v7, cM E h2 v8, cM E h3 v9, cS E aS v_21]) := hw.perm (p_bk (ds := [cG aG (a0 0) (a1 0) (a2 0) (a3 0) (aH 0) (aS 0) v_20, cS E aS v_21]) ((p_pk _ 0 _ rfl).trans (List.Perm.cons _ ((p_pk _ 9 _ rfl).trans (List.Perm.cons _ (List.Perm.refl _))))))
    refine lv_if_le (tgt := 72) hx hb dL_digits_19 (by decide) (fun c_22 => ?_) (fun c_22 => ?_)
    · replace h := h.1 c_22
      refine lv_iconst (v := 0) hx hb dL_digits_72 (by decide) ?_
      exact j_L_digits_73 C0 _ _ _ _ _ _ _ _ _ _ _ _ _ h _ _ _ hw (lv_sub hl [0, 1] rfl)
    · replace h := h.2 c_22
      exact j_L_digits_22 C0 _ _ _ _ _ _ _ _ _ _ _ _ h _ _ _ hw (lv_sub hl [0, 1] rfl)
