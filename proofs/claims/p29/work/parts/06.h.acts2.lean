set_option maxRecDepth 100000 in
set_option maxHeartbeats 4000000 in
theorem j_L_acts_81 {p : Program} {l : Launch} {e : Env} {s : State} {m : MethodId} {below : List Frame} {meth : Method} {c : Code} {E : EE} {A : Nat → Prop} {aG : Nat → Nat} {a0 : Nat → Nat} {a1 : Nat → Nat} {a2 : Nat → Nat} {a3 : Nat → Nat} {aH : Nat → Nat} {h0 : Nat → Nat} {h1 : Nat → Nat} {h2 : Nat → Nat} {h3 : Nat → Nat} {aS : Nat → Nat} {args : Array Value} (C0 : Cx E p s m args meth c A cL_acts 17 RL wsL_acts (some .boolean)) {post : Int32 → V → V → V → V → V → V → V → V → V → V → V → Prop}  : ∀ (x2 : Int32) (x3 : Int32) (x4 : Int32) (x5 : Int32) (x6 : Int32) (x7 : Int32) (x8 : Int32) (q0 : Int32) (v0 : V) (v1 : V) (v2 : V) (v3 : V) (v4 : V) (v5 : V) (v6 : V) (v7 : V) (v8 : V) (v9 : V) (v10 : V), sj_L_acts_81 post  x2 x3 x4 x5 x6 x7 x8 q0 v0 v1 v2 v3 v4 v5 v6 v7 v8 v9 v10 → ∀ (H : Heap) (locs : List Loc) (ls : Array Slot), mw E A s.heap H locs (List.flatten [cG aG (a0 0) (a1 0) (a2 0) (a3 0) (aH 0) (aS 0) v0, cM E a0 v1, cM E a1 v2, cM E a2 v3, cM E a3 v4, cH E aH (h0 0) (h1 0) (h2 0) (h3 0) v5, cM E h0 v6, cM E h1 v7, cM E h2 v8, cM E h3 v9, cS E aS v10]) → lv_has ls 17 [(0, .ref (aG 0)), (2, .int x2), (3, .int x3), (4, .int x4), (5, .int x5), (6, .int x6), (7, .int x7), (8, .int x8)] → W p l e rmL_acts s m args below meth c H locs 0 0 (qI E A (fun r (u : V × V × V × V × V × V × V × V × V × V × V) => post r u.1 u.2.1 u.2.2.1 u.2.2.2.1 u.2.2.2.2.1 u.2.2.2.2.2.1 u.2.2.2.2.2.2.1 u.2.2.2.2.2.2.2.1 u.2.2.2.2.2.2.2.2.1 u.2.2.2.2.2.2.2.2.2.1 u.2.2.2.2.2.2.2.2.2.2) (fun (u : V × V × V × V × V × V × V × V × V × V × V) => (List.flatten [cG aG (a0 0) (a1 0) (a2 0) (a3 0) (aH 0) (aS 0) u.1, cM E a0 u.2.1, cM E a1 u.2.2.1, cM E a2 u.2.2.2.1, cM E a3 u.2.2.2.2.1, cH E aH (h0 0) (h1 0) (h2 0) (h3 0) u.2.2.2.2.2.1, cM E h0 u.2.2.2.2.2.2.1, cM E h1 u.2.2.2.2.2.2.2.1, cM E h2 u.2.2.2.2.2.2.2.2.1, cM E h3 u.2.2.2.2.2.2.2.2.2.1, cS E aS u.2.2.2.2.2.2.2.2.2.2])) below args s) (F0 m 81 ls [.int q0]) := by
  have hx := C0.1
  have hb := C0.2.1
  intro x2 x3 x4 x5 x6 x7 x8 q0 v0 v1 v2 v3 v4 v5 v6 v7 v8 v9 v10 h H locs ls hw hl
  unfold sj_L_acts_81 at h
  refine lv_istore (lv' := [(9, .int q0), (0, .ref (aG 0)), (2, .int x2), (3, .int x3), (4, .int x4), (5, .int x5), (6, .int x6), (7, .int x7), (8, .int x8)]) hx hb dL_acts_81 hl (by decide) rfl (fun ls hl => ?_)
  refine lv_iload hx hb dL_acts_83 (lv_at hl 8 rfl) ?_
  refine lv_if_eq (tgt := 103) hx hb dL_acts_85 (by decide) (fun c_420 => ?_) (fun c_420 => ?_)
  · replace h := h.1 c_420
    refine lv_iconst (v := 0) hx hb dL_acts_103 (by decide) ?_
    exact j_L_acts_104 C0 _ _ _ _ _ _ _ _ _ _ _ _ _ _ _ _ _ _ _ _ h _ _ _ hw (lv_sub hl [1, 2, 3, 4, 5, 6, 7, 8, 0] rfl)
  · replace h := h.2 c_420
    refine lv_aload_n hx hb dL_acts_88 rfl (lv_at hl 1 rfl) ?_
    refine lv_iload hx hb dL_acts_89 (lv_at hl 7 rfl) ?_
    refine lv_bipush (v := 9) hx hb dL_acts_91 (by decide) ?_
    refine x_cV (As := [.int x7, .int 9]) (rest := []) (F := (List.flatten [cM E a1 v2, cM E a2 v3, cM E a3 v4, cH E aH (h0 0) (h1 0) (h2 0) (h3 0) v5, cM E h0 v6, cM E h1 v7, cM E h2 v8, cM E h3 v9, cS E aS v10])) C0 hw (p_fl (ds := [cG aG (a0 0) (a1 0) (a2 0) (a3 0) (aH 0) (aS 0) v0, cM E a0 v1]) (List.Perm.refl _)) hl.1 0 6 rfl rfl (c_X6_stoneOf l E aG a0 a1 a2 a3 aH h0 h1 h2 h3 aS h) 2 gL_acts_X6_stoneOf rfl ⟨rfl, rfl⟩ (by decide +kernel) ⟨Nat.le_of_ble_eq_true rfl, Nat.le_of_ble_eq_true rfl⟩ rfl rfl (Nat.le_of_ble_eq_true rfl) dL_acts_93 ⟨Nat.zero_le _, Nat.zero_le _⟩ (fun r_415 u_419 H locs h hw => ?_)
    obtain ⟨v_416, v_417⟩ := u_419
    replace hw : mw E A s.heap H locs (List.flatten [cG aG (a0 0) (a1 0) (a2 0) (a3 0) (aH 0) (aS 0) v_416, cM E a0 v_417, cM E a1 v2, cM E a2 v3, cM E a3 v4, cH E aH (h0 0) (h1 0) (h2 0) (h3 0) v5, cM E h0 v6, cM E h1 v7, cM E h2 v8, cM E h3 v9, cS E aS v10]) := hw.perm (p_bk (ds := [cG aG (a0 0) (a1 0) (a2 0) (a3 0) (aH 0) (aS 0) v_416, cM E a0 v_417]) (List.Perm.refl _))
    refine lv_if_le (tgt := 103) hx hb dL_acts_96 (by decide) (fun c_418 => ?_) (fun c_418 => ?_)
    · replace h := h.1 c_418
      refine lv_iconst (v := 0) hx hb dL_acts_103 (by decide) ?_
      exact j_L_acts_104 C0 _ _ _ _ _ _ _ _ _ _ _ _ _ _ _ _ _ _ _ _ h _ _ _ hw (lv_sub hl [1, 2, 3, 4, 5, 6, 7, 8, 0] rfl)
    · replace h := h.2 c_418
      refine lv_iconst (v := 1) hx hb dL_acts_99 (by decide) ?_
      refine lv_goto (tgt := 104) hx hb dL_acts_100 (by decide) ?_
      exact j_L_acts_104 C0 _ _ _ _ _ _ _ _ _ _ _ _ _ _ _ _ _ _ _ _ h _ _ _ hw (lv_sub hl [1, 2, 3, 4, 5, 6, 7, 8, 0] rfl)
set_option maxRecDepth 100000 in
set_option maxHeartbeats 4000000 in
theorem j_L_acts_58 {p : Program} {l : Launch} {e : Env} {s : State} {m : MethodId} {below : List Frame} {meth : Method} {c : Code} {E : EE} {A : Nat → Prop} {aG : Nat → Nat} {a0 : Nat → Nat} {a1 : Nat → Nat} {a2 : Nat → Nat} {a3 : Nat → Nat} {aH : Nat → Nat} {h0 : Nat → Nat} {h1 : Nat → Nat} {h2 : Nat → Nat} {h3 : Nat → Nat} {aS : Nat → Nat} {args : Array Value} (C0 : Cx E p s m args meth c A cL_acts 17 RL wsL_acts (some .boolean)) {post : Int32 → V → V → V → V → V → V → V → V → V → V → V → Prop}  : ∀ (x2 : Int32) (x3 : Int32) (x4 : Int32) (x5 : Int32) (x6 : Int32) (x7 : Int32) (q0 : Int32) (v0 : V) (v1 : V) (v2 : V) (v3 : V) (v4 : V) (v5 : V) (v6 : V) (v7 : V) (v8 : V) (v9 : V) (v10 : V), sj_L_acts_58 post  x2 x3 x4 x5 x6 x7 q0 v0 v1 v2 v3 v4 v5 v6 v7 v8 v9 v10 → ∀ (H : Heap) (locs : List Loc) (ls : Array Slot), mw E A s.heap H locs (List.flatten [cG aG (a0 0) (a1 0) (a2 0) (a3 0) (aH 0) (aS 0) v0, cM E a0 v1, cM E a1 v2, cM E a2 v3, cM E a3 v4, cH E aH (h0 0) (h1 0) (h2 0) (h3 0) v5, cM E h0 v6, cM E h1 v7, cM E h2 v8, cM E h3 v9, cS E aS v10]) → lv_has ls 17 [(0, .ref (aG 0)), (2, .int x2), (3, .int x3), (4, .int x4), (5, .int x5), (6, .int x6), (7, .int x7)] → W p l e rmL_acts s m args below meth c H locs 0 0 (qI E A (fun r (u : V × V × V × V × V × V × V × V × V × V × V) => post r u.1 u.2.1 u.2.2.1 u.2.2.2.1 u.2.2.2.2.1 u.2.2.2.2.2.1 u.2.2.2.2.2.2.1 u.2.2.2.2.2.2.2.1 u.2.2.2.2.2.2.2.2.1 u.2.2.2.2.2.2.2.2.2.1 u.2.2.2.2.2.2.2.2.2.2) (fun (u : V × V × V × V × V × V × V × V × V × V × V) => (List.flatten [cG aG (a0 0) (a1 0) (a2 0) (a3 0) (aH 0) (aS 0) u.1, cM E a0 u.2.1, cM E a1 u.2.2.1, cM E a2 u.2.2.2.1, cM E a3 u.2.2.2.2.1, cH E aH (h0 0) (h1 0) (h2 0) (h3 0) u.2.2.2.2.2.1, cM E h0 u.2.2.2.2.2.2.1, cM E h1 u.2.2.2.2.2.2.2.1, cM E h2 u.2.2.2.2.2.2.2.2.1, cM E h3 u.2.2.2.2.2.2.2.2.2.1, cS E aS u.2.2.2.2.2.2.2.2.2.2])) below args s) (F0 m 58 ls [.int q0]) := by
  have hx := C0.1
  have hb := C0.2.1
  intro x2 x3 x4 x5 x6 x7 q0 v0 v1 v2 v3 v4 v5 v6 v7 v8 v9 v10 h H locs ls hw hl
  unfold sj_L_acts_58 at h
  refine lv_istore (lv' := [(8, .int q0), (0, .ref (aG 0)), (2, .int x2), (3, .int x3), (4, .int x4), (5, .int x5), (6, .int x6), (7, .int x7)]) hx hb dL_acts_58 hl (by decide) rfl (fun ls hl => ?_)
  refine lv_iload hx hb dL_acts_60 (lv_at hl 0 rfl) ?_
  refine lv_if_eq (tgt := 80) hx hb dL_acts_62 (by decide) (fun c_426 => ?_) (fun c_426 => ?_)
  · replace h := h.1 c_426
    refine lv_iconst (v := 0) hx hb dL_acts_80 (by decide) ?_
    exact j_L_acts_81 C0 _ _ _ _ _ _ _ _ _ _ _ _ _ _ _ _ _ _ _ h _ _ _ hw (lv_sub hl [1, 2, 3, 4, 5, 6, 7, 0] rfl)
  · replace h := h.2 c_426
    refine lv_aload_n hx hb dL_acts_65 rfl (lv_at hl 1 rfl) ?_
    refine lv_iload hx hb dL_acts_66 (lv_at hl 7 rfl) ?_
    refine lv_bipush (v := 7) hx hb dL_acts_68 (by decide) ?_
    refine x_cV (As := [.int x7, .int 7]) (rest := []) (F := (List.flatten [cM E a1 v2, cM E a2 v3, cM E a3 v4, cH E aH (h0 0) (h1 0) (h2 0) (h3 0) v5, cM E h0 v6, cM E h1 v7, cM E h2 v8, cM E h3 v9, cS E aS v10])) C0 hw (p_fl (ds := [cG aG (a0 0) (a1 0) (a2 0) (a3 0) (aH 0) (aS 0) v0, cM E a0 v1]) (List.Perm.refl _)) hl.1 0 6 rfl rfl (c_X6_stoneOf l E aG a0 a1 a2 a3 aH h0 h1 h2 h3 aS h) 2 gL_acts_X6_stoneOf rfl ⟨rfl, rfl⟩ (by decide +kernel) ⟨Nat.le_of_ble_eq_true rfl, Nat.le_of_ble_eq_true rfl⟩ rfl rfl (Nat.le_of_ble_eq_true rfl) dL_acts_70 ⟨Nat.zero_le _, Nat.zero_le _⟩ (fun r_421 u_425 H locs h hw => ?_)
    obtain ⟨v_422, v_423⟩ := u_425
    replace hw : mw E A s.heap H locs (List.flatten [cG aG (a0 0) (a1 0) (a2 0) (a3 0) (aH 0) (aS 0) v_422, cM E a0 v_423, cM E a1 v2, cM E a2 v3, cM E a3 v4, cH E aH (h0 0) (h1 0) (h2 0) (h3 0) v5, cM E h0 v6, cM E h1 v7, cM E h2 v8, cM E h3 v9, cS E aS v10]) := hw.perm (p_bk (ds := [cG aG (a0 0) (a1 0) (a2 0) (a3 0) (aH 0) (aS 0) v_422, cM E a0 v_423]) (List.Perm.refl _))
    refine lv_if_lt (tgt := 80) hx hb dL_acts_73 (by decide) (fun c_424 => ?_) (fun c_424 => ?_)
    · replace h := h.1 c_424
      refine lv_iconst (v := 0) hx hb dL_acts_80 (by decide) ?_
      exact j_L_acts_81 C0 _ _ _ _ _ _ _ _ _ _ _ _ _ _ _ _ _ _ _ h _ _ _ hw (lv_sub hl [1, 2, 3, 4, 5, 6, 7, 0] rfl)
    · replace h := h.2 c_424
      refine lv_iconst (v := 1) hx hb dL_acts_76 (by decide) ?_
      refine lv_goto (tgt := 81) hx hb dL_acts_77 (by decide) ?_
      exact j_L_acts_81 C0 _ _ _ _ _ _ _ _ _ _ _ _ _ _ _ _ _ _ _ h _ _ _ hw (lv_sub hl [1, 2, 3, 4, 5, 6, 7, 0] rfl)
set_option maxRecDepth 100000 in
set_option maxHeartbeats 4000000 in
theorem c_L_acts (l : Launch) (E : EE) (aG : Nat → Nat) (a0 : Nat → Nat) (a1 : Nat → Nat) (a2 : Nat → Nat) (a3 : Nat → Nat) (aH : Nat → Nat) (h0 : Nat → Nat) (h1 : Nat → Nat) (h2 : Nat → Nat) (h3 : Nat → Nat) (aS : Nat → Nat) {v0 : V} {v1 : V} {v2 : V} {v3 : V} {v4 : V} {v5 : V} {v6 : V} {v7 : V} {v8 : V} {v9 : V} {v10 : V} {p1 : Int32} {p2 : Int32} {post : Int32 → V → V → V → V → V → V → V → V → V → V → V → Prop} (h : s_L_acts v0 v1 v2 v3 v4 v5 v6 v7 v8 v9 v10 p1 p2 post) : KI l E yL_acts wsL_acts rmL_acts [.ref (aG 0), .int p1, .int p2] (List.flatten [cG aG (a0 0) (a1 0) (a2 0) (a3 0) (aH 0) (aS 0) v0, cM E a0 v1, cM E a1 v2, cM E a2 v3, cM E a3 v4, cH E aH (h0 0) (h1 0) (h2 0) (h3 0) v5, cM E h0 v6, cM E h1 v7, cM E h2 v8, cM E h3 v9, cS E aS v10]) (S := V × V × V × V × V × V × V × V × V × V × V) (fun r (u : V × V × V × V × V × V × V × V × V × V × V) => post r u.1 u.2.1 u.2.2.1 u.2.2.2.1 u.2.2.2.2.1 u.2.2.2.2.2.1 u.2.2.2.2.2.2.1 u.2.2.2.2.2.2.2.1 u.2.2.2.2.2.2.2.2.1 u.2.2.2.2.2.2.2.2.2.1 u.2.2.2.2.2.2.2.2.2.2) (fun (u : V × V × V × V × V × V × V × V × V × V × V) => (List.flatten [cG aG (a0 0) (a1 0) (a2 0) (a3 0) (aH 0) (aS 0) u.1, cM E a0 u.2.1, cM E a1 u.2.2.1, cM E a2 u.2.2.2.1, cM E a3 u.2.2.2.2.1, cH E aH (h0 0) (h1 0) (h2 0) (h3 0) u.2.2.2.2.2.1, cM E h0 u.2.2.2.2.2.2.1, cM E h1 u.2.2.2.2.2.2.2.1, cM E h2 u.2.2.2.2.2.2.2.2.1, cM E h3 u.2.2.2.2.2.2.2.2.2.1, cS E aS u.2.2.2.2.2.2.2.2.2.2])) := by
  unfold s_L_acts at h
  refine KI.go (cc := cL_acts) (ret := (some .boolean)) (maxL := 17) (own := RL) (by decide) rfl (Nat.le_of_ble_eq_true rfl) rfl (fun p e s m below meth c A ls C0 hw hl => ?_)
  have hx := C0.1
  have hb := C0.2.1
  replace hl : lv_has ls 17 [(0, .ref (aG 0)), (1, .int p1), (2, .int p2)] := hl
  refine lv_iload_n hx hb dL_acts_0 rfl (lv_at hl 1 rfl) ?_
  refine lv_bipush (v := 20) hx hb dL_acts_1 (by decide) ?_
  refine x_cS (As := [.int p1, .int 20]) (rest := []) (F := (List.flatten [cG aG (a0 0) (a1 0) (a2 0) (a3 0) (aH 0) (aS 0) v0, cM E a0 v1, cM E a1 v2, cM E a2 v3, cM E a3 v4, cH E aH (h0 0) (h1 0) (h2 0) (h3 0) v5, cM E h0 v6, cM E h1 v7, cM E h2 v8, cM E h3 v9, cS E aS v10])) C0 hw (p_non _) hl.1 (c_L_low l E  h) 2 gL_acts_L_low rfl ⟨rfl, rfl⟩ (by decide +kernel) ⟨Nat.le_of_ble_eq_true rfl, Nat.le_of_ble_eq_true rfl⟩ rfl rfl (Nat.le_of_ble_eq_true rfl) dL_acts_3 ⟨Nat.zero_le _, Nat.zero_le _⟩ (fun r_1 _u H locs h (hw : mw E A s.heap H locs (List.flatten [cG aG (a0 0) (a1 0) (a2 0) (a3 0) (aH 0) (aS 0) v0, cM E a0 v1, cM E a1 v2, cM E a2 v3, cM E a3 v4, cH E aH (h0 0) (h1 0) (h2 0) (h3 0) v5, cM E h0 v6, cM E h1 v7, cM E h2 v8, cM E h3 v9, cS E aS v10])) => ?_)
  refine lv_istore_n (lv' := [(3, .int r_1), (0, .ref (aG 0)), (1, .int p1), (2, .int p2)]) hx hb dL_acts_6 rfl hl (by decide) rfl (fun ls hl => ?_)
  refine lv_aload_n hx hb dL_acts_7 rfl (lv_at hl 1 rfl) ?_
  refine lv_iconst (v := 0) hx hb dL_acts_8 (by decide) ?_
  refine x_cV (As := [.int 0]) (rest := []) (F := (List.flatten [cM E a1 v2, cM E a2 v3, cM E a3 v4, cM E h0 v6, cM E h1 v7, cM E h2 v8, cM E h3 v9])) C0 hw (p_fl (ds := [cG aG (a0 0) (a1 0) (a2 0) (a3 0) (aH 0) (aS 0) v0, cM E a0 v1, cH E aH (h0 0) (h1 0) (h2 0) (h3 0) v5, cS E aS v10]) ((p_pk _ 0 _ rfl).trans (List.Perm.cons _ ((p_pk _ 0 _ rfl).trans (List.Perm.cons _ ((p_pk _ 3 _ rfl).trans (List.Perm.cons _ ((p_pk _ 7 _ rfl).trans (List.Perm.cons _ (List.Perm.refl _)))))))))) hl.1 0 6 rfl rfl (c_X6_count l E aG a0 a1 a2 a3 aH h0 h1 h2 h3 aS h) 1 gL_acts_X6_count rfl ⟨rfl, rfl⟩ (by decide +kernel) ⟨Nat.le_of_ble_eq_true rfl, Nat.le_of_ble_eq_true rfl⟩ rfl rfl (Nat.le_of_ble_eq_true rfl) dL_acts_9 ⟨Nat.zero_le _, Nat.zero_le _⟩ (fun r_2 u_431 H locs h hw => ?_)
  obtain ⟨v_3, v_4, v_5, v_6⟩ := u_431
  replace hw : mw E A s.heap H locs (List.flatten [cG aG (a0 0) (a1 0) (a2 0) (a3 0) (aH 0) (aS 0) v_3, cM E a0 v_4, cM E a1 v2, cM E a2 v3, cM E a3 v4, cH E aH (h0 0) (h1 0) (h2 0) (h3 0) v_5, cM E h0 v6, cM E h1 v7, cM E h2 v8, cM E h3 v9, cS E aS v_6]) := hw.perm (p_bk (ds := [cG aG (a0 0) (a1 0) (a2 0) (a3 0) (aH 0) (aS 0) v_3, cM E a0 v_4, cH E aH (h0 0) (h1 0) (h2 0) (h3 0) v_5, cS E aS v_6]) ((p_pk _ 0 _ rfl).trans (List.Perm.cons _ ((p_pk _ 0 _ rfl).trans (List.Perm.cons _ ((p_pk _ 3 _ rfl).trans (List.Perm.cons _ ((p_pk _ 7 _ rfl).trans (List.Perm.cons _ (List.Perm.refl _))))))))))
  refine lv_istore (lv' := [(4, .int r_2), (3, .int r_1), (0, .ref (aG 0)), (1, .int p1), (2, .int p2)]) hx hb dL_acts_12 hl (by decide) rfl (fun ls hl => ?_)
  refine lv_aload_n hx hb dL_acts_14 rfl (lv_at hl 2 rfl) ?_
  refine lv_iconst (v := 1) hx hb dL_acts_15 (by decide) ?_
  refine x_cV (As := [.int 1]) (rest := []) (F := (List.flatten [cM E a1 v2, cM E a2 v3, cM E a3 v4, cM E h0 v6, cM E h1 v7, cM E h2 v8, cM E h3 v9])) C0 hw (p_fl (ds := [cG aG (a0 0) (a1 0) (a2 0) (a3 0) (aH 0) (aS 0) v_3, cM E a0 v_4, cH E aH (h0 0) (h1 0) (h2 0) (h3 0) v_5, cS E aS v_6]) ((p_pk _ 0 _ rfl).trans (List.Perm.cons _ ((p_pk _ 0 _ rfl).trans (List.Perm.cons _ ((p_pk _ 3 _ rfl).trans (List.Perm.cons _ ((p_pk _ 7 _ rfl).trans (List.Perm.cons _ (List.Perm.refl _)))))))))) hl.1 0 6 rfl rfl (c_X6_count l E aG a0 a1 a2 a3 aH h0 h1 h2 h3 aS h) 1 gL_acts_X6_count rfl ⟨rfl, rfl⟩ (by decide +kernel) ⟨Nat.le_of_ble_eq_true rfl, Nat.le_of_ble_eq_true rfl⟩ rfl rfl (Nat.le_of_ble_eq_true rfl) dL_acts_16 ⟨Nat.zero_le _, Nat.zero_le _⟩ (fun r_7 u_430 H locs h hw => ?_)
  obtain ⟨v_8, v_9, v_10, v_11⟩ := u_430
  replace hw : mw E A s.heap H locs (List.flatten [cG aG (a0 0) (a1 0) (a2 0) (a3 0) (aH 0) (aS 0) v_8, cM E a0 v_9, cM E a1 v2, cM E a2 v3, cM E a3 v4, cH E aH (h0 0) (h1 0) (h2 0) (h3 0) v_10, cM E h0 v6, cM E h1 v7, cM E h2 v8, cM E h3 v9, cS E aS v_11]) := hw.perm (p_bk (ds := [cG aG (a0 0) (a1 0) (a2 0) (a3 0) (aH 0) (aS 0) v_8, cM E a0 v_9, cH E aH (h0 0) (h1 0) (h2 0) (h3 0) v_10, cS E aS v_11]) ((p_pk _ 0 _ rfl).trans (List.Perm.cons _ ((p_pk _ 0 _ rfl).trans (List.Perm.cons _ ((p_pk _ 3 _ rfl).trans (List.Perm.cons _ ((p_pk _ 7 _ rfl).trans (List.Perm.cons _ (List.Perm.refl _))))))))))
  refine lv_istore (lv' := [(5, .int r_7), (4, .int r_2), (3, .int r_1), (0, .ref (aG 0)), (1, .int p1), (2, .int p2)]) hx hb dL_acts_19 hl (by decide) rfl (fun ls hl => ?_)
  refine lv_iload_n hx hb dL_acts_21 rfl (lv_at hl 4 rfl) ?_
  refine lv_iconst (v := 5) hx hb dL_acts_22 (by decide) ?_
  refine lv_ishr hx hb dL_acts_23 ?_
  refine lv_iload hx hb dL_acts_24 (lv_at hl 1 rfl) ?_
  refine lv_iconst (v := 1) hx hb dL_acts_26 (by decide) ?_
  refine lv_iadd hx hb dL_acts_27 ?_
  refine x_cS (As := [.int (p1 >>> (5 &&& 31)), .int (r_2 + 1)]) (rest := []) (F := (List.flatten [cG aG (a0 0) (a1 0) (a2 0) (a3 0) (aH 0) (aS 0) v_8, cM E a0 v_9, cM E a1 v2, cM E a2 v3, cM E a3 v4, cH E aH (h0 0) (h1 0) (h2 0) (h3 0) v_10, cM E h0 v6, cM E h1 v7, cM E h2 v8, cM E h3 v9, cS E aS v_11])) C0 hw (p_non _) hl.1 (c_L_low l E  h) 2 gL_acts_L_low rfl ⟨rfl, rfl⟩ (by decide +kernel) ⟨Nat.le_of_ble_eq_true rfl, Nat.le_of_ble_eq_true rfl⟩ rfl rfl (Nat.le_of_ble_eq_true rfl) dL_acts_28 ⟨Nat.zero_le _, Nat.zero_le _⟩ (fun r_12 _u H locs h (hw : mw E A s.heap H locs (List.flatten [cG aG (a0 0) (a1 0) (a2 0) (a3 0) (aH 0) (aS 0) v_8, cM E a0 v_9, cM E a1 v2, cM E a2 v3, cM E a3 v4, cH E aH (h0 0) (h1 0) (h2 0) (h3 0) v_10, cM E h0 v6, cM E h1 v7, cM E h2 v8, cM E h3 v9, cS E aS v_11])) => ?_)
  refine lv_istore (lv' := [(6, .int r_12), (5, .int r_7), (4, .int r_2), (3, .int r_1), (0, .ref (aG 0)), (1, .int p1), (2, .int p2)]) hx hb dL_acts_31 hl (by decide) rfl (fun ls hl => ?_)
  refine lv_iload_n hx hb dL_acts_33 rfl (lv_at hl 5 rfl) ?_
  refine lv_bipush (v := 8) hx hb dL_acts_34 (by decide) ?_
  refine lv_ishr hx hb dL_acts_36 ?_
  refine lv_iload hx hb dL_acts_37 (lv_at hl 1 rfl) ?_
  refine lv_iconst (v := 1) hx hb dL_acts_39 (by decide) ?_
  refine lv_iadd hx hb dL_acts_40 ?_
  refine x_cS (As := [.int (p1 >>> (8 &&& 31)), .int (r_7 + 1)]) (rest := []) (F := (List.flatten [cG aG (a0 0) (a1 0) (a2 0) (a3 0) (aH 0) (aS 0) v_8, cM E a0 v_9, cM E a1 v2, cM E a2 v3, cM E a3 v4, cH E aH (h0 0) (h1 0) (h2 0) (h3 0) v_10, cM E h0 v6, cM E h1 v7, cM E h2 v8, cM E h3 v9, cS E aS v_11])) C0 hw (p_non _) hl.1 (c_L_low l E  h) 2 gL_acts_L_low rfl ⟨rfl, rfl⟩ (by decide +kernel) ⟨Nat.le_of_ble_eq_true rfl, Nat.le_of_ble_eq_true rfl⟩ rfl rfl (Nat.le_of_ble_eq_true rfl) dL_acts_41 ⟨Nat.zero_le _, Nat.zero_le _⟩ (fun r_13 _u H locs h (hw : mw E A s.heap H locs (List.flatten [cG aG (a0 0) (a1 0) (a2 0) (a3 0) (aH 0) (aS 0) v_8, cM E a0 v_9, cM E a1 v2, cM E a2 v3, cM E a3 v4, cH E aH (h0 0) (h1 0) (h2 0) (h3 0) v_10, cM E h0 v6, cM E h1 v7, cM E h2 v8, cM E h3 v9, cS E aS v_11])) => ?_)
  refine lv_istore (lv' := [(7, .int r_13), (6, .int r_12), (5, .int r_7), (4, .int r_2), (3, .int r_1), (0, .ref (aG 0)), (1, .int p1), (2, .int p2)]) hx hb dL_acts_44 hl (by decide) rfl (fun ls hl => ?_)
  refine lv_iload hx hb dL_acts_46 (lv_at hl 0 rfl) ?_
  refine lv_iload hx hb dL_acts_48 (lv_at hl 2 rfl) ?_
  refine lv_icmp_ge (tgt := 57) hx hb dL_acts_50 (by decide) (fun c_427 => ?_) (fun c_427 => ?_)
  · replace h := h.1 c_427
    refine lv_iconst (v := 0) hx hb dL_acts_57 (by decide) ?_
    exact j_L_acts_58 C0 _ _ _ _ _ _ _ _ _ _ _ _ _ _ _ _ _ _ h _ _ _ hw (lv_sub hl [5, 7, 4, 3, 2, 1, 0] rfl)
  · replace h := h.2 c_427
    refine lv_iconst (v := 1) hx hb dL_acts_53 (by decide) ?_
    refine lv_goto (tgt := 58) hx hb dL_acts_54 (by decide) ?_
    exact j_L_acts_58 C0 _ _ _ _ _ _ _ _ _ _ _ _ _ _ _ _ _ _ h _ _ _ hw (lv_sub hl [5, 7, 4, 3, 2, 1, 0] rfl)
