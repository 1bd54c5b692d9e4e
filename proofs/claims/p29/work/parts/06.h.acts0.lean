abbrev rmL_acts : Room := { frames := 9, cells := 0, slots := 0, locals := 203 }
set_option maxRecDepth 100000 in
set_option maxHeartbeats 4000000 in
theorem j_L_acts_1348 {p : Program} {l : Launch} {e : Env} {s : State} {m : MethodId} {below : List Frame} {meth : Method} {c : Code} {E : EE} {A : Nat → Prop} {aG : Nat → Nat} {a0 : Nat → Nat} {a1 : Nat → Nat} {a2 : Nat → Nat} {a3 : Nat → Nat} {aH : Nat → Nat} {h0 : Nat → Nat} {h1 : Nat → Nat} {h2 : Nat → Nat} {h3 : Nat → Nat} {aS : Nat → Nat} {args : Array Value} (C0 : Cx E p s m args meth c A cL_acts 17 RL wsL_acts (some .boolean)) {post : Int32 → V → V → V → V → V → V → V → V → V → V → V → Prop}  : ∀ (x11 : Int32) (q0 : Int32) (v0 : V) (v1 : V) (v2 : V) (v3 : V) (v4 : V) (v5 : V) (v6 : V) (v7 : V) (v8 : V) (v9 : V) (v10 : V), sj_L_acts_1348 post  x11 q0 v0 v1 v2 v3 v4 v5 v6 v7 v8 v9 v10 → ∀ (H : Heap) (locs : List Loc) (ls : Array Slot), mw E A s.heap H locs (List.flatten [cG aG (a0 0) (a1 0) (a2 0) (a3 0) (aH 0) (aS 0) v0, cM E a0 v1, cM E a1 v2, cM E a2 v3, cM E a3 v4, cH E aH (h0 0) (h1 0) (h2 0) (h3 0) v5, cM E h0 v6, cM E h1 v7, cM E h2 v8, cM E h3 v9, cS E aS v10]) → lv_has ls 17 [(0, .ref (aG 0)), (11, .int x11)] → W p l e rmL_acts s m args below meth c H locs 0 0 (qI E A (fun r (u : V × V × V × V × V × V × V × V × V × V × V) => post r u.1 u.2.1 u.2.2.1 u.2.2.2.1 u.2.2.2.2.1 u.2.2.2.2.2.1 u.2.2.2.2.2.2.1 u.2.2.2.2.2.2.2.1 u.2.2.2.2.2.2.2.2.1 u.2.2.2.2.2.2.2.2.2.1 u.2.2.2.2.2.2.2.2.2.2) (fun (u : V × V × V × V × V × V × V × V × V × V × V) => (List.flatten [cG aG (a0 0) (a1 0) (a2 0) (a3 0) (aH 0) (aS 0) u.1, cM E a0 u.2.1, cM E a1 u.2.2.1, cM E a2 u.2.2.2.1, cM E a3 u.2.2.2.2.1, cH E aH (h0 0) (h1 0) (h2 0) (h3 0) u.2.2.2.2.2.1, cM E h0 u.2.2.2.2.2.2.1, cM E h1 u.2.2.2.2.2.2.2.1, cM E h2 u.2.2.2.2.2.2.2.2.1, cM E h3 u.2.2.2.2.2.2.2.2.2.1, cS E aS u.2.2.2.2.2.2.2.2.2.2])) below args s) (F0 m 1348 ls [.int q0]) := by
  have hx := C0.1
  have hb := C0.2.1
  intro x11 q0 v0 v1 v2 v3 v4 v5 v6 v7 v8 v9 v10 h H locs ls hw hl
  unfold sj_L_acts_1348 at h
  refine lv_istore (lv' := [(12, .int q0), (0, .ref (aG 0)), (11, .int x11)]) hx hb dL_acts_1348 hl (by decide) rfl (fun ls hl => ?_)
  refine lv_iload hx hb dL_acts_1350 (lv_at hl 0 rfl) ?_
  refine lv_aload_n hx hb dL_acts_1352 rfl (lv_at hl 1 rfl) ?_
  refine lv_bipush (v := 7) hx hb dL_acts_1353 (by decide) ?_
  refine x_cV (As := [.int 7]) (rest := [.int q0]) (F := (List.flatten [cM E a1 v2, cM E a2 v3, cM E a3 v4, cM E h0 v6, cM E h1 v7, cM E h2 v8, cM E h3 v9])) C0 hw (p_fl (ds := [cG aG (a0 0) (a1 0) (a2 0) (a3 0) (aH 0) (aS 0) v0, cM E a0 v1, cH E aH (h0 0) (h1 0) (h2 0) (h3 0) v5, cS E aS v10]) ((p_pk _ 0 _ rfl).trans (List.Perm.cons _ ((p_pk _ 0 _ rfl).trans (List.Perm.cons _ ((p_pk _ 3 _ rfl).trans (List.Perm.cons _ ((p_pk _ 7 _ rfl).trans (List.Perm.cons _ (List.Perm.refl _)))))))))) hl.1 0 6 rfl rfl (c_X6_count l E aG a0 a1 a2 a3 aH h0 h1 h2 h3 aS h) 1 gL_acts_X6_count rfl ⟨rfl, rfl⟩ (by decide +kernel) ⟨Nat.le_of_ble_eq_true rfl, Nat.le_of_ble_eq_true rfl⟩ rfl rfl (Nat.le_of_ble_eq_true rfl) dL_acts_1355 ⟨Nat.zero_le _, Nat.zero_le _⟩ (fun r_57 u_65 H locs h hw => ?_)
  obtain ⟨v_58, v_59, v_60, v_61⟩ := u_65
  replace hw : mw E A s.heap H locs (List.flatten [cG aG (a0 0) (a1 0) (a2 0) (a3 0) (aH 0) (aS 0) v_58, cM E a0 v_59, cM E a1 v2, cM E a2 v3, cM E a3 v4, cH E aH (h0 0) (h1 0) (h2 0) (h3 0) v_60, cM E h0 v6, cM E h1 v7, cM E h2 v8, cM E h3 v9, cS E aS v_61]) := hw.perm (p_bk (ds := [cG aG (a0 0) (a1 0) (a2 0) (a3 0) (aH 0) (aS 0) v_58, cM E a0 v_59, cH E aH (h0 0) (h1 0) (h2 0) (h3 0) v_60, cS E aS v_61]) ((p_pk _ 0 _ rfl).trans (List.Perm.cons _ ((p_pk _ 0 _ rfl).trans (List.Perm.cons _ ((p_pk _ 3 _ rfl).trans (List.Perm.cons _ ((p_pk _ 7 _ rfl).trans (List.Perm.cons _ (List.Perm.refl _))))))))))
  refine lv_icmp_eq (tgt := 1373) hx hb dL_acts_1358 (by decide) (fun c_64 => ?_) (fun c_64 => ?_)
  · replace h := h.1 c_64
    refine lv_iconst (v := 1) hx hb dL_acts_1373 (by decide) ?_
    refine lv_goto (tgt := 1378) hx hb dL_acts_1374 (by decide) ?_
    exact x_retz C0 rfl ⟨v_58, v_59, v2, v3, v4, v_60, v6, v7, v8, v9, v_61⟩ hw h dL_acts_1378
  · replace h := h.2 c_64
    refine lv_iload hx hb dL_acts_1361 (lv_at hl 2 rfl) ?_
    refine lv_if_ne (tgt := 1377) hx hb dL_acts_1363 (by decide) (fun c_63 => ?_) (fun c_63 => ?_)
    · replace h := h.1 c_63
      refine lv_iconst (v := 0) hx hb dL_acts_1377 (by decide) ?_
      exact x_retz C0 rfl ⟨v_58, v_59, v2, v3, v4, v_60, v6, v7, v8, v9, v_61⟩ hw h dL_acts_1378
    · replace h := h.2 c_63
      refine lv_iload hx hb dL_acts_1366 (lv_at hl 0 rfl) ?_
      refine x_ldc (v := (-10000002)) C0 3 rfl dL_acts_1368 ?_
      refine lv_icmp_ne (tgt := 1377) hx hb dL_acts_1370 (by decide) (fun c_62 => ?_) (fun c_62 => ?_)
      · replace h := h.1 c_62
        refine lv_iconst (v := 0) hx hb dL_acts_1377 (by decide) ?_
        exact x_retz C0 rfl ⟨v_58, v_59, v2, v3, v4, v_60, v6, v7, v8, v9, v_61⟩ hw h dL_acts_1378
      · replace h := h.2 c_62
        refine lv_iconst (v := 1) hx hb dL_acts_1373 (by decide) ?_
        refine lv_goto (tgt := 1378) hx hb dL_acts_1374 (by decide) ?_
        exact x_retz C0 rfl ⟨v_58, v_59, v2, v3, v4, v_60, v6, v7, v8, v9, v_61⟩ hw h dL_acts_1378
set_option maxRecDepth 100000 in
set_option maxHeartbeats 4000000 in
theorem j_L_acts_1327 {p : Program} {l : Launch} {e : Env} {s : State} {m : MethodId} {below : List Frame} {meth : Method} {c : Code} {E : EE} {A : Nat → Prop} {aG : Nat → Nat} {a0 : Nat → Nat} {a1 : Nat → Nat} {a2 : Nat → Nat} {a3 : Nat → Nat} {aH : Nat → Nat} {h0 : Nat → Nat} {h1 : Nat → Nat} {h2 : Nat → Nat} {h3 : Nat → Nat} {aS : Nat → Nat} {args : Array Value} (C0 : Cx E p s m args meth c A cL_acts 17 RL wsL_acts (some .boolean)) {post : Int32 → V → V → V → V → V → V → V → V → V → V → V → Prop}  : ∀ (x2 : Int32) (q0 : Int32) (v0 : V) (v1 : V) (v2 : V) (v3 : V) (v4 : V) (v5 : V) (v6 : V) (v7 : V) (v8 : V) (v9 : V) (v10 : V), sj_L_acts_1327 post  x2 q0 v0 v1 v2 v3 v4 v5 v6 v7 v8 v9 v10 → ∀ (H : Heap) (locs : List Loc) (ls : Array Slot), mw E A s.heap H locs (List.flatten [cG aG (a0 0) (a1 0) (a2 0) (a3 0) (aH 0) (aS 0) v0, cM E a0 v1, cM E a1 v2, cM E a2 v3, cM E a3 v4, cH E aH (h0 0) (h1 0) (h2 0) (h3 0) v5, cM E h0 v6, cM E h1 v7, cM E h2 v8, cM E h3 v9, cS E aS v10]) → lv_has ls 17 [(0, .ref (aG 0)), (2, .int x2)] → W p l e rmL_acts s m args below meth c H locs 0 0 (qI E A (fun r (u : V × V × V × V × V × V × V × V × V × V × V) => post r u.1 u.2.1 u.2.2.1 u.2.2.2.1 u.2.2.2.2.1 u.2.2.2.2.2.1 u.2.2.2.2.2.2.1 u.2.2.2.2.2.2.2.1 u.2.2.2.2.2.2.2.2.1 u.2.2.2.2.2.2.2.2.2.1 u.2.2.2.2.2.2.2.2.2.2) (fun (u : V × V × V × V × V × V × V × V × V × V × V) => (List.flatten [cG aG (a0 0) (a1 0) (a2 0) (a3 0) (aH 0) (aS 0) u.1, cM E a0 u.2.1, cM E a1 u.2.2.1, cM E a2 u.2.2.2.1, cM E a3 u.2.2.2.2.1, cH E aH (h0 0) (h1 0) (h2 0) (h3 0) u.2.2.2.2.2.1, cM E h0 u.2.2.2.2.2.2.1, cM E h1 u.2.2.2.2.2.2.2.1, cM E h2 u.2.2.2.2.2.2.2.2.1, cM E h3 u.2.2.2.2.2.2.2.2.2.1, cS E aS u.2.2.2.2.2.2.2.2.2.2])) below args s) (F0 m 1327 ls [.int q0]) := by
  have hx := C0.1
  have hb := C0.2.1
  intro x2 q0 v0 v1 v2 v3 v4 v5 v6 v7 v8 v9 v10 h H locs ls hw hl
  unfold sj_L_acts_1327 at h
  refine lv_istore (lv' := [(11, .int q0), (0, .ref (aG 0)), (2, .int x2)]) hx hb dL_acts_1327 hl (by decide) rfl (fun ls hl => ?_)
  refine lv_iload_n hx hb dL_acts_1329 rfl (lv_at hl 2 rfl) ?_
  refine lv_iconst (v := 2) hx hb dL_acts_1330 (by decide) ?_
  refine x_cS (As := [.int x2, .int 2]) (rest := []) (F := (List.flatten [cG aG (a0 0) (a1 0) (a2 0) (a3 0) (aH 0) (aS 0) v0, cM E a0 v1, cM E a1 v2, cM E a2 v3, cM E a3 v4, cH E aH (h0 0) (h1 0) (h2 0) (h3 0) v5, cM E h0 v6, cM E h1 v7, cM E h2 v8, cM E h3 v9, cS E aS v10])) C0 hw (p_non _) hl.1 (c_L_low l E  h) 2 gL_acts_L_low rfl ⟨rfl, rfl⟩ (by decide +kernel) ⟨Nat.le_of_ble_eq_true rfl, Nat.le_of_ble_eq_true rfl⟩ rfl rfl (Nat.le_of_ble_eq_true rfl) dL_acts_1331 ⟨Nat.zero_le _, Nat.zero_le _⟩ (fun r_47 _u H locs h (hw : mw E A s.heap H locs (List.flatten [cG aG (a0 0) (a1 0) (a2 0) (a3 0) (aH 0) (aS 0) v0, cM E a0 v1, cM E a1 v2, cM E a2 v3, cM E a3 v4, cH E aH (h0 0) (h1 0) (h2 0) (h3 0) v5, cM E h0 v6, cM E h1 v7, cM E h2 v8, cM E h3 v9, cS E aS v10])) => ?_)
  refine lv_if_ne (tgt := 1344) hx hb dL_acts_1334 (by decide) (fun c_72 => ?_) (fun c_72 => ?_)
  · replace h := h.1 c_72
    refine lv_aload_n hx hb dL_acts_1344 rfl (lv_at hl 1 rfl) ?_
    refine x_cV (As := []) (rest := []) (F := (List.flatten [cM E a1 v2, cM E a2 v3, cS E aS v10])) C0 hw (p_fl (ds := [cG aG (a0 0) (a1 0) (a2 0) (a3 0) (aH 0) (aS 0) v0, cM E a0 v1, cM E a3 v4, cH E aH (h0 0) (h1 0) (h2 0) (h3 0) v5, cM E h0 v6, cM E h1 v7, cM E h2 v8, cM E h3 v9]) ((p_pk _ 0 _ rfl).trans (List.Perm.cons _ ((p_pk _ 0 _ rfl).trans (List.Perm.cons _ ((p_pk _ 2 _ rfl).trans (List.Perm.cons _ ((p_pk _ 2 _ rfl).trans (List.Perm.cons _ ((p_pk _ 2 _ rfl).trans (List.Perm.cons _ ((p_pk _ 2 _ rfl).trans (List.Perm.cons _ ((p_pk _ 2 _ rfl).trans (List.Perm.cons _ ((p_pk _ 2 _ rfl).trans (List.Perm.cons _ (List.Perm.refl _)))))))))))))))))) hl.1 0 6 rfl rfl (c_X6_restore l E aG a0 a1 a2 a3 aH h0 h1 h2 h3 aS h) 0 gL_acts_X6_restore rfl ⟨rfl, rfl⟩ (by decide +kernel) ⟨Nat.le_of_ble_eq_true rfl, Nat.le_of_ble_eq_true rfl⟩ rfl rfl (Nat.le_of_ble_eq_true rfl) dL_acts_1345 ⟨Nat.zero_le _, Nat.zero_le _⟩ (fun r_48 u_66 H locs h hw => ?_)
    obtain ⟨v_49, v_50, v_51, v_52, v_53, v_54, v_55, v_56⟩ := u_66
    replace hw : mw E A s.heap H locs (List.flatten [cG aG (a0 0) (a1 0) (a2 0) (a3 0) (aH 0) (aS 0) v_49, cM E a0 v_50, cM E a1 v2, cM E a2 v3, cM E a3 v_51, cH E aH (h0 0) (h1 0) (h2 0) (h3 0) v_52, cM E h0 v_53, cM E h1 v_54, cM E h2 v_55, cM E h3 v_56, cS E aS v10]) := hw.perm (p_bk (ds := [cG aG (a0 0) (a1 0) (a2 0) (a3 0) (aH 0) (aS 0) v_49, cM E a0 v_50, cM E a3 v_51, cH E aH (h0 0) (h1 0) (h2 0) (h3 0) v_52, cM E h0 v_53, cM E h1 v_54, cM E h2 v_55, cM E h3 v_56]) ((p_pk _ 0 _ rfl).trans (List.Perm.cons _ ((p_pk _ 0 _ rfl).trans (List.Perm.cons _ ((p_pk _ 2 _ rfl).trans (List.Perm.cons _ ((p_pk _ 2 _ rfl).trans (List.Perm.cons _ ((p_pk _ 2 _ rfl).trans (List.Perm.cons _ ((p_pk _ 2 _ rfl).trans (List.Perm.cons _ ((p_pk _ 2 _ rfl).trans (List.Perm.cons _ ((p_pk _ 2 _ rfl).trans (List.Perm.cons _ (List.Perm.refl _))))))))))))))))))
    exact j_L_acts_1348 C0 _ _ _ _ _ _ _ _ _ _ _ _ _ h _ _ _ hw (lv_sub hl [1, 0] rfl)
  · replace h := h.2 c_72
    refine lv_aload_n hx hb dL_acts_1337 rfl (lv_at hl 1 rfl) ?_
    refine x_cV (As := []) (rest := []) (F := (List.flatten [cM E a1 v2, cM E a2 v3, cH E aH (h0 0) (h1 0) (h2 0) (h3 0) v5, cM E h0 v6, cM E h1 v7, cM E h2 v8, cM E h3 v9, cS E aS v10])) C0 hw (p_fl (ds := [cG aG (a0 0) (a1 0) (a2 0) (a3 0) (aH 0) (aS 0) v0, cM E a0 v1, cM E a3 v4]) ((p_pk _ 0 _ rfl).trans (List.Perm.cons _ ((p_pk _ 0 _ rfl).trans (List.Perm.cons _ ((p_pk _ 2 _ rfl).trans (List.Perm.cons _ (List.Perm.refl _)))))))) hl.1 0 6 rfl rfl (c_X6_mark l E aG a0 a1 a2 a3 aH h0 h1 h2 h3 aS h) 0 gL_acts_X6_mark rfl ⟨rfl, rfl⟩ (by decide +kernel) ⟨Nat.le_of_ble_eq_true rfl, Nat.le_of_ble_eq_true rfl⟩ rfl rfl (Nat.le_of_ble_eq_true rfl) dL_acts_1338 ⟨Nat.zero_le _, Nat.zero_le _⟩ (fun r_67 u_71 H locs h hw => ?_)
    obtain ⟨v_68, v_69, v_70⟩ := u_71
    replace hw : mw E A s.heap H locs (List.flatten [cG aG (a0 0) (a1 0) (a2 0) (a3 0) (aH 0) (aS 0) v_68, cM E a0 v_69, cM E a1 v2, cM E a2 v3, cM E a3 v_70, cH E aH (h0 0) (h1 0) (h2 0) (h3 0) v5, cM E h0 v6, cM E h1 v7, cM E h2 v8, cM E h3 v9, cS E aS v10]) := hw.perm (p_bk (ds := [cG aG (a0 0) (a1 0) (a2 0) (a3 0) (aH 0) (aS 0) v_68, cM E a0 v_69, cM E a3 v_70]) ((p_pk _ 0 _ rfl).trans (List.Perm.cons _ ((p_pk _ 0 _ rfl).trans (List.Perm.cons _ ((p_pk _ 2 _ rfl).trans (List.Perm.cons _ (List.Perm.refl _))))))))
    refine lv_goto (tgt := 1348) hx hb dL_acts_1341 (by decide) ?_
    exact j_L_acts_1348 C0 _ _ _ _ _ _ _ _ _ _ _ _ _ h _ _ _ hw (lv_sub hl [1, 0] rfl)
set_option maxRecDepth 100000 in
set_option maxHeartbeats 4000000 in
theorem j_L_acts_1297 {p : Program} {l : Launch} {e : Env} {s : State} {m : MethodId} {below : List Frame} {meth : Method} {c : Code} {E : EE} {A : Nat → Prop} {aG : Nat → Nat} {a0 : Nat → Nat} {a1 : Nat → Nat} {a2 : Nat → Nat} {a3 : Nat → Nat} {aH : Nat → Nat} {h0 : Nat → Nat} {h1 : Nat → Nat} {h2 : Nat → Nat} {h3 : Nat → Nat} {aS : Nat → Nat} {args : Array Value} (C0 : Cx E p s m args meth c A cL_acts 17 RL wsL_acts (some .boolean)) {post : Int32 → V → V → V → V → V → V → V → V → V → V → V → Prop}  : ∀ (q0 : Int32) (q1 : Int32) (v0 : V) (v1 : V) (v2 : V) (v3 : V) (v4 : V) (v5 : V) (v6 : V) (v7 : V) (v8 : V) (v9 : V) (v10 : V), sj_L_acts_1297 post  q0 q1 v0 v1 v2 v3 v4 v5 v6 v7 v8 v9 v10 → ∀ (H : Heap) (locs : List Loc) (ls : Array Slot), mw E A s.heap H locs (List.flatten [cG aG (a0 0) (a1 0) (a2 0) (a3 0) (aH 0) (aS 0) v0, cM E a0 v1, cM E a1 v2, cM E a2 v3, cM E a3 v4, cH E aH (h0 0) (h1 0) (h2 0) (h3 0) v5, cM E h0 v6, cM E h1 v7, cM E h2 v8, cM E h3 v9, cS E aS v10]) → lv_has ls 17 [] → W p l e rmL_acts s m args below meth c H locs 0 0 (qI E A (fun r (u : V × V × V × V × V × V × V × V × V × V × V) => post r u.1 u.2.1 u.2.2.1 u.2.2.2.1 u.2.2.2.2.1 u.2.2.2.2.2.1 u.2.2.2.2.2.2.1 u.2.2.2.2.2.2.2.1 u.2.2.2.2.2.2.2.2.1 u.2.2.2.2.2.2.2.2.2.1 u.2.2.2.2.2.2.2.2.2.2) (fun (u : V × V × V × V × V × V × V × V × V × V × V) => (List.flatten [cG aG (a0 0) (a1 0) (a2 0) (a3 0) (aH 0) (aS 0) u.1, cM E a0 u.2.1, cM E a1 u.2.2.1, cM E a2 u.2.2.2.1, cM E a3 u.2.2.2.2.1, cH E aH (h0 0) (h1 0) (h2 0) (h3 0) u.2.2.2.2.2.1, cM E h0 u.2.2.2.2.2.2.1, cM E h1 u.2.2.2.2.2.2.2.1, cM E h2 u.2.2.2.2.2.2.2.2.1, cM E h3 u.2.2.2.2.2.2.2.2.2.1, cS E aS u.2.2.2.2.2.2.2.2.2.2])) below args s) (F0 m 1297 ls [.int q1, .int q0]) := by
  have hx := C0.1
  have hb := C0.2.1
  intro q0 q1 v0 v1 v2 v3 v4 v5 v6 v7 v8 v9 v10 h H locs ls hw hl
  unfold sj_L_acts_1297 at h
  refine lv_icmp_ne (tgt := 1304) hx hb dL_acts_1297 (by decide) (fun c_93 => ?_) (fun c_93 => ?_)
  · replace h := h.1 c_93
    refine lv_iconst (v := 0) hx hb dL_acts_1304 (by decide) ?_
    exact x_retz C0 rfl ⟨v0, v1, v2, v3, v4, v5, v6, v7, v8, v9, v10⟩ hw h dL_acts_1305
  · replace h := h.2 c_93
    refine lv_iconst (v := 1) hx hb dL_acts_1300 (by decide) ?_
    refine lv_goto (tgt := 1305) hx hb dL_acts_1301 (by decide) ?_
    exact x_retz C0 rfl ⟨v0, v1, v2, v3, v4, v5, v6, v7, v8, v9, v10⟩ hw h dL_acts_1305
set_option maxRecDepth 100000 in
set_option maxHeartbeats 4000000 in
theorem j_L_acts_1290 {p : Program} {l : Launch} {e : Env} {s : State} {m : MethodId} {below : List Frame} {meth : Method} {c : Code} {E : EE} {A : Nat → Prop} {aG : Nat → Nat} {a0 : Nat → Nat} {a1 : Nat → Nat} {a2 : Nat → Nat} {a3 : Nat → Nat} {aH : Nat → Nat} {h0 : Nat → Nat} {h1 : Nat → Nat} {h2 : Nat → Nat} {h3 : Nat → Nat} {aS : Nat → Nat} {args : Array Value} (C0 : Cx E p s m args meth c A cL_acts 17 RL wsL_acts (some .boolean)) {post : Int32 → V → V → V → V → V → V → V → V → V → V → V → Prop}  : ∀ (q0 : Int32) (v0 : V) (v1 : V) (v2 : V) (v3 : V) (v4 : V) (v5 : V) (v6 : V) (v7 : V) (v8 : V) (v9 : V) (v10 : V), sj_L_acts_1290 post  q0 v0 v1 v2 v3 v4 v5 v6 v7 v8 v9 v10 → ∀ (H : Heap) (locs : List Loc) (ls : Array Slot), mw E A s.heap H locs (List.flatten [cG aG (a0 0) (a1 0) (a2 0) (a3 0) (aH 0) (aS 0) v0, cM E a0 v1, cM E a1 v2, cM E a2 v3, cM E a3 v4, cH E aH (h0 0) (h1 0) (h2 0) (h3 0) v5, cM E h0 v6, cM E h1 v7, cM E h2 v8, cM E h3 v9, cS E aS v10]) → lv_has ls 17 [] → W p l e rmL_acts s m args below meth c H locs 0 0 (qI E A (fun r (u : V × V × V × V × V × V × V × V × V × V × V) => post r u.1 u.2.1 u.2.2.1 u.2.2.2.1 u.2.2.2.2.1 u.2.2.2.2.2.1 u.2.2.2.2.2.2.1 u.2.2.2.2.2.2.2.1 u.2.2.2.2.2.2.2.2.1 u.2.2.2.2.2.2.2.2.2.1 u.2.2.2.2.2.2.2.2.2.2) (fun (u : V × V × V × V × V × V × V × V × V × V × V) => (List.flatten [cG aG (a0 0) (a1 0) (a2 0) (a3 0) (aH 0) (aS 0) u.1, cM E a0 u.2.1, cM E a1 u.2.2.1, cM E a2 u.2.2.2.1, cM E a3 u.2.2.2.2.1, cH E aH (h0 0) (h1 0) (h2 0) (h3 0) u.2.2.2.2.2.1, cM E h0 u.2.2.2.2.2.2.1, cM E h1 u.2.2.2.2.2.2.2.1, cM E h2 u.2.2.2.2.2.2.2.2.1, cM E h3 u.2.2.2.2.2.2.2.2.2.1, cS E aS u.2.2.2.2.2.2.2.2.2.2])) below args s) (F0 m 1290 ls [.int q0]) := by
  have hx := C0.1
  have hb := C0.2.1
  intro q0 v0 v1 v2 v3 v4 v5 v6 v7 v8 v9 v10 h H locs ls hw hl
  unfold sj_L_acts_1290 at h
  refine x_ldc (v := (-10000001)) C0 1 rfl dL_acts_1290 ?_
  refine lv_goto (tgt := 1297) hx hb dL_acts_1292 (by decide) ?_
  exact j_L_acts_1297 C0 _ _ _ _ _ _ _ _ _ _ _ _ _ h _ _ _ hw (lv_sub hl [] rfl)
set_option maxRecDepth 100000 in
set_option maxHeartbeats 4000000 in
theorem j_L_acts_1262 {p : Program} {l : Launch} {e : Env} {s : State} {m : MethodId} {below : List Frame} {meth : Method} {c : Code} {E : EE} {A : Nat → Prop} {aG : Nat → Nat} {a0 : Nat → Nat} {a1 : Nat → Nat} {a2 : Nat → Nat} {a3 : Nat → Nat} {aH : Nat → Nat} {h0 : Nat → Nat} {h1 : Nat → Nat} {h2 : Nat → Nat} {h3 : Nat → Nat} {aS : Nat → Nat} {args : Array Value} (C0 : Cx E p s m args meth c A cL_acts 17 RL wsL_acts (some .boolean)) {post : Int32 → V → V → V → V → V → V → V → V → V → V → V → Prop}  : ∀ (x11 : Int32) (x12 : Int32) (q0 : Int32) (v0 : V) (v1 : V) (v2 : V) (v3 : V) (v4 : V) (v5 : V) (v6 : V) (v7 : V) (v8 : V) (v9 : V) (v10 : V), sj_L_acts_1262 post  x11 x12 q0 v0 v1 v2 v3 v4 v5 v6 v7 v8 v9 v10 → ∀ (H : Heap) (locs : List Loc) (ls : Array Slot), mw E A s.heap H locs (List.flatten [cG aG (a0 0) (a1 0) (a2 0) (a3 0) (aH 0) (aS 0) v0, cM E a0 v1, cM E a1 v2, cM E a2 v3, cM E a3 v4, cH E aH (h0 0) (h1 0) (h2 0) (h3 0) v5, cM E h0 v6, cM E h1 v7, cM E h2 v8, cM E h3 v9, cS E aS v10]) → lv_has ls 17 [(0, .ref (aG 0)), (11, .int x11), (12, .int x12)] → W p l e rmL_acts s m args below meth c H locs 0 0 (qI E A (fun r (u : V × V × V × V × V × V × V × V × V × V × V) => post r u.1 u.2.1 u.2.2.1 u.2.2.2.1 u.2.2.2.2.1 u.2.2.2.2.2.1 u.2.2.2.2.2.2.1 u.2.2.2.2.2.2.2.1 u.2.2.2.2.2.2.2.2.1 u.2.2.2.2.2.2.2.2.2.1 u.2.2.2.2.2.2.2.2.2.2) (fun (u : V × V × V × V × V × V × V × V × V × V × V) => (List.flatten [cG aG (a0 0) (a1 0) (a2 0) (a3 0) (aH 0) (aS 0) u.1, cM E a0 u.2.1, cM E a1 u.2.2.1, cM E a2 u.2.2.2.1, cM E a3 u.2.2.2.2.1, cH E aH (h0 0) (h1 0) (h2 0) (h3 0) u.2.2.2.2.2.1, cM E h0 u.2.2.2.2.2.2.1, cM E h1 u.2.2.2.2.2.2.2.1, cM E h2 u.2.2.2.2.2.2.2.2.1, cM E h3 u.2.2.2.2.2.2.2.2.2.1, cS E aS u.2.2.2.2.2.2.2.2.2.2])) below args s) (F0 m 1262 ls [.int q0]) := by
  have hx := C0.1
  have hb := C0.2.1
  intro x11 x12 q0 v0 v1 v2 v3 v4 v5 v6 v7 v8 v9 v10 h H locs ls hw hl
  unfold sj_L_acts_1262 at h
  refine lv_istore (lv' := [(13, .int q0), (0, .ref (aG 0)), (11, .int x11), (12, .int x12)]) hx hb dL_acts_1262 hl (by decide) rfl (fun ls hl => ?_)
  refine lv_aload_n hx hb dL_acts_1264 rfl (lv_at hl 1 rfl) ?_
  refine lv_iload hx hb dL_acts_1265 (lv_at hl 2 rfl) ?_
  refine lv_iload hx hb dL_acts_1267 (lv_at hl 3 rfl) ?_
  refine x_cV (As := [.int x11, .int x12]) (rest := []) (F := (List.flatten [cM E a2 v3, cM E a3 v4, cS E aS v10])) C0 hw (p_fl (ds := [cG aG (a0 0) (a1 0) (a2 0) (a3 0) (aH 0) (aS 0) v0, cM E a0 v1, cM E a1 v2, cH E aH (h0 0) (h1 0) (h2 0) (h3 0) v5, cM E h0 v6, cM E h1 v7, cM E h2 v8, cM E h3 v9]) ((p_pk _ 0 _ rfl).trans (List.Perm.cons _ ((p_pk _ 0 _ rfl).trans (List.Perm.cons _ ((p_pk _ 0 _ rfl).trans (List.Perm.cons _ ((p_pk _ 2 _ rfl).trans (List.Perm.cons _ ((p_pk _ 2 _ rfl).trans (List.Perm.cons _ ((p_pk _ 2 _ rfl).trans (List.Perm.cons _ ((p_pk _ 2 _ rfl).trans (List.Perm.cons _ ((p_pk _ 2 _ rfl).trans (List.Perm.cons _ (List.Perm.refl _)))))))))))))))))) hl.1 0 6 rfl rfl (c_X6_set l E aG a0 a1 a2 a3 aH h0 h1 h2 h3 aS h) 2 gL_acts_X6_set rfl ⟨rfl, rfl⟩ (by decide +kernel) ⟨Nat.le_of_ble_eq_true rfl, Nat.le_of_ble_eq_true rfl⟩ rfl rfl (Nat.le_of_ble_eq_true rfl) dL_acts_1269 ⟨Nat.zero_le _, Nat.zero_le _⟩ (fun r_84 u_97 H locs h hw => ?_)
  obtain ⟨v_85, v_86, v_87, v_88, v_89, v_90, v_91, v_92⟩ := u_97
  replace hw : mw E A s.heap H locs (List.flatten [cG aG (a0 0) (a1 0) (a2 0) (a3 0) (aH 0) (aS 0) v_85, cM E a0 v_86, cM E a1 v_87, cM E a2 v3, cM E a3 v4, cH E aH (h0 0) (h1 0) (h2 0) (h3 0) v_88, cM E h0 v_89, cM E h1 v_90, cM E h2 v_91, cM E h3 v_92, cS E aS v10]) := hw.perm (p_bk (ds := [cG aG (a0 0) (a1 0) (a2 0) (a3 0) (aH 0) (aS 0) v_85, cM E a0 v_86, cM E a1 v_87, cH E aH (h0 0) (h1 0) (h2 0) (h3 0) v_88, cM E h0 v_89, cM E h1 v_90, cM E h2 v_91, cM E h3 v_92]) ((p_pk _ 0 _ rfl).trans (List.Perm.cons _ ((p_pk _ 0 _ rfl).trans (List.Perm.cons _ ((p_pk _ 0 _ rfl).trans (List.Perm.cons _ ((p_pk _ 2 _ rfl).trans (List.Perm.cons _ ((p_pk _ 2 _ rfl).trans (List.Perm.cons _ ((p_pk _ 2 _ rfl).trans (List.Perm.cons _ ((p_pk _ 2 _ rfl).trans (List.Perm.cons _ ((p_pk _ 2 _ rfl).trans (List.Perm.cons _ (List.Perm.refl _))))))))))))))))))
  refine lv_iload hx hb dL_acts_1272 (lv_at hl 2 rfl) ?_
  refine lv_iconst (v := 2) hx hb dL_acts_1274 (by decide) ?_
  refine lv_icmp_eq (tgt := 1290) hx hb dL_acts_1275 (by decide) (fun c_96 => ?_) (fun c_96 => ?_)
  · replace h := h.1 c_96
    exact j_L_acts_1290 C0 _ _ _ _ _ _ _ _ _ _ _ _ h _ _ _ hw (lv_sub hl [] rfl)
  · replace h := h.2 c_96
    refine lv_iload hx hb dL_acts_1278 (lv_at hl 2 rfl) ?_
    refine lv_if_ne (tgt := 1295) hx hb dL_acts_1280 (by decide) (fun c_95 => ?_) (fun c_95 => ?_)
    · replace h := h.1 c_95
      refine lv_iload hx hb dL_acts_1295 (lv_at hl 0 rfl) ?_
      exact j_L_acts_1297 C0 _ _ _ _ _ _ _ _ _ _ _ _ _ h _ _ _ hw (lv_sub hl [] rfl)
    · replace h := h.2 c_95
      refine lv_iload hx hb dL_acts_1283 (lv_at hl 3 rfl) ?_
      refine lv_bipush (v := 30) hx hb dL_acts_1285 (by decide) ?_
      refine lv_icmp_le (tgt := 1295) hx hb dL_acts_1287 (by decide) (fun c_94 => ?_) (fun c_94 => ?_)
      · replace h := h.1 c_94
        refine lv_iload hx hb dL_acts_1295 (lv_at hl 0 rfl) ?_
        exact j_L_acts_1297 C0 _ _ _ _ _ _ _ _ _ _ _ _ _ h _ _ _ hw (lv_sub hl [] rfl)
      · replace h := h.2 c_94
        exact j_L_acts_1290 C0 _ _ _ _ _ _ _ _ _ _ _ _ h _ _ _ hw (lv_sub hl [] rfl)
set_option maxRecDepth 100000 in
set_option maxHeartbeats 4000000 in
theorem j_L_acts_1154 {p : Program} {l : Launch} {e : Env} {s : State} {m : MethodId} {below : List Frame} {meth : Method} {c : Code} {E : EE} {A : Nat → Prop} {aG : Nat → Nat} {a0 : Nat → Nat} {a1 : Nat → Nat} {a2 : Nat → Nat} {a3 : Nat → Nat} {aH : Nat → Nat} {h0 : Nat → Nat} {h1 : Nat → Nat} {h2 : Nat → Nat} {h3 : Nat → Nat} {aS : Nat → Nat} {args : Array Value} (C0 : Cx E p s m args meth c A cL_acts 17 RL wsL_acts (some .boolean)) {post : Int32 → V → V → V → V → V → V → V → V → V → V → V → Prop}  : ∀ (x13 : Int32) (v0 : V) (v1 : V) (v2 : V) (v3 : V) (v4 : V) (v5 : V) (v6 : V) (v7 : V) (v8 : V) (v9 : V) (v10 : V), sj_L_acts_1154 post  x13 v0 v1 v2 v3 v4 v5 v6 v7 v8 v9 v10 → ∀ (H : Heap) (locs : List Loc) (ls : Array Slot), mw E A s.heap H locs (List.flatten [cG aG (a0 0) (a1 0) (a2 0) (a3 0) (aH 0) (aS 0) v0, cM E a0 v1, cM E a1 v2, cM E a2 v3, cM E a3 v4, cH E aH (h0 0) (h1 0) (h2 0) (h3 0) v5, cM E h0 v6, cM E h1 v7, cM E h2 v8, cM E h3 v9, cS E aS v10]) → lv_has ls 17 [(13, .int x13)] → W p l e rmL_acts s m args below meth c H locs 0 0 (qI E A (fun r (u : V × V × V × V × V × V × V × V × V × V × V) => post r u.1 u.2.1 u.2.2.1 u.2.2.2.1 u.2.2.2.2.1 u.2.2.2.2.2.1 u.2.2.2.2.2.2.1 u.2.2.2.2.2.2.2.1 u.2.2.2.2.2.2.2.2.1 u.2.2.2.2.2.2.2.2.2.1 u.2.2.2.2.2.2.2.2.2.2) (fun (u : V × V × V × V × V × V × V × V × V × V × V) => (List.flatten [cG aG (a0 0) (a1 0) (a2 0) (a3 0) (aH 0) (aS 0) u.1, cM E a0 u.2.1, cM E a1 u.2.2.1, cM E a2 u.2.2.2.1, cM E a3 u.2.2.2.2.1, cH E aH (h0 0) (h1 0) (h2 0) (h3 0) u.2.2.2.2.2.1, cM E h0 u.2.2.2.2.2.2.1, cM E h1 u.2.2.2.2.2.2.2.1, cM E h2 u.2.2.2.2.2.2.2.2.1, cM E h3 u.2.2.2.2.2.2.2.2.2.1, cS E aS u.2.2.2.2.2.2.2.2.2.2])) below args s) (F0 m 1154 ls []) := by
  have hx := C0.1
  have hb := C0.2.1
  intro x13 v0 v1 v2 v3 v4 v5 v6 v7 v8 v9 v10 h H locs ls hw hl
  unfold sj_L_acts_1154 at h
  refine lv_iload hx hb dL_acts_1154 (lv_at hl 0 rfl) ?_
  refine x_ldc (v := (-10000001)) C0 1 rfl dL_acts_1156 ?_
  refine lv_icmp_ne (tgt := 1165) hx hb dL_acts_1158 (by decide) (fun c_119 => ?_) (fun c_119 => ?_)
  · replace h := h.1 c_119
    refine lv_iconst (v := 0) hx hb dL_acts_1165 (by decide) ?_
    refine lv_goto (tgt := 1219) hx hb dL_acts_1166 (by decide) ?_
    exact x_retz C0 rfl ⟨v0, v1, v2, v3, v4, v5, v6, v7, v8, v9, v10⟩ hw h dL_acts_1219
  · replace h := h.2 c_119
    refine lv_iconst (v := 1) hx hb dL_acts_1161 (by decide) ?_
    refine lv_goto (tgt := 1219) hx hb dL_acts_1162 (by decide) ?_
    exact x_retz C0 rfl ⟨v0, v1, v2, v3, v4, v5, v6, v7, v8, v9, v10⟩ hw h dL_acts_1219
set_option maxRecDepth 100000 in
set_option maxHeartbeats 4000000 in
theorem j_L_acts_1124 {p : Program} {l : Launch} {e : Env} {s : State} {m : MethodId} {below : List Frame} {meth : Method} {c : Code} {E : EE} {A : Nat → Prop} {aG : Nat → Nat} {a0 : Nat → Nat} {a1 : Nat → Nat} {a2 : Nat → Nat} {a3 : Nat → Nat} {aH : Nat → Nat} {h0 : Nat → Nat} {h1 : Nat → Nat} {h2 : Nat → Nat} {h3 : Nat → Nat} {aS : Nat → Nat} {args : Array Value} (C0 : Cx E p s m args meth c A cL_acts 17 RL wsL_acts (some .boolean)) {post : Int32 → V → V → V → V → V → V → V → V → V → V → V → Prop}  : ∀ (q0 : Int32) (v0 : V) (v1 : V) (v2 : V) (v3 : V) (v4 : V) (v5 : V) (v6 : V) (v7 : V) (v8 : V) (v9 : V) (v10 : V), sj_L_acts_1124 post  q0 v0 v1 v2 v3 v4 v5 v6 v7 v8 v9 v10 → ∀ (H : Heap) (locs : List Loc) (ls : Array Slot), mw E A s.heap H locs (List.flatten [cG aG (a0 0) (a1 0) (a2 0) (a3 0) (aH 0) (aS 0) v0, cM E a0 v1, cM E a1 v2, cM E a2 v3, cM E a3 v4, cH E aH (h0 0) (h1 0) (h2 0) (h3 0) v5, cM E h0 v6, cM E h1 v7, cM E h2 v8, cM E h3 v9, cS E aS v10]) → lv_has ls 17 [(0, .ref (aG 0))] → W p l e rmL_acts s m args below meth c H locs 0 0 (qI E A (fun r (u : V × V × V × V × V × V × V × V × V × V × V) => post r u.1 u.2.1 u.2.2.1 u.2.2.2.1 u.2.2.2.2.1 u.2.2.2.2.2.1 u.2.2.2.2.2.2.1 u.2.2.2.2.2.2.2.1 u.2.2.2.2.2.2.2.2.1 u.2.2.2.2.2.2.2.2.2.1 u.2.2.2.2.2.2.2.2.2.2) (fun (u : V × V × V × V × V × V × V × V × V × V × V) => (List.flatten [cG aG (a0 0) (a1 0) (a2 0) (a3 0) (aH 0) (aS 0) u.1, cM E a0 u.2.1, cM E a1 u.2.2.1, cM E a2 u.2.2.2.1, cM E a3 u.2.2.2.2.1, cH E aH (h0 0) (h1 0) (h2 0) (h3 0) u.2.2.2.2.2.1, cM E h0 u.2.2.2.2.2.2.1, cM E h1 u.2.2.2.2.2.2.2.1, cM E h2 u.2.2.2.2.2.2.2.2.1, cM E h3 u.2.2.2.2.2.2.2.2.2.1, cS E aS u.2.2.2.2.2.2.2.2.2.2])) below args s) (F0 m 1124 ls [.int q0]) := by
  have hx := C0.1
  have hb := C0.2.1
  intro q0 v0 v1 v2 v3 v4 v5 v6 v7 v8 v9 v10 h H locs ls hw hl
  unfold sj_L_acts_1124 at h
  refine lv_istore (lv' := [(11, .int q0), (0, .ref (aG 0))]) hx hb dL_acts_1124 hl (by decide) rfl (fun ls hl => ?_)
  refine lv_aload_n hx hb dL_acts_1126 rfl (lv_at hl 1 rfl) ?_
  refine lv_bipush (v := 7) hx hb dL_acts_1127 (by decide) ?_
  refine x_cV (As := [.int 7]) (rest := []) (F := (List.flatten [cM E a1 v2, cM E a2 v3, cM E a3 v4, cM E h0 v6, cM E h1 v7, cM E h2 v8, cM E h3 v9])) C0 hw (p_fl (ds := [cG aG (a0 0) (a1 0) (a2 0) (a3 0) (aH 0) (aS 0) v0, cM E a0 v1, cH E aH (h0 0) (h1 0) (h2 0) (h3 0) v5, cS E aS v10]) ((p_pk _ 0 _ rfl).trans (List.Perm.cons _ ((p_pk _ 0 _ rfl).trans (List.Perm.cons _ ((p_pk _ 3 _ rfl).trans (List.Perm.cons _ ((p_pk _ 7 _ rfl).trans (List.Perm.cons _ (List.Perm.refl _)))))))))) hl.1 0 6 rfl rfl (c_X6_count l E aG a0 a1 a2 a3 aH h0 h1 h2 h3 aS h) 1 gL_acts_X6_count rfl ⟨rfl, rfl⟩ (by decide +kernel) ⟨Nat.le_of_ble_eq_true rfl, Nat.le_of_ble_eq_true rfl⟩ rfl rfl (Nat.le_of_ble_eq_true rfl) dL_acts_1129 ⟨Nat.zero_le _, Nat.zero_le _⟩ (fun r_105 u_133 H locs h hw => ?_)
  obtain ⟨v_106, v_107, v_108, v_109⟩ := u_133
  replace hw : mw E A s.heap H locs (List.flatten [cG aG (a0 0) (a1 0) (a2 0) (a3 0) (aH 0) (aS 0) v_106, cM E a0 v_107, cM E a1 v2, cM E a2 v3, cM E a3 v4, cH E aH (h0 0) (h1 0) (h2 0) (h3 0) v_108, cM E h0 v6, cM E h1 v7, cM E h2 v8, cM E h3 v9, cS E aS v_109]) := hw.perm (p_bk (ds := [cG aG (a0 0) (a1 0) (a2 0) (a3 0) (aH 0) (aS 0) v_106, cM E a0 v_107, cH E aH (h0 0) (h1 0) (h2 0) (h3 0) v_108, cS E aS v_109]) ((p_pk _ 0 _ rfl).trans (List.Perm.cons _ ((p_pk _ 0 _ rfl).trans (List.Perm.cons _ ((p_pk _ 3 _ rfl).trans (List.Perm.cons _ ((p_pk _ 7 _ rfl).trans (List.Perm.cons _ (List.Perm.refl _))))))))))
  refine lv_istore (lv' := [(12, .int r_105), (11, .int q0), (0, .ref (aG 0))]) hx hb dL_acts_1132 hl (by decide) rfl (fun ls hl => ?_)
  refine lv_aload_n hx hb dL_acts_1134 rfl (lv_at hl 2 rfl) ?_
  refine lv_iload hx hb dL_acts_1135 (lv_at hl 1 rfl) ?_
  refine x_cV (As := [.int q0]) (rest := []) (F := (List.flatten [cM E a2 v3, cM E a3 v4, cS E aS v_109])) C0 hw (p_fl (ds := [cG aG (a0 0) (a1 0) (a2 0) (a3 0) (aH 0) (aS 0) v_106, cM E a0 v_107, cM E a1 v2, cH E aH (h0 0) (h1 0) (h2 0) (h3 0) v_108, cM E h0 v6, cM E h1 v7, cM E h2 v8, cM E h3 v9]) ((p_pk _ 0 _ rfl).trans (List.Perm.cons _ ((p_pk _ 0 _ rfl).trans (List.Perm.cons _ ((p_pk _ 0 _ rfl).trans (List.Perm.cons _ ((p_pk _ 2 _ rfl).trans (List.Perm.cons _ ((p_pk _ 2 _ rfl).trans (List.Perm.cons _ ((p_pk _ 2 _ rfl).trans (List.Perm.cons _ ((p_pk _ 2 _ rfl).trans (List.Perm.cons _ ((p_pk _ 2 _ rfl).trans (List.Perm.cons _ (List.Perm.refl _)))))))))))))))))) hl.1 0 6 rfl rfl (c_X6_pause l E aG a0 a1 a2 a3 aH h0 h1 h2 h3 aS h) 1 gL_acts_X6_pause rfl ⟨rfl, rfl⟩ (by decide +kernel) ⟨Nat.le_of_ble_eq_true rfl, Nat.le_of_ble_eq_true rfl⟩ rfl rfl (Nat.le_of_ble_eq_true rfl) dL_acts_1137 ⟨Nat.zero_le _, Nat.zero_le _⟩ (fun r_110 u_132 H locs h hw => ?_)
  obtain ⟨v_111, v_112, v_113, v_114, v_115, v_116, v_117, v_118⟩ := u_132
  replace hw : mw E A s.heap H locs (List.flatten [cG aG (a0 0) (a1 0) (a2 0) (a3 0) (aH 0) (aS 0) v_111, cM E a0 v_112, cM E a1 v_113, cM E a2 v3, cM E a3 v4, cH E aH (h0 0) (h1 0) (h2 0) (h3 0) v_114, cM E h0 v_115, cM E h1 v_116, cM E h2 v_117, cM E h3 v_118, cS E aS v_109]) := hw.perm (p_bk (ds := [cG aG (a0 0) (a1 0) (a2 0) (a3 0) (aH 0) (aS 0) v_111, cM E a0 v_112, cM E a1 v_113, cH E aH (h0 0) (h1 0) (h2 0) (h3 0) v_114, cM E h0 v_115, cM E h1 v_116, cM E h2 v_117, cM E h3 v_118]) ((p_pk _ 0 _ rfl).trans (List.Perm.cons _ ((p_pk _ 0 _ rfl).trans (List.Perm.cons _ ((p_pk _ 0 _ rfl).trans (List.Perm.cons _ ((p_pk _ 2 _ rfl).trans (List.Perm.cons _ ((p_pk _ 2 _ rfl).trans (List.Perm.cons _ ((p_pk _ 2 _ rfl).trans (List.Perm.cons _ ((p_pk _ 2 _ rfl).trans (List.Perm.cons _ ((p_pk _ 2 _ rfl).trans (List.Perm.cons _ (List.Perm.refl _))))))))))))))))))
  refine lv_istore (lv' := [(13, .int r_110), (12, .int r_105), (11, .int q0), (0, .ref (aG 0))]) hx hb dL_acts_1140 hl (by decide) rfl (fun ls hl => ?_)
  refine lv_iload hx hb dL_acts_1142 (lv_at hl 2 rfl) ?_
  refine lv_if_eq (tgt := 1154) hx hb dL_acts_1144 (by decide) (fun c_131 => ?_) (fun c_131 => ?_)
  · replace h := h.1 c_131
    exact j_L_acts_1154 C0 _ _ _ _ _ _ _ _ _ _ _ _ h _ _ _ hw (lv_sub hl [0] rfl)
  · replace h := h.2 c_131
    refine lv_iload hx hb dL_acts_1147 (lv_at hl 2 rfl) ?_
    refine lv_bipush (v := 100) hx hb dL_acts_1149 (by decide) ?_
    refine lv_icmp_ne (tgt := 1169) hx hb dL_acts_1151 (by decide) (fun c_130 => ?_) (fun c_130 => ?_)
    · replace h := h.1 c_130
      refine lv_iload hx hb dL_acts_1169 (lv_at hl 0 rfl) ?_
      refine x_ldc (v := (-10000003)) C0 2 rfl dL_acts_1171 ?_
      refine lv_icmp_ne (tgt := 1195) hx hb dL_acts_1173 (by decide) (fun c_129 => ?_) (fun c_129 => ?_)
      · replace h := h.1 c_129
        refine lv_iload hx hb dL_acts_1195 (lv_at hl 0 rfl) ?_
        refine lv_if_lt (tgt := 1218) hx hb dL_acts_1197 (by decide) (fun c_127 => ?_) (fun c_127 => ?_)
        · replace h := h.1 c_127
          refine lv_iconst (v := 0) hx hb dL_acts_1218 (by decide) ?_
          exact x_retz C0 rfl ⟨v_111, v_112, v_113, v3, v4, v_114, v_115, v_116, v_117, v_118, v_109⟩ hw h dL_acts_1219
        · replace h := h.2 c_127
          refine lv_aload_n hx hb dL_acts_1200 rfl (lv_at hl 3 rfl) ?_
          refine lv_bipush (v := 7) hx hb dL_acts_1201 (by decide) ?_
          refine x_cV (As := [.int 7]) (rest := []) (F := (List.flatten [cM E a1 v_113, cM E a2 v3, cM E a3 v4, cM E h0 v_115, cM E h1 v_116, cM E h2 v_117, cM E h3 v_118])) C0 hw (p_fl (ds := [cG aG (a0 0) (a1 0) (a2 0) (a3 0) (aH 0) (aS 0) v_111, cM E a0 v_112, cH E aH (h0 0) (h1 0) (h2 0) (h3 0) v_114, cS E aS v_109]) ((p_pk _ 0 _ rfl).trans (List.Perm.cons _ ((p_pk _ 0 _ rfl).trans (List.Perm.cons _ ((p_pk _ 3 _ rfl).trans (List.Perm.cons _ ((p_pk _ 7 _ rfl).trans (List.Perm.cons _ (List.Perm.refl _)))))))))) hl.1 0 6 rfl rfl (c_X6_count l E aG a0 a1 a2 a3 aH h0 h1 h2 h3 aS h) 1 gL_acts_X6_count rfl ⟨rfl, rfl⟩ (by decide +kernel) ⟨Nat.le_of_ble_eq_true rfl, Nat.le_of_ble_eq_true rfl⟩ rfl rfl (Nat.le_of_ble_eq_true rfl) dL_acts_1203 ⟨Nat.zero_le _, Nat.zero_le _⟩ (fun r_120 u_126 H locs h hw => ?_)
          obtain ⟨v_121, v_122, v_123, v_124⟩ := u_126
          replace hw : mw E A s.heap H locs (List.flatten [cG aG (a0 0) (a1 0) (a2 0) (a3 0) (aH 0) (aS 0) v_121, cM E a0 v_122, cM E a1 v_113, cM E a2 v3, cM E a3 v4, cH E aH (h0 0) (h1 0) (h2 0) (h3 0) v_123, cM E h0 v_115, cM E h1 v_116, cM E h2 v_117, cM E h3 v_118, cS E aS v_124]) := hw.perm (p_bk (ds := [cG aG (a0 0) (a1 0) (a2 0) (a3 0) (aH 0) (aS 0) v_121, cM E a0 v_122, cH E aH (h0 0) (h1 0) (h2 0) (h3 0) v_123, cS E aS v_124]) ((p_pk _ 0 _ rfl).trans (List.Perm.cons _ ((p_pk _ 0 _ rfl).trans (List.Perm.cons _ ((p_pk _ 3 _ rfl).trans (List.Perm.cons _ ((p_pk _ 7 _ rfl).trans (List.Perm.cons _ (List.Perm.refl _))))))))))
          refine lv_iload hx hb dL_acts_1206 (lv_at hl 1 rfl) ?_
          refine lv_iload hx hb dL_acts_1208 (lv_at hl 2 rfl) ?_
          refine lv_iadd hx hb dL_acts_1210 ?_
          refine lv_icmp_ne (tgt := 1218) hx hb dL_acts_1211 (by decide) (fun c_125 => ?_) (fun c_125 => ?_)
          · replace h := h.1 c_125
            refine lv_iconst (v := 0) hx hb dL_acts_1218 (by decide) ?_
            exact x_retz C0 rfl ⟨v_121, v_122, v_113, v3, v4, v_123, v_115, v_116, v_117, v_118, v_124⟩ hw h dL_acts_1219
          · replace h := h.2 c_125
            refine lv_iconst (v := 1) hx hb dL_acts_1214 (by decide) ?_
            refine lv_goto (tgt := 1219) hx hb dL_acts_1215 (by decide) ?_
            exact x_retz C0 rfl ⟨v_121, v_122, v_113, v3, v4, v_123, v_115, v_116, v_117, v_118, v_124⟩ hw h dL_acts_1219
      · replace h := h.2 c_129
        refine lv_iload hx hb dL_acts_1176 (lv_at hl 1 rfl) ?_
        refine lv_iload hx hb dL_acts_1178 (lv_at hl 2 rfl) ?_
        refine lv_iadd hx hb dL_acts_1180 ?_
        refine lv_sipush (v := 2000) hx hb dL_acts_1181 (by decide) ?_
        refine lv_icmp_le (tgt := 1191) hx hb dL_acts_1184 (by decide) (fun c_128 => ?_) (fun c_128 => ?_)
        · replace h := h.1 c_128
          refine lv_iconst (v := 0) hx hb dL_acts_1191 (by decide) ?_
          refine lv_goto (tgt := 1219) hx hb dL_acts_1192 (by decide) ?_
          exact x_retz C0 rfl ⟨v_111, v_112, v_113, v3, v4, v_114, v_115, v_116, v_117, v_118, v_109⟩ hw h dL_acts_1219
        · replace h := h.2 c_128
          refine lv_iconst (v := 1) hx hb dL_acts_1187 (by decide) ?_
          refine lv_goto (tgt := 1219) hx hb dL_acts_1188 (by decide) ?_
          exact x_retz C0 rfl ⟨v_111, v_112, v_113, v3, v4, v_114, v_115, v_116, v_117, v_118, v_109⟩ hw h dL_acts_1219
    · replace h := h.2 c_130
      exact j_L_acts_1154 C0 _ _ _ _ _ _ _ _ _ _ _ _ h _ _ _ hw (lv_sub hl [0] rfl)
set_option maxRecDepth 100000 in
set_option maxHeartbeats 4000000 in
theorem j_L_acts_1080 {p : Program} {l : Launch} {e : Env} {s : State} {m : MethodId} {below : List Frame} {meth : Method} {c : Code} {E : EE} {A : Nat → Prop} {aG : Nat → Nat} {a0 : Nat → Nat} {a1 : Nat → Nat} {a2 : Nat → Nat} {a3 : Nat → Nat} {aH : Nat → Nat} {h0 : Nat → Nat} {h1 : Nat → Nat} {h2 : Nat → Nat} {h3 : Nat → Nat} {aS : Nat → Nat} {args : Array Value} (C0 : Cx E p s m args meth c A cL_acts 17 RL wsL_acts (some .boolean)) {post : Int32 → V → V → V → V → V → V → V → V → V → V → V → Prop}  : ∀ (q0 : Int32) (q1 : Int32) (v0 : V) (v1 : V) (v2 : V) (v3 : V) (v4 : V) (v5 : V) (v6 : V) (v7 : V) (v8 : V) (v9 : V) (v10 : V), sj_L_acts_1080 post  q0 q1 v0 v1 v2 v3 v4 v5 v6 v7 v8 v9 v10 → ∀ (H : Heap) (locs : List Loc) (ls : Array Slot), mw E A s.heap H locs (List.flatten [cG aG (a0 0) (a1 0) (a2 0) (a3 0) (aH 0) (aS 0) v0, cM E a0 v1, cM E a1 v2, cM E a2 v3, cM E a3 v4, cH E aH (h0 0) (h1 0) (h2 0) (h3 0) v5, cM E h0 v6, cM E h1 v7, cM E h2 v8, cM E h3 v9, cS E aS v10]) → lv_has ls 17 [] → W p l e rmL_acts s m args below meth c H locs 0 0 (qI E A (fun r (u : V × V × V × V × V × V × V × V × V × V × V) => post r u.1 u.2.1 u.2.2.1 u.2.2.2.1 u.2.2.2.2.1 u.2.2.2.2.2.1 u.2.2.2.2.2.2.1 u.2.2.2.2.2.2.2.1 u.2.2.2.2.2.2.2.2.1 u.2.2.2.2.2.2.2.2.2.1 u.2.2.2.2.2.2.2.2.2.2) (fun (u : V × V × V × V × V × V × V × V × V × V × V) => (List.flatten [cG aG (a0 0) (a1 0) (a2 0) (a3 0) (aH 0) (aS 0) u.1, cM E a0 u.2.1, cM E a1 u.2.2.1, cM E a2 u.2.2.2.1, cM E a3 u.2.2.2.2.1, cH E aH (h0 0) (h1 0) (h2 0) (h3 0) u.2.2.2.2.2.1, cM E h0 u.2.2.2.2.2.2.1, cM E h1 u.2.2.2.2.2.2.2.1, cM E h2 u.2.2.2.2.2.2.2.2.1, cM E h3 u.2.2.2.2.2.2.2.2.2.1, cS E aS u.2.2.2.2.2.2.2.2.2.2])) below args s) (F0 m 1080 ls [.int q1, .int q0]) := by
  have hx := C0.1
  have hb := C0.2.1
  intro q0 q1 v0 v1 v2 v3 v4 v5 v6 v7 v8 v9 v10 h H locs ls hw hl
  unfold sj_L_acts_1080 at h
  refine lv_icmp_ne (tgt := 1087) hx hb dL_acts_1080 (by decide) (fun c_151 => ?_) (fun c_151 => ?_)
  · replace h := h.1 c_151
    refine lv_iconst (v := 0) hx hb dL_acts_1087 (by decide) ?_
    exact x_retz C0 rfl ⟨v0, v1, v2, v3, v4, v5, v6, v7, v8, v9, v10⟩ hw h dL_acts_1088
  · replace h := h.2 c_151
    refine lv_iconst (v := 1) hx hb dL_acts_1083 (by decide) ?_
    refine lv_goto (tgt := 1088) hx hb dL_acts_1084 (by decide) ?_
    exact x_retz C0 rfl ⟨v0, v1, v2, v3, v4, v5, v6, v7, v8, v9, v10⟩ hw h dL_acts_1088
set_option maxRecDepth 100000 in
set_option maxHeartbeats 4000000 in
theorem j_L_acts_1063 {p : Program} {l : Launch} {e : Env} {s : State} {m : MethodId} {below : List Frame} {meth : Method} {c : Code} {E : EE} {A : Nat → Prop} {aG : Nat → Nat} {a0 : Nat → Nat} {a1 : Nat → Nat} {a2 : Nat → Nat} {a3 : Nat → Nat} {aH : Nat → Nat} {h0 : Nat → Nat} {h1 : Nat → Nat} {h2 : Nat → Nat} {h3 : Nat → Nat} {aS : Nat → Nat} {args : Array Value} (C0 : Cx E p s m args meth c A cL_acts 17 RL wsL_acts (some .boolean)) {post : Int32 → V → V → V → V → V → V → V → V → V → V → V → Prop}  : ∀ (q0 : Int32) (v0 : V) (v1 : V) (v2 : V) (v3 : V) (v4 : V) (v5 : V) (v6 : V) (v7 : V) (v8 : V) (v9 : V) (v10 : V), sj_L_acts_1063 post  q0 v0 v1 v2 v3 v4 v5 v6 v7 v8 v9 v10 → ∀ (H : Heap) (locs : List Loc) (ls : Array Slot), mw E A s.heap H locs (List.flatten [cG aG (a0 0) (a1 0) (a2 0) (a3 0) (aH 0) (aS 0) v0, cM E a0 v1, cM E a1 v2, cM E a2 v3, cM E a3 v4, cH E aH (h0 0) (h1 0) (h2 0) (h3 0) v5, cM E h0 v6, cM E h1 v7, cM E h2 v8, cM E h3 v9, cS E aS v10]) → lv_has ls 17 [] → W p l e rmL_acts s m args below meth c H locs 0 0 (qI E A (fun r (u : V × V × V × V × V × V × V × V × V × V × V) => post r u.1 u.2.1 u.2.2.1 u.2.2.2.1 u.2.2.2.2.1 u.2.2.2.2.2.1 u.2.2.2.2.2.2.1 u.2.2.2.2.2.2.2.1 u.2.2.2.2.2.2.2.2.1 u.2.2.2.2.2.2.2.2.2.1 u.2.2.2.2.2.2.2.2.2.2) (fun (u : V × V × V × V × V × V × V × V × V × V × V) => (List.flatten [cG aG (a0 0) (a1 0) (a2 0) (a3 0) (aH 0) (aS 0) u.1, cM E a0 u.2.1, cM E a1 u.2.2.1, cM E a2 u.2.2.2.1, cM E a3 u.2.2.2.2.1, cH E aH (h0 0) (h1 0) (h2 0) (h3 0) u.2.2.2.2.2.1, cM E h0 u.2.2.2.2.2.2.1, cM E h1 u.2.2.2.2.2.2.2.1, cM E h2 u.2.2.2.2.2.2.2.2.1, cM E h3 u.2.2.2.2.2.2.2.2.2.1, cS E aS u.2.2.2.2.2.2.2.2.2.2])) below args s) (F0 m 1063 ls [.int q0]) := by
  have hx := C0.1
  have hb := C0.2.1
  intro q0 v0 v1 v2 v3 v4 v5 v6 v7 v8 v9 v10 h H locs ls hw hl
  unfold sj_L_acts_1063 at h
  refine x_ldc (v := (-10000001)) C0 1 rfl dL_acts_1063 ?_
  refine lv_goto (tgt := 1080) hx hb dL_acts_1065 (by decide) ?_
  exact j_L_acts_1080 C0 _ _ _ _ _ _ _ _ _ _ _ _ _ h _ _ _ hw (lv_sub hl [] rfl)
set_option maxRecDepth 100000 in
set_option maxHeartbeats 4000000 in
theorem j_L_acts_1033 {p : Program} {l : Launch} {e : Env} {s : State} {m : MethodId} {below : List Frame} {meth : Method} {c : Code} {E : EE} {A : Nat → Prop} {aG : Nat → Nat} {a0 : Nat → Nat} {a1 : Nat → Nat} {a2 : Nat → Nat} {a3 : Nat → Nat} {aH : Nat → Nat} {h0 : Nat → Nat} {h1 : Nat → Nat} {h2 : Nat → Nat} {h3 : Nat → Nat} {aS : Nat → Nat} {args : Array Value} (C0 : Cx E p s m args meth c A cL_acts 17 RL wsL_acts (some .boolean)) {post : Int32 → V → V → V → V → V → V → V → V → V → V → V → Prop}  : ∀ (x2 : Int32) (x7 : Int32) (x8 : Int32) (x10 : Int32) (x11 : Int32) (q0 : Int32) (v0 : V) (v1 : V) (v2 : V) (v3 : V) (v4 : V) (v5 : V) (v6 : V) (v7 : V) (v8 : V) (v9 : V) (v10 : V), sj_L_acts_1033 post  x2 x7 x8 x10 x11 q0 v0 v1 v2 v3 v4 v5 v6 v7 v8 v9 v10 → ∀ (H : Heap) (locs : List Loc) (ls : Array Slot), mw E A s.heap H locs (List.flatten [cG aG (a0 0) (a1 0) (a2 0) (a3 0) (aH 0) (aS 0) v0, cM E a0 v1, cM E a1 v2, cM E a2 v3, cM E a3 v4, cH E aH (h0 0) (h1 0) (h2 0) (h3 0) v5, cM E h0 v6, cM E h1 v7, cM E h2 v8, cM E h3 v9, cS E aS v10]) → lv_has ls 17 [(0, .ref (aG 0)), (2, .int x2), (7, .int x7), (8, .int x8), (10, .int x10), (11, .int x11)] → W p l e rmL_acts s m args below meth c H locs 0 0 (qI E A (fun r (u : V × V × V × V × V × V × V × V × V × V × V) => post r u.1 u.2.1 u.2.2.1 u.2.2.2.1 u.2.2.2.2.1 u.2.2.2.2.2.1 u.2.2.2.2.2.2.1 u.2.2.2.2.2.2.2.1 u.2.2.2.2.2.2.2.2.1 u.2.2.2.2.2.2.2.2.2.1 u.2.2.2.2.2.2.2.2.2.2) (fun (u : V × V × V × V × V × V × V × V × V × V × V) => (List.flatten [cG aG (a0 0) (a1 0) (a2 0) (a3 0) (aH 0) (aS 0) u.1, cM E a0 u.2.1, cM E a1 u.2.2.1, cM E a2 u.2.2.2.1, cM E a3 u.2.2.2.2.1, cH E aH (h0 0) (h1 0) (h2 0) (h3 0) u.2.2.2.2.2.1, cM E h0 u.2.2.2.2.2.2.1, cM E h1 u.2.2.2.2.2.2.2.1, cM E h2 u.2.2.2.2.2.2.2.2.1, cM E h3 u.2.2.2.2.2.2.2.2.2.1, cS E aS u.2.2.2.2.2.2.2.2.2.2])) below args s) (F0 m 1033 ls [.int q0]) := by
  have hx := C0.1
  have hb := C0.2.1
  intro x2 x7 x8 x10 x11 q0 v0 v1 v2 v3 v4 v5 v6 v7 v8 v9 v10 h H locs ls hw hl
  unfold sj_L_acts_1033 at h
  refine lv_istore (lv' := [(12, .int q0), (0, .ref (aG 0)), (2, .int x2), (7, .int x7), (8, .int x8), (10, .int x10), (11, .int x11)]) hx hb dL_acts_1033 hl (by decide) rfl (fun ls hl => ?_)
  refine lv_aload_n hx hb dL_acts_1035 rfl (lv_at hl 1 rfl) ?_
  refine lv_iload hx hb dL_acts_1036 (lv_at hl 3 rfl) ?_
  refine lv_iload hx hb dL_acts_1038 (lv_at hl 6 rfl) ?_
  refine lv_iload_n hx hb dL_acts_1040 rfl (lv_at hl 2 rfl) ?_
  refine lv_iconst (v := 4) hx hb dL_acts_1041 (by decide) ?_
  refine lv_ishr hx hb dL_acts_1042 ?_
  refine lv_bipush (v := 8) hx hb dL_acts_1043 (by decide) ?_
  refine x_cS (As := [.int (x2 >>> (4 &&& 31)), .int 8]) (rest := [.int x11, .int x7, .ref (aG 0)]) (F := (List.flatten [cG aG (a0 0) (a1 0) (a2 0) (a3 0) (aH 0) (aS 0) v0, cM E a0 v1, cM E a1 v2, cM E a2 v3, cM E a3 v4, cH E aH (h0 0) (h1 0) (h2 0) (h3 0) v5, cM E h0 v6, cM E h1 v7, cM E h2 v8, cM E h3 v9, cS E aS v10])) C0 hw (p_non _) hl.1 (c_L_low l E  h) 2 gL_acts_L_low rfl ⟨rfl, rfl⟩ (by decide +kernel) ⟨Nat.le_of_ble_eq_true rfl, Nat.le_of_ble_eq_true rfl⟩ rfl rfl (Nat.le_of_ble_eq_true rfl) dL_acts_1045 ⟨Nat.zero_le _, Nat.zero_le _⟩ (fun r_141 _u H locs h (hw : mw E A s.heap H locs (List.flatten [cG aG (a0 0) (a1 0) (a2 0) (a3 0) (aH 0) (aS 0) v0, cM E a0 v1, cM E a1 v2, cM E a2 v3, cM E a3 v4, cH E aH (h0 0) (h1 0) (h2 0) (h3 0) v5, cM E h0 v6, cM E h1 v7, cM E h2 v8, cM E h3 v9, cS E aS v10])) => ?_)
  refine x_cV (As := [.int x7, .int x11, .int r_141]) (rest := []) (F := (List.flatten [cM E a2 v3, cM E a3 v4, cS E aS v10])) C0 hw (p_fl (ds := [cG aG (a0 0) (a1 0) (a2 0) (a3 0) (aH 0) (aS 0) v0, cM E a0 v1, cM E a1 v2, cH E aH (h0 0) (h1 0) (h2 0) (h3 0) v5, cM E h0 v6, cM E h1 v7, cM E h2 v8, cM E h3 v9]) ((p_pk _ 0 _ rfl).trans (List.Perm.cons _ ((p_pk _ 0 _ rfl).trans (List.Perm.cons _ ((p_pk _ 0 _ rfl).trans (List.Perm.cons _ ((p_pk _ 2 _ rfl).trans (List.Perm.cons _ ((p_pk _ 2 _ rfl).trans (List.Perm.cons _ ((p_pk _ 2 _ rfl).trans (List.Perm.cons _ ((p_pk _ 2 _ rfl).trans (List.Perm.cons _ ((p_pk _ 2 _ rfl).trans (List.Perm.cons _ (List.Perm.refl _)))))))))))))))))) hl.1 0 6 rfl rfl (c_X6_grade l E aG a0 a1 a2 a3 aH h0 h1 h2 h3 aS h) 3 gL_acts_X6_grade rfl ⟨rfl, rfl⟩ (by decide +kernel) ⟨Nat.le_of_ble_eq_true rfl, Nat.le_of_ble_eq_true rfl⟩ rfl rfl (Nat.le_of_ble_eq_true rfl) dL_acts_1048 ⟨Nat.zero_le _, Nat.zero_le _⟩ (fun r_142 u_155 H locs h hw => ?_)
  obtain ⟨v_143, v_144, v_145, v_146, v_147, v_148, v_149, v_150⟩ := u_155
  replace hw : mw E A s.heap H locs (List.flatten [cG aG (a0 0) (a1 0) (a2 0) (a3 0) (aH 0) (aS 0) v_143, cM E a0 v_144, cM E a1 v_145, cM E a2 v3, cM E a3 v4, cH E aH (h0 0) (h1 0) (h2 0) (h3 0) v_146, cM E h0 v_147, cM E h1 v_148, cM E h2 v_149, cM E h3 v_150, cS E aS v10]) := hw.perm (p_bk (ds := [cG aG (a0 0) (a1 0) (a2 0) (a3 0) (aH 0) (aS 0) v_143, cM E a0 v_144, cM E a1 v_145, cH E aH (h0 0) (h1 0) (h2 0) (h3 0) v_146, cM E h0 v_147, cM E h1 v_148, cM E h2 v_149, cM E h3 v_150]) ((p_pk _ 0 _ rfl).trans (List.Perm.cons _ ((p_pk _ 0 _ rfl).trans (List.Perm.cons _ ((p_pk _ 0 _ rfl).trans (List.Perm.cons _ ((p_pk _ 2 _ rfl).trans (List.Perm.cons _ ((p_pk _ 2 _ rfl).trans (List.Perm.cons _ ((p_pk _ 2 _ rfl).trans (List.Perm.cons _ ((p_pk _ 2 _ rfl).trans (List.Perm.cons _ ((p_pk _ 2 _ rfl).trans (List.Perm.cons _ (List.Perm.refl _))))))))))))))))))
  refine lv_iload hx hb dL_acts_1051 (lv_at hl 4 rfl) ?_
  refine lv_if_eq (tgt := 1063) hx hb dL_acts_1053 (by decide) (fun c_154 => ?_) (fun c_154 => ?_)
  · replace h := h.1 c_154
    exact j_L_acts_1063 C0 _ _ _ _ _ _ _ _ _ _ _ _ h _ _ _ hw (lv_sub hl [] rfl)
  · replace h := h.2 c_154
    refine lv_iload hx hb dL_acts_1056 (lv_at hl 6 rfl) ?_
    refine lv_bipush (v := 10) hx hb dL_acts_1058 (by decide) ?_
    refine lv_icmp_ne (tgt := 1068) hx hb dL_acts_1060 (by decide) (fun c_153 => ?_) (fun c_153 => ?_)
    · replace h := h.1 c_153
      refine lv_iload hx hb dL_acts_1068 (lv_at hl 5 rfl) ?_
      refine lv_if_eq (tgt := 1078) hx hb dL_acts_1070 (by decide) (fun c_152 => ?_) (fun c_152 => ?_)
      · replace h := h.1 c_152
        refine lv_iload hx hb dL_acts_1078 (lv_at hl 0 rfl) ?_
        exact j_L_acts_1080 C0 _ _ _ _ _ _ _ _ _ _ _ _ _ h _ _ _ hw (lv_sub hl [] rfl)
      · replace h := h.2 c_152
        refine x_ldc (v := (-10000002)) C0 3 rfl dL_acts_1073 ?_
        refine lv_goto (tgt := 1080) hx hb dL_acts_1075 (by decide) ?_
        exact j_L_acts_1080 C0 _ _ _ _ _ _ _ _ _ _ _ _ _ h _ _ _ hw (lv_sub hl [] rfl)
    · replace h := h.2 c_153
      exact j_L_acts_1063 C0 _ _ _ _ _ _ _ _ _ _ _ _ h _ _ _ hw (lv_sub hl [] rfl)
set_option maxRecDepth 100000 in
set_option maxHeartbeats 4000000 in
theorem j_L_acts_983 {p : Program} {l : Launch} {e : Env} {s : State} {m : MethodId} {below : List Frame} {meth : Method} {c : Code} {E : EE} {A : Nat → Prop} {aG : Nat → Nat} {a0 : Nat → Nat} {a1 : Nat → Nat} {a2 : Nat → Nat} {a3 : Nat → Nat} {aH : Nat → Nat} {h0 : Nat → Nat} {h1 : Nat → Nat} {h2 : Nat → Nat} {h3 : Nat → Nat} {aS : Nat → Nat} {args : Array Value} (C0 : Cx E p s m args meth c A cL_acts 17 RL wsL_acts (some .boolean)) {post : Int32 → V → V → V → V → V → V → V → V → V → V → V → Prop}  : ∀ (q0 : Int32) (q1 : Int32) (v0 : V) (v1 : V) (v2 : V) (v3 : V) (v4 : V) (v5 : V) (v6 : V) (v7 : V) (v8 : V) (v9 : V) (v10 : V), sj_L_acts_983 post  q0 q1 v0 v1 v2 v3 v4 v5 v6 v7 v8 v9 v10 → ∀ (H : Heap) (locs : List Loc) (ls : Array Slot), mw E A s.heap H locs (List.flatten [cG aG (a0 0) (a1 0) (a2 0) (a3 0) (aH 0) (aS 0) v0, cM E a0 v1, cM E a1 v2, cM E a2 v3, cM E a3 v4, cH E aH (h0 0) (h1 0) (h2 0) (h3 0) v5, cM E h0 v6, cM E h1 v7, cM E h2 v8, cM E h3 v9, cS E aS v10]) → lv_has ls 17 [] → W p l e rmL_acts s m args below meth c H locs 0 0 (qI E A (fun r (u : V × V × V × V × V × V × V × V × V × V × V) => post r u.1 u.2.1 u.2.2.1 u.2.2.2.1 u.2.2.2.2.1 u.2.2.2.2.2.1 u.2.2.2.2.2.2.1 u.2.2.2.2.2.2.2.1 u.2.2.2.2.2.2.2.2.1 u.2.2.2.2.2.2.2.2.2.1 u.2.2.2.2.2.2.2.2.2.2) (fun (u : V × V × V × V × V × V × V × V × V × V × V) => (List.flatten [cG aG (a0 0) (a1 0) (a2 0) (a3 0) (aH 0) (aS 0) u.1, cM E a0 u.2.1, cM E a1 u.2.2.1, cM E a2 u.2.2.2.1, cM E a3 u.2.2.2.2.1, cH E aH (h0 0) (h1 0) (h2 0) (h3 0) u.2.2.2.2.2.1, cM E h0 u.2.2.2.2.2.2.1, cM E h1 u.2.2.2.2.2.2.2.1, cM E h2 u.2.2.2.2.2.2.2.2.1, cM E h3 u.2.2.2.2.2.2.2.2.2.1, cS E aS u.2.2.2.2.2.2.2.2.2.2])) below args s) (F0 m 983 ls [.int q1, .int q0]) := by
  have hx := C0.1
  have hb := C0.2.1
  intro q0 q1 v0 v1 v2 v3 v4 v5 v6 v7 v8 v9 v10 h H locs ls hw hl
  unfold sj_L_acts_983 at h
  refine lv_icmp_ne (tgt := 990) hx hb dL_acts_983 (by decide) (fun c_179 => ?_) (fun c_179 => ?_)
  · replace h := h.1 c_179
    refine lv_iconst (v := 0) hx hb dL_acts_990 (by decide) ?_
    exact x_retz C0 rfl ⟨v0, v1, v2, v3, v4, v5, v6, v7, v8, v9, v10⟩ hw h dL_acts_991
  · replace h := h.2 c_179
    refine lv_iconst (v := 1) hx hb dL_acts_986 (by decide) ?_
    refine lv_goto (tgt := 991) hx hb dL_acts_987 (by decide) ?_
    exact x_retz C0 rfl ⟨v0, v1, v2, v3, v4, v5, v6, v7, v8, v9, v10⟩ hw h dL_acts_991
set_option maxRecDepth 100000 in
set_option maxHeartbeats 4000000 in
theorem j_L_acts_958 {p : Program} {l : Launch} {e : Env} {s : State} {m : MethodId} {below : List Frame} {meth : Method} {c : Code} {E : EE} {A : Nat → Prop} {aG : Nat → Nat} {a0 : Nat → Nat} {a1 : Nat → Nat} {a2 : Nat → Nat} {a3 : Nat → Nat} {aH : Nat → Nat} {h0 : Nat → Nat} {h1 : Nat → Nat} {h2 : Nat → Nat} {h3 : Nat → Nat} {aS : Nat → Nat} {args : Array Value} (C0 : Cx E p s m args meth c A cL_acts 17 RL wsL_acts (some .boolean)) {post : Int32 → V → V → V → V → V → V → V → V → V → V → V → Prop}  : ∀ (q0 : Int32) (v0 : V) (v1 : V) (v2 : V) (v3 : V) (v4 : V) (v5 : V) (v6 : V) (v7 : V) (v8 : V) (v9 : V) (v10 : V), sj_L_acts_958 post  q0 v0 v1 v2 v3 v4 v5 v6 v7 v8 v9 v10 → ∀ (H : Heap) (locs : List Loc) (ls : Array Slot), mw E A s.heap H locs (List.flatten [cG aG (a0 0) (a1 0) (a2 0) (a3 0) (aH 0) (aS 0) v0, cM E a0 v1, cM E a1 v2, cM E a2 v3, cM E a3 v4, cH E aH (h0 0) (h1 0) (h2 0) (h3 0) v5, cM E h0 v6, cM E h1 v7, cM E h2 v8, cM E h3 v9, cS E aS v10]) → lv_has ls 17 [] → W p l e rmL_acts s m args below meth c H locs 0 0 (qI E A (fun r (u : V × V × V × V × V × V × V × V × V × V × V) => post r u.1 u.2.1 u.2.2.1 u.2.2.2.1 u.2.2.2.2.1 u.2.2.2.2.2.1 u.2.2.2.2.2.2.1 u.2.2.2.2.2.2.2.1 u.2.2.2.2.2.2.2.2.1 u.2.2.2.2.2.2.2.2.2.1 u.2.2.2.2.2.2.2.2.2.2) (fun (u : V × V × V × V × V × V × V × V × V × V × V) => (List.flatten [cG aG (a0 0) (a1 0) (a2 0) (a3 0) (aH 0) (aS 0) u.1, cM E a0 u.2.1, cM E a1 u.2.2.1, cM E a2 u.2.2.2.1, cM E a3 u.2.2.2.2.1, cH E aH (h0 0) (h1 0) (h2 0) (h3 0) u.2.2.2.2.2.1, cM E h0 u.2.2.2.2.2.2.1, cM E h1 u.2.2.2.2.2.2.2.1, cM E h2 u.2.2.2.2.2.2.2.2.1, cM E h3 u.2.2.2.2.2.2.2.2.2.1, cS E aS u.2.2.2.2.2.2.2.2.2.2])) below args s) (F0 m 958 ls [.int q0]) := by
  have hx := C0.1
  have hb := C0.2.1
  intro q0 v0 v1 v2 v3 v4 v5 v6 v7 v8 v9 v10 h H locs ls hw hl
  unfold sj_L_acts_958 at h
  refine x_ldc (v := (-10000001)) C0 1 rfl dL_acts_958 ?_
  refine lv_goto (tgt := 983) hx hb dL_acts_960 (by decide) ?_
  exact j_L_acts_983 C0 _ _ _ _ _ _ _ _ _ _ _ _ _ h _ _ _ hw (lv_sub hl [] rfl)
set_option maxRecDepth 100000 in
set_option maxHeartbeats 4000000 in
theorem j_L_acts_973 {p : Program} {l : Launch} {e : Env} {s : State} {m : MethodId} {below : List Frame} {meth : Method} {c : Code} {E : EE} {A : Nat → Prop} {aG : Nat → Nat} {a0 : Nat → Nat} {a1 : Nat → Nat} {a2 : Nat → Nat} {a3 : Nat → Nat} {aH : Nat → Nat} {h0 : Nat → Nat} {h1 : Nat → Nat} {h2 : Nat → Nat} {h3 : Nat → Nat} {aS : Nat → Nat} {args : Array Value} (C0 : Cx E p s m args meth c A cL_acts 17 RL wsL_acts (some .boolean)) {post : Int32 → V → V → V → V → V → V → V → V → V → V → V → Prop}  : ∀ (q0 : Int32) (v0 : V) (v1 : V) (v2 : V) (v3 : V) (v4 : V) (v5 : V) (v6 : V) (v7 : V) (v8 : V) (v9 : V) (v10 : V), sj_L_acts_973 post  q0 v0 v1 v2 v3 v4 v5 v6 v7 v8 v9 v10 → ∀ (H : Heap) (locs : List Loc) (ls : Array Slot), mw E A s.heap H locs (List.flatten [cG aG (a0 0) (a1 0) (a2 0) (a3 0) (aH 0) (aS 0) v0, cM E a0 v1, cM E a1 v2, cM E a2 v3, cM E a3 v4, cH E aH (h0 0) (h1 0) (h2 0) (h3 0) v5, cM E h0 v6, cM E h1 v7, cM E h2 v8, cM E h3 v9, cS E aS v10]) → lv_has ls 17 [] → W p l e rmL_acts s m args below meth c H locs 0 0 (qI E A (fun r (u : V × V × V × V × V × V × V × V × V × V × V) => post r u.1 u.2.1 u.2.2.1 u.2.2.2.1 u.2.2.2.2.1 u.2.2.2.2.2.1 u.2.2.2.2.2.2.1 u.2.2.2.2.2.2.2.1 u.2.2.2.2.2.2.2.2.1 u.2.2.2.2.2.2.2.2.2.1 u.2.2.2.2.2.2.2.2.2.2) (fun (u : V × V × V × V × V × V × V × V × V × V × V) => (List.flatten [cG aG (a0 0) (a1 0) (a2 0) (a3 0) (aH 0) (aS 0) u.1, cM E a0 u.2.1, cM E a1 u.2.2.1, cM E a2 u.2.2.2.1, cM E a3 u.2.2.2.2.1, cH E aH (h0 0) (h1 0) (h2 0) (h3 0) u.2.2.2.2.2.1, cM E h0 u.2.2.2.2.2.2.1, cM E h1 u.2.2.2.2.2.2.2.1, cM E h2 u.2.2.2.2.2.2.2.2.1, cM E h3 u.2.2.2.2.2.2.2.2.2.1, cS E aS u.2.2.2.2.2.2.2.2.2.2])) below args s) (F0 m 973 ls [.int q0]) := by
  have hx := C0.1
  have hb := C0.2.1
  intro q0 v0 v1 v2 v3 v4 v5 v6 v7 v8 v9 v10 h H locs ls hw hl
  unfold sj_L_acts_973 at h
  refine x_ldc (v := (-10000002)) C0 3 rfl dL_acts_973 ?_
  refine lv_goto (tgt := 983) hx hb dL_acts_975 (by decide) ?_
  exact j_L_acts_983 C0 _ _ _ _ _ _ _ _ _ _ _ _ _ h _ _ _ hw (lv_sub hl [] rfl)
set_option maxRecDepth 100000 in
set_option maxHeartbeats 4000000 in
theorem j_L_acts_919 {p : Program} {l : Launch} {e : Env} {s : State} {m : MethodId} {below : List Frame} {meth : Method} {c : Code} {E : EE} {A : Nat → Prop} {aG : Nat → Nat} {a0 : Nat → Nat} {a1 : Nat → Nat} {a2 : Nat → Nat} {a3 : Nat → Nat} {aH : Nat → Nat} {h0 : Nat → Nat} {h1 : Nat → Nat} {h2 : Nat → Nat} {h3 : Nat → Nat} {aS : Nat → Nat} {args : Array Value} (C0 : Cx E p s m args meth c A cL_acts 17 RL wsL_acts (some .boolean)) {post : Int32 → V → V → V → V → V → V → V → V → V → V → V → Prop}  : ∀ (x2 : Int32) (x7 : Int32) (x8 : Int32) (x9 : Int32) (x10 : Int32) (x11 : Int32) (q0 : Int32) (v0 : V) (v1 : V) (v2 : V) (v3 : V) (v4 : V) (v5 : V) (v6 : V) (v7 : V) (v8 : V) (v9 : V) (v10 : V), sj_L_acts_919 post  x2 x7 x8 x9 x10 x11 q0 v0 v1 v2 v3 v4 v5 v6 v7 v8 v9 v10 → ∀ (H : Heap) (locs : List Loc) (ls : Array Slot), mw E A s.heap H locs (List.flatten [cG aG (a0 0) (a1 0) (a2 0) (a3 0) (aH 0) (aS 0) v0, cM E a0 v1, cM E a1 v2, cM E a2 v3, cM E a3 v4, cH E aH (h0 0) (h1 0) (h2 0) (h3 0) v5, cM E h0 v6, cM E h1 v7, cM E h2 v8, cM E h3 v9, cS E aS v10]) → lv_has ls 17 [(0, .ref (aG 0)), (2, .int x2), (7, .int x7), (8, .int x8), (9, .int x9), (10, .int x10), (11, .int x11)] → W p l e rmL_acts s m args below meth c H locs 0 0 (qI E A (fun r (u : V × V × V × V × V × V × V × V × V × V × V) => post r u.1 u.2.1 u.2.2.1 u.2.2.2.1 u.2.2.2.2.1 u.2.2.2.2.2.1 u.2.2.2.2.2.2.1 u.2.2.2.2.2.2.2.1 u.2.2.2.2.2.2.2.2.1 u.2.2.2.2.2.2.2.2.2.1 u.2.2.2.2.2.2.2.2.2.2) (fun (u : V × V × V × V × V × V × V × V × V × V × V) => (List.flatten [cG aG (a0 0) (a1 0) (a2 0) (a3 0) (aH 0) (aS 0) u.1, cM E a0 u.2.1, cM E a1 u.2.2.1, cM E a2 u.2.2.2.1, cM E a3 u.2.2.2.2.1, cH E aH (h0 0) (h1 0) (h2 0) (h3 0) u.2.2.2.2.2.1, cM E h0 u.2.2.2.2.2.2.1, cM E h1 u.2.2.2.2.2.2.2.1, cM E h2 u.2.2.2.2.2.2.2.2.1, cM E h3 u.2.2.2.2.2.2.2.2.2.1, cS E aS u.2.2.2.2.2.2.2.2.2.2])) below args s) (F0 m 919 ls [.int q0]) := by
  have hx := C0.1
  have hb := C0.2.1
  intro x2 x7 x8 x9 x10 x11 q0 v0 v1 v2 v3 v4 v5 v6 v7 v8 v9 v10 h H locs ls hw hl
  unfold sj_L_acts_919 at h
  refine lv_istore (lv' := [(12, .int q0), (0, .ref (aG 0)), (2, .int x2), (7, .int x7), (8, .int x8), (9, .int x9), (10, .int x10), (11, .int x11)]) hx hb dL_acts_919 hl (by decide) rfl (fun ls hl => ?_)
  refine lv_iload_n hx hb dL_acts_921 rfl (lv_at hl 2 rfl) ?_
  refine lv_bipush (v := 15) hx hb dL_acts_922 (by decide) ?_
  refine lv_ishr hx hb dL_acts_924 ?_
  refine lv_iconst (v := 3) hx hb dL_acts_925 (by decide) ?_
  refine x_cS (As := [.int (x2 >>> (15 &&& 31)), .int 3]) (rest := []) (F := (List.flatten [cG aG (a0 0) (a1 0) (a2 0) (a3 0) (aH 0) (aS 0) v0, cM E a0 v1, cM E a1 v2, cM E a2 v3, cM E a3 v4, cH E aH (h0 0) (h1 0) (h2 0) (h3 0) v5, cM E h0 v6, cM E h1 v7, cM E h2 v8, cM E h3 v9, cS E aS v10])) C0 hw (p_non _) hl.1 (c_L_low l E  h) 2 gL_acts_L_low rfl ⟨rfl, rfl⟩ (by decide +kernel) ⟨Nat.le_of_ble_eq_true rfl, Nat.le_of_ble_eq_true rfl⟩ rfl rfl (Nat.le_of_ble_eq_true rfl) dL_acts_926 ⟨Nat.zero_le _, Nat.zero_le _⟩ (fun r_169 _u H locs h (hw : mw E A s.heap H locs (List.flatten [cG aG (a0 0) (a1 0) (a2 0) (a3 0) (aH 0) (aS 0) v0, cM E a0 v1, cM E a1 v2, cM E a2 v3, cM E a3 v4, cH E aH (h0 0) (h1 0) (h2 0) (h3 0) v5, cM E h0 v6, cM E h1 v7, cM E h2 v8, cM E h3 v9, cS E aS v10])) => ?_)
  refine lv_if_gt (tgt := 986) hx hb dL_acts_929 (by decide) (fun c_186 => ?_) (fun c_186 => ?_)
  · replace h := h.1 c_186
    refine lv_iconst (v := 1) hx hb dL_acts_986 (by decide) ?_
    refine lv_goto (tgt := 991) hx hb dL_acts_987 (by decide) ?_
    exact x_retz C0 rfl ⟨v0, v1, v2, v3, v4, v5, v6, v7, v8, v9, v10⟩ hw h dL_acts_991
  · replace h := h.2 c_186
    refine lv_aload_n hx hb dL_acts_932 rfl (lv_at hl 1 rfl) ?_
    refine lv_iload hx hb dL_acts_933 (lv_at hl 3 rfl) ?_
    refine lv_iload hx hb dL_acts_935 (lv_at hl 7 rfl) ?_
    refine x_cV (As := [.int x7, .int x11]) (rest := []) (F := (List.flatten [cM E a2 v3, cM E a3 v4, cS E aS v10])) C0 hw (p_fl (ds := [cG aG (a0 0) (a1 0) (a2 0) (a3 0) (aH 0) (aS 0) v0, cM E a0 v1, cM E a1 v2, cH E aH (h0 0) (h1 0) (h2 0) (h3 0) v5, cM E h0 v6, cM E h1 v7, cM E h2 v8, cM E h3 v9]) ((p_pk _ 0 _ rfl).trans (List.Perm.cons _ ((p_pk _ 0 _ rfl).trans (List.Perm.cons _ ((p_pk _ 0 _ rfl).trans (List.Perm.cons _ ((p_pk _ 2 _ rfl).trans (List.Perm.cons _ ((p_pk _ 2 _ rfl).trans (List.Perm.cons _ ((p_pk _ 2 _ rfl).trans (List.Perm.cons _ ((p_pk _ 2 _ rfl).trans (List.Perm.cons _ ((p_pk _ 2 _ rfl).trans (List.Perm.cons _ (List.Perm.refl _)))))))))))))))))) hl.1 0 6 rfl rfl (c_X6_sell l E aG a0 a1 a2 a3 aH h0 h1 h2 h3 aS h) 2 gL_acts_X6_sell rfl ⟨rfl, rfl⟩ (by decide +kernel) ⟨Nat.le_of_ble_eq_true rfl, Nat.le_of_ble_eq_true rfl⟩ rfl rfl (Nat.le_of_ble_eq_true rfl) dL_acts_937 ⟨Nat.zero_le _, Nat.zero_le _⟩ (fun r_170 u_185 H locs h hw => ?_)
    obtain ⟨v_171, v_172, v_173, v_174, v_175, v_176, v_177, v_178⟩ := u_185
    replace hw : mw E A s.heap H locs (List.flatten [cG aG (a0 0) (a1 0) (a2 0) (a3 0) (aH 0) (aS 0) v_171, cM E a0 v_172, cM E a1 v_173, cM E a2 v3, cM E a3 v4, cH E aH (h0 0) (h1 0) (h2 0) (h3 0) v_174, cM E h0 v_175, cM E h1 v_176, cM E h2 v_177, cM E h3 v_178, cS E aS v10]) := hw.perm (p_bk (ds := [cG aG (a0 0) (a1 0) (a2 0) (a3 0) (aH 0) (aS 0) v_171, cM E a0 v_172, cM E a1 v_173, cH E aH (h0 0) (h1 0) (h2 0) (h3 0) v_174, cM E h0 v_175, cM E h1 v_176, cM E h2 v_177, cM E h3 v_178]) ((p_pk _ 0 _ rfl).trans (List.Perm.cons _ ((p_pk _ 0 _ rfl).trans (List.Perm.cons _ ((p_pk _ 0 _ rfl).trans (List.Perm.cons _ ((p_pk _ 2 _ rfl).trans (List.Perm.cons _ ((p_pk _ 2 _ rfl).trans (List.Perm.cons _ ((p_pk _ 2 _ rfl).trans (List.Perm.cons _ ((p_pk _ 2 _ rfl).trans (List.Perm.cons _ ((p_pk _ 2 _ rfl).trans (List.Perm.cons _ (List.Perm.refl _))))))))))))))))))
    refine lv_iload hx hb dL_acts_940 (lv_at hl 4 rfl) ?_
    refine lv_if_eq (tgt := 958) hx hb dL_acts_942 (by decide) (fun c_184 => ?_) (fun c_184 => ?_)
    · replace h := h.1 c_184
      exact j_L_acts_958 C0 _ _ _ _ _ _ _ _ _ _ _ _ h _ _ _ hw (lv_sub hl [] rfl)
    · replace h := h.2 c_184
      refine lv_iload hx hb dL_acts_945 (lv_at hl 7 rfl) ?_
      refine lv_if_eq (tgt := 958) hx hb dL_acts_947 (by decide) (fun c_183 => ?_) (fun c_183 => ?_)
      · replace h := h.1 c_183
        exact j_L_acts_958 C0 _ _ _ _ _ _ _ _ _ _ _ _ h _ _ _ hw (lv_sub hl [] rfl)
      · replace h := h.2 c_183
        refine lv_iload hx hb dL_acts_950 (lv_at hl 7 rfl) ?_
        refine lv_sipush (v := 10000) hx hb dL_acts_952 (by decide) ?_
        refine lv_icmp_ne (tgt := 963) hx hb dL_acts_955 (by decide) (fun c_182 => ?_) (fun c_182 => ?_)
        · replace h := h.1 c_182
          refine lv_iload hx hb dL_acts_963 (lv_at hl 5 rfl) ?_
          refine lv_if_ne (tgt := 973) hx hb dL_acts_965 (by decide) (fun c_181 => ?_) (fun c_181 => ?_)
          · replace h := h.1 c_181
            exact j_L_acts_973 C0 _ _ _ _ _ _ _ _ _ _ _ _ h _ _ _ hw (lv_sub hl [] rfl)
          · replace h := h.2 c_181
            refine lv_iload hx hb dL_acts_968 (lv_at hl 6 rfl) ?_
            refine lv_if_eq (tgt := 978) hx hb dL_acts_970 (by decide) (fun c_180 => ?_) (fun c_180 => ?_)
            · replace h := h.1 c_180
              refine lv_iload hx hb dL_acts_978 (lv_at hl 0 rfl) ?_
              refine lv_iload hx hb dL_acts_980 (lv_at hl 7 rfl) ?_
              refine lv_iadd hx hb dL_acts_982 ?_
              exact j_L_acts_983 C0 _ _ _ _ _ _ _ _ _ _ _ _ _ h _ _ _ hw (lv_sub hl [] rfl)
            · replace h := h.2 c_180
              exact j_L_acts_973 C0 _ _ _ _ _ _ _ _ _ _ _ _ h _ _ _ hw (lv_sub hl [] rfl)
        · replace h := h.2 c_182
          exact j_L_acts_958 C0 _ _ _ _ _ _ _ _ _ _ _ _ h _ _ _ hw (lv_sub hl [] rfl)
set_option maxRecDepth 100000 in
set_option maxHeartbeats 4000000 in
theorem j_L_acts_852 {p : Program} {l : Launch} {e : Env} {s : State} {m : MethodId} {below : List Frame} {meth : Method} {c : Code} {E : EE} {A : Nat → Prop} {aG : Nat → Nat} {a0 : Nat → Nat} {a1 : Nat → Nat} {a2 : Nat → Nat} {a3 : Nat → Nat} {aH : Nat → Nat} {h0 : Nat → Nat} {h1 : Nat → Nat} {h2 : Nat → Nat} {h3 : Nat → Nat} {aS : Nat → Nat} {args : Array Value} (C0 : Cx E p s m args meth c A cL_acts 17 RL wsL_acts (some .boolean)) {post : Int32 → V → V → V → V → V → V → V → V → V → V → V → Prop}  : ∀ (x7 : Int32) (x9 : Int32) (x12 : Int32) (q0 : Int32) (q1 : Int32) (v0 : V) (v1 : V) (v2 : V) (v3 : V) (v4 : V) (v5 : V) (v6 : V) (v7 : V) (v8 : V) (v9 : V) (v10 : V), sj_L_acts_852 post  x7 x9 x12 q0 q1 v0 v1 v2 v3 v4 v5 v6 v7 v8 v9 v10 → ∀ (H : Heap) (locs : List Loc) (ls : Array Slot), mw E A s.heap H locs (List.flatten [cG aG (a0 0) (a1 0) (a2 0) (a3 0) (aH 0) (aS 0) v0, cM E a0 v1, cM E a1 v2, cM E a2 v3, cM E a3 v4, cH E aH (h0 0) (h1 0) (h2 0) (h3 0) v5, cM E h0 v6, cM E h1 v7, cM E h2 v8, cM E h3 v9, cS E aS v10]) → lv_has ls 17 [(0, .ref (aG 0)), (7, .int x7), (9, .int x9), (12, .int x12)] → W p l e rmL_acts s m args below meth c H locs 0 0 (qI E A (fun r (u : V × V × V × V × V × V × V × V × V × V × V) => post r u.1 u.2.1 u.2.2.1 u.2.2.2.1 u.2.2.2.2.1 u.2.2.2.2.2.1 u.2.2.2.2.2.2.1 u.2.2.2.2.2.2.2.1 u.2.2.2.2.2.2.2.2.1 u.2.2.2.2.2.2.2.2.2.1 u.2.2.2.2.2.2.2.2.2.2) (fun (u : V × V × V × V × V × V × V × V × V × V × V) => (List.flatten [cG aG (a0 0) (a1 0) (a2 0) (a3 0) (aH 0) (aS 0) u.1, cM E a0 u.2.1, cM E a1 u.2.2.1, cM E a2 u.2.2.2.1, cM E a3 u.2.2.2.2.1, cH E aH (h0 0) (h1 0) (h2 0) (h3 0) u.2.2.2.2.2.1, cM E h0 u.2.2.2.2.2.2.1, cM E h1 u.2.2.2.2.2.2.2.1, cM E h2 u.2.2.2.2.2.2.2.2.1, cM E h3 u.2.2.2.2.2.2.2.2.2.1, cS E aS u.2.2.2.2.2.2.2.2.2.2])) below args s) (F0 m 852 ls [.int q1, .int q0]) := by
  have hx := C0.1
  have hb := C0.2.1
  intro x7 x9 x12 q0 q1 v0 v1 v2 v3 v4 v5 v6 v7 v8 v9 v10 h H locs ls hw hl
  unfold sj_L_acts_852 at h
  refine lv_icmp_ne (tgt := 876) hx hb dL_acts_852 (by decide) (fun c_215 => ?_) (fun c_215 => ?_)
  · replace h := h.1 c_215
    refine lv_iconst (v := 0) hx hb dL_acts_876 (by decide) ?_
    exact x_retz C0 rfl ⟨v0, v1, v2, v3, v4, v5, v6, v7, v8, v9, v10⟩ hw h dL_acts_877
  · replace h := h.2 c_215
    refine lv_iload hx hb dL_acts_855 (lv_at hl 2 rfl) ?_
    refine lv_if_eq (tgt := 872) hx hb dL_acts_857 (by decide) (fun c_214 => ?_) (fun c_214 => ?_)
    · replace h := h.1 c_214
      refine lv_iconst (v := 1) hx hb dL_acts_872 (by decide) ?_
      refine lv_goto (tgt := 877) hx hb dL_acts_873 (by decide) ?_
      exact x_retz C0 rfl ⟨v0, v1, v2, v3, v4, v5, v6, v7, v8, v9, v10⟩ hw h dL_acts_877
    · replace h := h.2 c_214
      refine lv_aload_n hx hb dL_acts_860 rfl (lv_at hl 0 rfl) ?_
      refine lv_iload hx hb dL_acts_861 (lv_at hl 1 rfl) ?_
      refine lv_iconst (v := 4) hx hb dL_acts_863 (by decide) ?_
      refine x_cV (As := [.int x7, .int 4]) (rest := []) (F := (List.flatten [cM E a1 v2, cM E a2 v3, cM E a3 v4, cH E aH (h0 0) (h1 0) (h2 0) (h3 0) v5, cM E h0 v6, cM E h1 v7, cM E h2 v8, cM E h3 v9, cS E aS v10])) C0 hw (p_fl (ds := [cG aG (a0 0) (a1 0) (a2 0) (a3 0) (aH 0) (aS 0) v0, cM E a0 v1]) (List.Perm.refl _)) hl.1 0 6 rfl rfl (c_X6_stoneOf l E aG a0 a1 a2 a3 aH h0 h1 h2 h3 aS h) 2 gL_acts_X6_stoneOf rfl ⟨rfl, rfl⟩ (by decide +kernel) ⟨Nat.le_of_ble_eq_true rfl, Nat.le_of_ble_eq_true rfl⟩ rfl rfl (Nat.le_of_ble_eq_true rfl) dL_acts_864 ⟨Nat.zero_le _, Nat.zero_le _⟩ (fun r_209 u_213 H locs h hw => ?_)
      obtain ⟨v_210, v_211⟩ := u_213
      replace hw : mw E A s.heap H locs (List.flatten [cG aG (a0 0) (a1 0) (a2 0) (a3 0) (aH 0) (aS 0) v_210, cM E a0 v_211, cM E a1 v2, cM E a2 v3, cM E a3 v4, cH E aH (h0 0) (h1 0) (h2 0) (h3 0) v5, cM E h0 v6, cM E h1 v7, cM E h2 v8, cM E h3 v9, cS E aS v10]) := hw.perm (p_bk (ds := [cG aG (a0 0) (a1 0) (a2 0) (a3 0) (aH 0) (aS 0) v_210, cM E a0 v_211]) (List.Perm.refl _))
      refine lv_iload hx hb dL_acts_867 (lv_at hl 3 rfl) ?_
      refine lv_icmp_ne (tgt := 876) hx hb dL_acts_869 (by decide) (fun c_212 => ?_) (fun c_212 => ?_)
      · replace h := h.1 c_212
        refine lv_iconst (v := 0) hx hb dL_acts_876 (by decide) ?_
        exact x_retz C0 rfl ⟨v_210, v_211, v2, v3, v4, v5, v6, v7, v8, v9, v10⟩ hw h dL_acts_877
      · replace h := h.2 c_212
        refine lv_iconst (v := 1) hx hb dL_acts_872 (by decide) ?_
        refine lv_goto (tgt := 877) hx hb dL_acts_873 (by decide) ?_
        exact x_retz C0 rfl ⟨v_210, v_211, v2, v3, v4, v5, v6, v7, v8, v9, v10⟩ hw h dL_acts_877
set_option maxRecDepth 100000 in
set_option maxHeartbeats 4000000 in
theorem j_L_acts_822 {p : Program} {l : Launch} {e : Env} {s : State} {m : MethodId} {below : List Frame} {meth : Method} {c : Code} {E : EE} {A : Nat → Prop} {aG : Nat → Nat} {a0 : Nat → Nat} {a1 : Nat → Nat} {a2 : Nat → Nat} {a3 : Nat → Nat} {aH : Nat → Nat} {h0 : Nat → Nat} {h1 : Nat → Nat} {h2 : Nat → Nat} {h3 : Nat → Nat} {aS : Nat → Nat} {args : Array Value} (C0 : Cx E p s m args meth c A cL_acts 17 RL wsL_acts (some .boolean)) {post : Int32 → V → V → V → V → V → V → V → V → V → V → V → Prop}  : ∀ (x7 : Int32) (x8 : Int32) (x9 : Int32) (x11 : Int32) (q0 : Int32) (v0 : V) (v1 : V) (v2 : V) (v3 : V) (v4 : V) (v5 : V) (v6 : V) (v7 : V) (v8 : V) (v9 : V) (v10 : V), sj_L_acts_822 post  x7 x8 x9 x11 q0 v0 v1 v2 v3 v4 v5 v6 v7 v8 v9 v10 → ∀ (H : Heap) (locs : List Loc) (ls : Array Slot), mw E A s.heap H locs (List.flatten [cG aG (a0 0) (a1 0) (a2 0) (a3 0) (aH 0) (aS 0) v0, cM E a0 v1, cM E a1 v2, cM E a2 v3, cM E a3 v4, cH E aH (h0 0) (h1 0) (h2 0) (h3 0) v5, cM E h0 v6, cM E h1 v7, cM E h2 v8, cM E h3 v9, cS E aS v10]) → lv_has ls 17 [(0, .ref (aG 0)), (7, .int x7), (8, .int x8), (9, .int x9), (11, .int x11)] → W p l e rmL_acts s m args below meth c H locs 0 0 (qI E A (fun r (u : V × V × V × V × V × V × V × V × V × V × V) => post r u.1 u.2.1 u.2.2.1 u.2.2.2.1 u.2.2.2.2.1 u.2.2.2.2.2.1 u.2.2.2.2.2.2.1 u.2.2.2.2.2.2.2.1 u.2.2.2.2.2.2.2.2.1 u.2.2.2.2.2.2.2.2.2.1 u.2.2.2.2.2.2.2.2.2.2) (fun (u : V × V × V × V × V × V × V × V × V × V × V) => (List.flatten [cG aG (a0 0) (a1 0) (a2 0) (a3 0) (aH 0) (aS 0) u.1, cM E a0 u.2.1, cM E a1 u.2.2.1, cM E a2 u.2.2.2.1, cM E a3 u.2.2.2.2.1, cH E aH (h0 0) (h1 0) (h2 0) (h3 0) u.2.2.2.2.2.1, cM E h0 u.2.2.2.2.2.2.1, cM E h1 u.2.2.2.2.2.2.2.1, cM E h2 u.2.2.2.2.2.2.2.2.1, cM E h3 u.2.2.2.2.2.2.2.2.2.1, cS E aS u.2.2.2.2.2.2.2.2.2.2])) below args s) (F0 m 822 ls [.int q0]) := by
  have hx := C0.1
  have hb := C0.2.1
  intro x7 x8 x9 x11 q0 v0 v1 v2 v3 v4 v5 v6 v7 v8 v9 v10 h H locs ls hw hl
  unfold sj_L_acts_822 at h
  refine lv_istore (lv' := [(12, .int q0), (0, .ref (aG 0)), (7, .int x7), (8, .int x8), (9, .int x9), (11, .int x11)]) hx hb dL_acts_822 hl (by decide) rfl (fun ls hl => ?_)
  refine lv_aload_n hx hb dL_acts_824 rfl (lv_at hl 1 rfl) ?_
  refine lv_iload hx hb dL_acts_825 (lv_at hl 2 rfl) ?_
  refine x_cV (As := [.int x7]) (rest := []) (F := (List.flatten [cM E a2 v3, cM E a3 v4, cS E aS v10])) C0 hw (p_fl (ds := [cG aG (a0 0) (a1 0) (a2 0) (a3 0) (aH 0) (aS 0) v0, cM E a0 v1, cM E a1 v2, cH E aH (h0 0) (h1 0) (h2 0) (h3 0) v5, cM E h0 v6, cM E h1 v7, cM E h2 v8, cM E h3 v9]) ((p_pk _ 0 _ rfl).trans (List.Perm.cons _ ((p_pk _ 0 _ rfl).trans (List.Perm.cons _ ((p_pk _ 0 _ rfl).trans (List.Perm.cons _ ((p_pk _ 2 _ rfl).trans (List.Perm.cons _ ((p_pk _ 2 _ rfl).trans (List.Perm.cons _ ((p_pk _ 2 _ rfl).trans (List.Perm.cons _ ((p_pk _ 2 _ rfl).trans (List.Perm.cons _ ((p_pk _ 2 _ rfl).trans (List.Perm.cons _ (List.Perm.refl _)))))))))))))))))) hl.1 0 6 rfl rfl (c_X6_keep l E aG a0 a1 a2 a3 aH h0 h1 h2 h3 aS h) 1 gL_acts_X6_keep rfl ⟨rfl, rfl⟩ (by decide +kernel) ⟨Nat.le_of_ble_eq_true rfl, Nat.le_of_ble_eq_true rfl⟩ rfl rfl (Nat.le_of_ble_eq_true rfl) dL_acts_827 ⟨Nat.zero_le _, Nat.zero_le _⟩ (fun r_200 u_218 H locs h hw => ?_)
  obtain ⟨v_201, v_202, v_203, v_204, v_205, v_206, v_207, v_208⟩ := u_218
  replace hw : mw E A s.heap H locs (List.flatten [cG aG (a0 0) (a1 0) (a2 0) (a3 0) (aH 0) (aS 0) v_201, cM E a0 v_202, cM E a1 v_203, cM E a2 v3, cM E a3 v4, cH E aH (h0 0) (h1 0) (h2 0) (h3 0) v_204, cM E h0 v_205, cM E h1 v_206, cM E h2 v_207, cM E h3 v_208, cS E aS v10]) := hw.perm (p_bk (ds := [cG aG (a0 0) (a1 0) (a2 0) (a3 0) (aH 0) (aS 0) v_201, cM E a0 v_202, cM E a1 v_203, cH E aH (h0 0) (h1 0) (h2 0) (h3 0) v_204, cM E h0 v_205, cM E h1 v_206, cM E h2 v_207, cM E h3 v_208]) ((p_pk _ 0 _ rfl).trans (List.Perm.cons _ ((p_pk _ 0 _ rfl).trans (List.Perm.cons _ ((p_pk _ 0 _ rfl).trans (List.Perm.cons _ ((p_pk _ 2 _ rfl).trans (List.Perm.cons _ ((p_pk _ 2 _ rfl).trans (List.Perm.cons _ ((p_pk _ 2 _ rfl).trans (List.Perm.cons _ ((p_pk _ 2 _ rfl).trans (List.Perm.cons _ ((p_pk _ 2 _ rfl).trans (List.Perm.cons _ (List.Perm.refl _))))))))))))))))))
  refine lv_iload hx hb dL_acts_830 (lv_at hl 3 rfl) ?_
  refine lv_if_ne (tgt := 840) hx hb dL_acts_832 (by decide) (fun c_217 => ?_) (fun c_217 => ?_)
  · replace h := h.1 c_217
    refine lv_iload hx hb dL_acts_840 (lv_at hl 4 rfl) ?_
    refine lv_if_ne (tgt := 850) hx hb dL_acts_842 (by decide) (fun c_216 => ?_) (fun c_216 => ?_)
    · replace h := h.1 c_216
      refine lv_iload hx hb dL_acts_850 (lv_at hl 5 rfl) ?_
      exact j_L_acts_852 C0 _ _ _ _ _ _ _ _ _ _ _ _ _ _ _ _ h _ _ _ hw (lv_sub hl [1, 2, 4, 0] rfl)
    · replace h := h.2 c_216
      refine x_ldc (v := (-10000002)) C0 3 rfl dL_acts_845 ?_
      refine lv_goto (tgt := 852) hx hb dL_acts_847 (by decide) ?_
      exact j_L_acts_852 C0 _ _ _ _ _ _ _ _ _ _ _ _ _ _ _ _ h _ _ _ hw (lv_sub hl [1, 2, 4, 0] rfl)
  · replace h := h.2 c_217
    refine x_ldc (v := (-10000001)) C0 1 rfl dL_acts_835 ?_
    refine lv_goto (tgt := 852) hx hb dL_acts_837 (by decide) ?_
    exact j_L_acts_852 C0 _ _ _ _ _ _ _ _ _ _ _ _ _ _ _ _ h _ _ _ hw (lv_sub hl [1, 2, 4, 0] rfl)
set_option maxRecDepth 100000 in
set_option maxHeartbeats 4000000 in
theorem j_L_acts_804 {p : Program} {l : Launch} {e : Env} {s : State} {m : MethodId} {below : List Frame} {meth : Method} {c : Code} {E : EE} {A : Nat → Prop} {aG : Nat → Nat} {a0 : Nat → Nat} {a1 : Nat → Nat} {a2 : Nat → Nat} {a3 : Nat → Nat} {aH : Nat → Nat} {h0 : Nat → Nat} {h1 : Nat → Nat} {h2 : Nat → Nat} {h3 : Nat → Nat} {aS : Nat → Nat} {args : Array Value} (C0 : Cx E p s m args meth c A cL_acts 17 RL wsL_acts (some .boolean)) {post : Int32 → V → V → V → V → V → V → V → V → V → V → V → Prop}  : ∀ (x7 : Int32) (x8 : Int32) (x9 : Int32) (q0 : Int32) (v0 : V) (v1 : V) (v2 : V) (v3 : V) (v4 : V) (v5 : V) (v6 : V) (v7 : V) (v8 : V) (v9 : V) (v10 : V), sj_L_acts_804 post  x7 x8 x9 q0 v0 v1 v2 v3 v4 v5 v6 v7 v8 v9 v10 → ∀ (H : Heap) (locs : List Loc) (ls : Array Slot), mw E A s.heap H locs (List.flatten [cG aG (a0 0) (a1 0) (a2 0) (a3 0) (aH 0) (aS 0) v0, cM E a0 v1, cM E a1 v2, cM E a2 v3, cM E a3 v4, cH E aH (h0 0) (h1 0) (h2 0) (h3 0) v5, cM E h0 v6, cM E h1 v7, cM E h2 v8, cM E h3 v9, cS E aS v10]) → lv_has ls 17 [(0, .ref (aG 0)), (7, .int x7), (8, .int x8), (9, .int x9)] → W p l e rmL_acts s m args below meth c H locs 0 0 (qI E A (fun r (u : V × V × V × V × V × V × V × V × V × V × V) => post r u.1 u.2.1 u.2.2.1 u.2.2.2.1 u.2.2.2.2.1 u.2.2.2.2.2.1 u.2.2.2.2.2.2.1 u.2.2.2.2.2.2.2.1 u.2.2.2.2.2.2.2.2.1 u.2.2.2.2.2.2.2.2.2.1 u.2.2.2.2.2.2.2.2.2.2) (fun (u : V × V × V × V × V × V × V × V × V × V × V) => (List.flatten [cG aG (a0 0) (a1 0) (a2 0) (a3 0) (aH 0) (aS 0) u.1, cM E a0 u.2.1, cM E a1 u.2.2.1, cM E a2 u.2.2.2.1, cM E a3 u.2.2.2.2.1, cH E aH (h0 0) (h1 0) (h2 0) (h3 0) u.2.2.2.2.2.1, cM E h0 u.2.2.2.2.2.2.1, cM E h1 u.2.2.2.2.2.2.2.1, cM E h2 u.2.2.2.2.2.2.2.2.1, cM E h3 u.2.2.2.2.2.2.2.2.2.1, cS E aS u.2.2.2.2.2.2.2.2.2.2])) below args s) (F0 m 804 ls [.int q0]) := by
  have hx := C0.1
  have hb := C0.2.1
  intro x7 x8 x9 q0 v0 v1 v2 v3 v4 v5 v6 v7 v8 v9 v10 h H locs ls hw hl
  unfold sj_L_acts_804 at h
  refine lv_istore (lv' := [(11, .int q0), (0, .ref (aG 0)), (7, .int x7), (8, .int x8), (9, .int x9)]) hx hb dL_acts_804 hl (by decide) rfl (fun ls hl => ?_)
  refine lv_iload hx hb dL_acts_806 (lv_at hl 4 rfl) ?_
  refine lv_if_eq (tgt := 821) hx hb dL_acts_808 (by decide) (fun c_223 => ?_) (fun c_223 => ?_)
  · replace h := h.1 c_223
    refine lv_iconst (v := 0) hx hb dL_acts_821 (by decide) ?_
    exact j_L_acts_822 C0 _ _ _ _ _ _ _ _ _ _ _ _ _ _ _ _ h _ _ _ hw (lv_sub hl [1, 2, 3, 4, 0] rfl)
  · replace h := h.2 c_223
    refine lv_aload_n hx hb dL_acts_811 rfl (lv_at hl 1 rfl) ?_
    refine lv_iload hx hb dL_acts_812 (lv_at hl 2 rfl) ?_
    refine lv_iconst (v := 5) hx hb dL_acts_814 (by decide) ?_
    refine x_cV (As := [.int x7, .int 5]) (rest := []) (F := (List.flatten [cM E a1 v2, cM E a2 v3, cM E a3 v4, cH E aH (h0 0) (h1 0) (h2 0) (h3 0) v5, cM E h0 v6, cM E h1 v7, cM E h2 v8, cM E h3 v9, cS E aS v10])) C0 hw (p_fl (ds := [cG aG (a0 0) (a1 0) (a2 0) (a3 0) (aH 0) (aS 0) v0, cM E a0 v1]) (List.Perm.refl _)) hl.1 0 6 rfl rfl (c_X6_stoneOf l E aG a0 a1 a2 a3 aH h0 h1 h2 h3 aS h) 2 gL_acts_X6_stoneOf rfl ⟨rfl, rfl⟩ (by decide +kernel) ⟨Nat.le_of_ble_eq_true rfl, Nat.le_of_ble_eq_true rfl⟩ rfl rfl (Nat.le_of_ble_eq_true rfl) dL_acts_815 ⟨Nat.zero_le _, Nat.zero_le _⟩ (fun r_219 u_222 H locs h hw => ?_)
    obtain ⟨v_220, v_221⟩ := u_222
    replace hw : mw E A s.heap H locs (List.flatten [cG aG (a0 0) (a1 0) (a2 0) (a3 0) (aH 0) (aS 0) v_220, cM E a0 v_221, cM E a1 v2, cM E a2 v3, cM E a3 v4, cH E aH (h0 0) (h1 0) (h2 0) (h3 0) v5, cM E h0 v6, cM E h1 v7, cM E h2 v8, cM E h3 v9, cS E aS v10]) := hw.perm (p_bk (ds := [cG aG (a0 0) (a1 0) (a2 0) (a3 0) (aH 0) (aS 0) v_220, cM E a0 v_221]) (List.Perm.refl _))
    refine lv_goto (tgt := 822) hx hb dL_acts_818 (by decide) ?_
    exact j_L_acts_822 C0 _ _ _ _ _ _ _ _ _ _ _ _ _ _ _ _ h _ _ _ hw (lv_sub hl [1, 2, 3, 4, 0] rfl)
set_option maxRecDepth 100000 in
set_option maxHeartbeats 4000000 in
theorem j_L_acts_772 {p : Program} {l : Launch} {e : Env} {s : State} {m : MethodId} {below : List Frame} {meth : Method} {c : Code} {E : EE} {A : Nat → Prop} {aG : Nat → Nat} {a0 : Nat → Nat} {a1 : Nat → Nat} {a2 : Nat → Nat} {a3 : Nat → Nat} {aH : Nat → Nat} {h0 : Nat → Nat} {h1 : Nat → Nat} {h2 : Nat → Nat} {h3 : Nat → Nat} {aS : Nat → Nat} {args : Array Value} (C0 : Cx E p s m args meth c A cL_acts 17 RL wsL_acts (some .boolean)) {post : Int32 → V → V → V → V → V → V → V → V → V → V → V → Prop}  : ∀ (q0 : Int32) (q1 : Int32) (v0 : V) (v1 : V) (v2 : V) (v3 : V) (v4 : V) (v5 : V) (v6 : V) (v7 : V) (v8 : V) (v9 : V) (v10 : V), sj_L_acts_772 post  q0 q1 v0 v1 v2 v3 v4 v5 v6 v7 v8 v9 v10 → ∀ (H : Heap) (locs : List Loc) (ls : Array Slot), mw E A s.heap H locs (List.flatten [cG aG (a0 0) (a1 0) (a2 0) (a3 0) (aH 0) (aS 0) v0, cM E a0 v1, cM E a1 v2, cM E a2 v3, cM E a3 v4, cH E aH (h0 0) (h1 0) (h2 0) (h3 0) v5, cM E h0 v6, cM E h1 v7, cM E h2 v8, cM E h3 v9, cS E aS v10]) → lv_has ls 17 [] → W p l e rmL_acts s m args below meth c H locs 0 0 (qI E A (fun r (u : V × V × V × V × V × V × V × V × V × V × V) => post r u.1 u.2.1 u.2.2.1 u.2.2.2.1 u.2.2.2.2.1 u.2.2.2.2.2.1 u.2.2.2.2.2.2.1 u.2.2.2.2.2.2.2.1 u.2.2.2.2.2.2.2.2.1 u.2.2.2.2.2.2.2.2.2.1 u.2.2.2.2.2.2.2.2.2.2) (fun (u : V × V × V × V × V × V × V × V × V × V × V) => (List.flatten [cG aG (a0 0) (a1 0) (a2 0) (a3 0) (aH 0) (aS 0) u.1, cM E a0 u.2.1, cM E a1 u.2.2.1, cM E a2 u.2.2.2.1, cM E a3 u.2.2.2.2.1, cH E aH (h0 0) (h1 0) (h2 0) (h3 0) u.2.2.2.2.2.1, cM E h0 u.2.2.2.2.2.2.1, cM E h1 u.2.2.2.2.2.2.2.1, cM E h2 u.2.2.2.2.2.2.2.2.1, cM E h3 u.2.2.2.2.2.2.2.2.2.1, cS E aS u.2.2.2.2.2.2.2.2.2.2])) below args s) (F0 m 772 ls [.int q1, .int q0]) := by
  have hx := C0.1
  have hb := C0.2.1
  intro q0 q1 v0 v1 v2 v3 v4 v5 v6 v7 v8 v9 v10 h H locs ls hw hl
  unfold sj_L_acts_772 at h
  refine lv_icmp_ne (tgt := 779) hx hb dL_acts_772 (by decide) (fun c_242 => ?_) (fun c_242 => ?_)
  · replace h := h.1 c_242
    refine lv_iconst (v := 0) hx hb dL_acts_779 (by decide) ?_
    exact x_retz C0 rfl ⟨v0, v1, v2, v3, v4, v5, v6, v7, v8, v9, v10⟩ hw h dL_acts_780
  · replace h := h.2 c_242
    refine lv_iconst (v := 1) hx hb dL_acts_775 (by decide) ?_
    refine lv_goto (tgt := 780) hx hb dL_acts_776 (by decide) ?_
    exact x_retz C0 rfl ⟨v0, v1, v2, v3, v4, v5, v6, v7, v8, v9, v10⟩ hw h dL_acts_780
set_option maxRecDepth 100000 in
set_option maxHeartbeats 4000000 in
theorem j_L_acts_755 {p : Program} {l : Launch} {e : Env} {s : State} {m : MethodId} {below : List Frame} {meth : Method} {c : Code} {E : EE} {A : Nat → Prop} {aG : Nat → Nat} {a0 : Nat → Nat} {a1 : Nat → Nat} {a2 : Nat → Nat} {a3 : Nat → Nat} {aH : Nat → Nat} {h0 : Nat → Nat} {h1 : Nat → Nat} {h2 : Nat → Nat} {h3 : Nat → Nat} {aS : Nat → Nat} {args : Array Value} (C0 : Cx E p s m args meth c A cL_acts 17 RL wsL_acts (some .boolean)) {post : Int32 → V → V → V → V → V → V → V → V → V → V → V → Prop}  : ∀ (x11 : Int32) (q0 : Int32) (v0 : V) (v1 : V) (v2 : V) (v3 : V) (v4 : V) (v5 : V) (v6 : V) (v7 : V) (v8 : V) (v9 : V) (v10 : V), sj_L_acts_755 post  x11 q0 v0 v1 v2 v3 v4 v5 v6 v7 v8 v9 v10 → ∀ (H : Heap) (locs : List Loc) (ls : Array Slot), mw E A s.heap H locs (List.flatten [cG aG (a0 0) (a1 0) (a2 0) (a3 0) (aH 0) (aS 0) v0, cM E a0 v1, cM E a1 v2, cM E a2 v3, cM E a3 v4, cH E aH (h0 0) (h1 0) (h2 0) (h3 0) v5, cM E h0 v6, cM E h1 v7, cM E h2 v8, cM E h3 v9, cS E aS v10]) → lv_has ls 17 [(0, .ref (aG 0)), (11, .int x11)] → W p l e rmL_acts s m args below meth c H locs 0 0 (qI E A (fun r (u : V × V × V × V × V × V × V × V × V × V × V) => post r u.1 u.2.1 u.2.2.1 u.2.2.2.1 u.2.2.2.2.1 u.2.2.2.2.2.1 u.2.2.2.2.2.2.1 u.2.2.2.2.2.2.2.1 u.2.2.2.2.2.2.2.2.1 u.2.2.2.2.2.2.2.2.2.1 u.2.2.2.2.2.2.2.2.2.2) (fun (u : V × V × V × V × V × V × V × V × V × V × V) => (List.flatten [cG aG (a0 0) (a1 0) (a2 0) (a3 0) (aH 0) (aS 0) u.1, cM E a0 u.2.1, cM E a1 u.2.2.1, cM E a2 u.2.2.2.1, cM E a3 u.2.2.2.2.1, cH E aH (h0 0) (h1 0) (h2 0) (h3 0) u.2.2.2.2.2.1, cM E h0 u.2.2.2.2.2.2.1, cM E h1 u.2.2.2.2.2.2.2.1, cM E h2 u.2.2.2.2.2.2.2.2.1, cM E h3 u.2.2.2.2.2.2.2.2.2.1, cS E aS u.2.2.2.2.2.2.2.2.2.2])) below args s) (F0 m 755 ls [.int q0]) := by
  have hx := C0.1
  have hb := C0.2.1
  intro x11 q0 v0 v1 v2 v3 v4 v5 v6 v7 v8 v9 v10 h H locs ls hw hl
  unfold sj_L_acts_755 at h
  refine lv_aload_n hx hb dL_acts_755 rfl (lv_at hl 0 rfl) ?_
  refine lv_iload hx hb dL_acts_756 (lv_at hl 1 rfl) ?_
  refine lv_bipush (v := 6) hx hb dL_acts_758 (by decide) ?_
  refine x_cV (As := [.int x11, .int 6]) (rest := [.int q0]) (F := (List.flatten [cM E a1 v2, cM E a2 v3, cM E a3 v4, cH E aH (h0 0) (h1 0) (h2 0) (h3 0) v5, cM E h0 v6, cM E h1 v7, cM E h2 v8, cM E h3 v9, cS E aS v10])) C0 hw (p_fl (ds := [cG aG (a0 0) (a1 0) (a2 0) (a3 0) (aH 0) (aS 0) v0, cM E a0 v1]) (List.Perm.refl _)) hl.1 0 6 rfl rfl (c_X6_memoOf l E aG a0 a1 a2 a3 aH h0 h1 h2 h3 aS h) 2 gL_acts_X6_memoOf rfl ⟨rfl, rfl⟩ (by decide +kernel) ⟨Nat.le_of_ble_eq_true rfl, Nat.le_of_ble_eq_true rfl⟩ rfl rfl (Nat.le_of_ble_eq_true rfl) dL_acts_760 ⟨Nat.zero_le _, Nat.zero_le _⟩ (fun r_239 u_244 H locs h hw => ?_)
  obtain ⟨v_240, v_241⟩ := u_244
  replace hw : mw E A s.heap H locs (List.flatten [cG aG (a0 0) (a1 0) (a2 0) (a3 0) (aH 0) (aS 0) v_240, cM E a0 v_241, cM E a1 v2, cM E a2 v3, cM E a3 v4, cH E aH (h0 0) (h1 0) (h2 0) (h3 0) v5, cM E h0 v6, cM E h1 v7, cM E h2 v8, cM E h3 v9, cS E aS v10]) := hw.perm (p_bk (ds := [cG aG (a0 0) (a1 0) (a2 0) (a3 0) (aH 0) (aS 0) v_240, cM E a0 v_241]) (List.Perm.refl _))
  refine lv_iconst (v := 1) hx hb dL_acts_763 (by decide) ?_
  refine lv_icmp_ne (tgt := 771) hx hb dL_acts_764 (by decide) (fun c_243 => ?_) (fun c_243 => ?_)
  · replace h := h.1 c_243
    refine lv_iconst (v := 0) hx hb dL_acts_771 (by decide) ?_
    exact j_L_acts_772 C0 _ _ _ _ _ _ _ _ _ _ _ _ _ h _ _ _ hw (lv_sub hl [] rfl)
  · replace h := h.2 c_243
    refine lv_iconst (v := 1) hx hb dL_acts_767 (by decide) ?_
    refine lv_goto (tgt := 772) hx hb dL_acts_768 (by decide) ?_
    exact j_L_acts_772 C0 _ _ _ _ _ _ _ _ _ _ _ _ _ h _ _ _ hw (lv_sub hl [] rfl)
