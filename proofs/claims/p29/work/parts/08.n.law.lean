set_option maxRecDepth 100000 in
set_option maxHeartbeats 4000000 in
theorem j_L_law_288 {p : Program} {l : Launch} {e : Env} {s : State} {m : MethodId} {below : List Frame} {meth : Method} {c : Code} {E : EE} {A : Nat → Prop} {aG : Nat → Nat} {a0 : Nat → Nat} {a1 : Nat → Nat} {a2 : Nat → Nat} {a3 : Nat → Nat} {aH : Nat → Nat} {h0 : Nat → Nat} {h1 : Nat → Nat} {h2 : Nat → Nat} {h3 : Nat → Nat} {aS : Nat → Nat} {b L : Nat} {xs : Nat → Int32} (C0 : Cx E p s m #[Value.ref b] meth c A cL_law 11 RL wsL_law (some .boolean)) (hX : va_X b L xs s s.heap) (hbl : b < s.heap.size) (hbA : ¬ A b) (hL : L ≤ 260) (hAl : ∀ q, A q → s.heap.size ≤ q)   {rec : Int32 → Int32 → V → V → V → V → V → V → V → V → V → V → V → Prop} {k0 : Int32 → Int32 → V → V → V → V → V → V → V → V → V → V → V → Prop} (hrec : ∀ (x2 : Int32) (x3 : Int32) (v0 : V) (v1 : V) (v2 : V) (v3 : V) (v4 : V) (v5 : V) (v6 : V) (v7 : V) (v8 : V) (v9 : V) (v10 : V), rec x2 x3 v0 v1 v2 v3 v4 v5 v6 v7 v8 v9 v10 → ∀ (H : Heap) (locs : List Loc) (ls : Array Slot), mw E A s.heap H locs (List.flatten [cG aG (a0 0) (a1 0) (a2 0) (a3 0) (aH 0) (aS 0) v0, cM E a0 v1, cM E a1 v2, cM E a2 v3, cM E a3 v4, cH E aH (h0 0) (h1 0) (h2 0) (h3 0) v5, cM E h0 v6, cM E h1 v7, cM E h2 v8, cM E h3 v9, cS E aS v10]) → lv_has ls 11 [(0, .ref b), (1, .ref (aG 0)), (2, .int x2), (3, .int x3)] → W p l e room_1 s m #[Value.ref b] below meth c H locs 600000 7302250 (lw_Z below #[Value.ref b] s) (F0 m 73 ls [])) (hk0 : ∀ (x2 : Int32) (x3 : Int32) (v0 : V) (v1 : V) (v2 : V) (v3 : V) (v4 : V) (v5 : V) (v6 : V) (v7 : V) (v8 : V) (v9 : V) (v10 : V), k0 x2 x3 v0 v1 v2 v3 v4 v5 v6 v7 v8 v9 v10 → ∀ (H : Heap) (locs : List Loc) (ls : Array Slot), mw E A s.heap H locs (List.flatten [cG aG (a0 0) (a1 0) (a2 0) (a3 0) (aH 0) (aS 0) v0, cM E a0 v1, cM E a1 v2, cM E a2 v3, cM E a3 v4, cH E aH (h0 0) (h1 0) (h2 0) (h3 0) v5, cM E h0 v6, cM E h1 v7, cM E h2 v8, cM E h3 v9, cS E aS v10]) → lv_has ls 11 [(0, .ref b), (1, .ref (aG 0)), (2, .int x2), (3, .int x3)] → W p l e room_1 s m #[Value.ref b] below meth c H locs 600000 7302250 (lw_Z below #[Value.ref b] s) (F0 m 295 ls [])) : ∀ (x2 : Int32) (x3 : Int32) (q0 : Int32) (v0 : V) (v1 : V) (v2 : V) (v3 : V) (v4 : V) (v5 : V) (v6 : V) (v7 : V) (v8 : V) (v9 : V) (v10 : V), sj_L_law_288 xs L rec k0 x2 x3 q0 v0 v1 v2 v3 v4 v5 v6 v7 v8 v9 v10 → ∀ (H : Heap) (locs : List Loc) (ls : Array Slot), mw E A s.heap H locs (List.flatten [cG aG (a0 0) (a1 0) (a2 0) (a3 0) (aH 0) (aS 0) v0, cM E a0 v1, cM E a1 v2, cM E a2 v3, cM E a3 v4, cH E aH (h0 0) (h1 0) (h2 0) (h3 0) v5, cM E h0 v6, cM E h1 v7, cM E h2 v8, cM E h3 v9, cS E aS v10]) → lv_has ls 11 [(0, .ref b), (1, .ref (aG 0)), (2, .int x2), (3, .int x3)] → W p l e room_1 s m #[Value.ref b] below meth c H locs 600000 7302250 (lw_Z below #[Value.ref b] s) (F0 m 288 ls [.int q0]) := by
  have hx := C0.1
  have hb := C0.2.1
  intro x2 x3 q0 v0 v1 v2 v3 v4 v5 v6 v7 v8 v9 v10 h H locs ls hw hl
  unfold sj_L_law_288 at h
  refine lv_istore_n (lv' := [(2, .int q0), (0, .ref b), (1, .ref (aG 0)), (3, .int x3)]) hx hb dL_law_288 rfl hl (by decide) rfl (fun ls hl => ?_)
  refine lv_iinc (v := (x3 + 1)) (lv' := [(3, .int (x3 + 1)), (2, .int q0), (0, .ref b), (1, .ref (aG 0))]) hx hb dL_law_289 hl (k := 3) rfl rfl (by decide) rfl (fun ls hl => ?_)
  refine lv_goto (tgt := 73) hx hb dL_law_292 (by decide) ?_
  exact hrec _ _ _ _ _ _ _ _ _ _ _ _ _ h _ _ _ hw (lv_sub hl [2, 3, 1, 0] rfl)
set_option maxRecDepth 100000 in
set_option maxHeartbeats 4000000 in
theorem j_L_law_280 {p : Program} {l : Launch} {e : Env} {s : State} {m : MethodId} {below : List Frame} {meth : Method} {c : Code} {E : EE} {A : Nat → Prop} {aG : Nat → Nat} {a0 : Nat → Nat} {a1 : Nat → Nat} {a2 : Nat → Nat} {a3 : Nat → Nat} {aH : Nat → Nat} {h0 : Nat → Nat} {h1 : Nat → Nat} {h2 : Nat → Nat} {h3 : Nat → Nat} {aS : Nat → Nat} {b L : Nat} {xs : Nat → Int32} (C0 : Cx E p s m #[Value.ref b] meth c A cL_law 11 RL wsL_law (some .boolean)) (hX : va_X b L xs s s.heap) (hbl : b < s.heap.size) (hbA : ¬ A b) (hL : L ≤ 260) (hAl : ∀ q, A q → s.heap.size ≤ q)   {rec : Int32 → Int32 → V → V → V → V → V → V → V → V → V → V → V → Prop} {k0 : Int32 → Int32 → V → V → V → V → V → V → V → V → V → V → V → Prop} (hrec : ∀ (x2 : Int32) (x3 : Int32) (v0 : V) (v1 : V) (v2 : V) (v3 : V) (v4 : V) (v5 : V) (v6 : V) (v7 : V) (v8 : V) (v9 : V) (v10 : V), rec x2 x3 v0 v1 v2 v3 v4 v5 v6 v7 v8 v9 v10 → ∀ (H : Heap) (locs : List Loc) (ls : Array Slot), mw E A s.heap H locs (List.flatten [cG aG (a0 0) (a1 0) (a2 0) (a3 0) (aH 0) (aS 0) v0, cM E a0 v1, cM E a1 v2, cM E a2 v3, cM E a3 v4, cH E aH (h0 0) (h1 0) (h2 0) (h3 0) v5, cM E h0 v6, cM E h1 v7, cM E h2 v8, cM E h3 v9, cS E aS v10]) → lv_has ls 11 [(0, .ref b), (1, .ref (aG 0)), (2, .int x2), (3, .int x3)] → W p l e room_1 s m #[Value.ref b] below meth c H locs 600000 7302250 (lw_Z below #[Value.ref b] s) (F0 m 73 ls [])) (hk0 : ∀ (x2 : Int32) (x3 : Int32) (v0 : V) (v1 : V) (v2 : V) (v3 : V) (v4 : V) (v5 : V) (v6 : V) (v7 : V) (v8 : V) (v9 : V) (v10 : V), k0 x2 x3 v0 v1 v2 v3 v4 v5 v6 v7 v8 v9 v10 → ∀ (H : Heap) (locs : List Loc) (ls : Array Slot), mw E A s.heap H locs (List.flatten [cG aG (a0 0) (a1 0) (a2 0) (a3 0) (aH 0) (aS 0) v0, cM E a0 v1, cM E a1 v2, cM E a2 v3, cM E a3 v4, cH E aH (h0 0) (h1 0) (h2 0) (h3 0) v5, cM E h0 v6, cM E h1 v7, cM E h2 v8, cM E h3 v9, cS E aS v10]) → lv_has ls 11 [(0, .ref b), (1, .ref (aG 0)), (2, .int x2), (3, .int x3)] → W p l e room_1 s m #[Value.ref b] below meth c H locs 600000 7302250 (lw_Z below #[Value.ref b] s) (F0 m 295 ls [])) : ∀ (x2 : Int32) (x3 : Int32) (q0 : Int32) (q1 : Int32) (v0 : V) (v1 : V) (v2 : V) (v3 : V) (v4 : V) (v5 : V) (v6 : V) (v7 : V) (v8 : V) (v9 : V) (v10 : V), sj_L_law_280 xs L rec k0 x2 x3 q0 q1 v0 v1 v2 v3 v4 v5 v6 v7 v8 v9 v10 → ∀ (H : Heap) (locs : List Loc) (ls : Array Slot), mw E A s.heap H locs (List.flatten [cG aG (a0 0) (a1 0) (a2 0) (a3 0) (aH 0) (aS 0) v0, cM E a0 v1, cM E a1 v2, cM E a2 v3, cM E a3 v4, cH E aH (h0 0) (h1 0) (h2 0) (h3 0) v5, cM E h0 v6, cM E h1 v7, cM E h2 v8, cM E h3 v9, cS E aS v10]) → lv_has ls 11 [(0, .ref b), (1, .ref (aG 0)), (2, .int x2), (3, .int x3)] → W p l e room_1 s m #[Value.ref b] below meth c H locs 600000 7302250 (lw_Z below #[Value.ref b] s) (F0 m 280 ls [.int q1, .int q0]) := by
  have hx := C0.1
  have hb := C0.2.1
  intro x2 x3 q0 q1 v0 v1 v2 v3 v4 v5 v6 v7 v8 v9 v10 h H locs ls hw hl
  unfold sj_L_law_280 at h
  refine lv_icmp_ne (tgt := 287) hx hb dL_law_280 (by decide) (fun c_60 => ?_) (fun c_60 => ?_)
  · replace h := h.1 c_60
    refine lv_iconst (v := 0) hx hb dL_law_287 (by decide) ?_
    exact j_L_law_288 C0 hX hbl hbA hL hAl hrec hk0 _ _ _ _ _ _ _ _ _ _ _ _ _ _ h _ _ _ hw (lv_sub hl [0, 1, 2, 3] rfl)
  · replace h := h.2 c_60
    refine lv_iconst (v := 1) hx hb dL_law_283 (by decide) ?_
    refine lv_goto (tgt := 288) hx hb dL_law_284 (by decide) ?_
    exact j_L_law_288 C0 hX hbl hbA hL hAl hrec hk0 _ _ _ _ _ _ _ _ _ _ _ _ _ _ h _ _ _ hw (lv_sub hl [0, 1, 2, 3] rfl)
set_option maxRecDepth 100000 in
set_option maxHeartbeats 4000000 in
theorem j_L_law_243 {p : Program} {l : Launch} {e : Env} {s : State} {m : MethodId} {below : List Frame} {meth : Method} {c : Code} {E : EE} {A : Nat → Prop} {aG : Nat → Nat} {a0 : Nat → Nat} {a1 : Nat → Nat} {a2 : Nat → Nat} {a3 : Nat → Nat} {aH : Nat → Nat} {h0 : Nat → Nat} {h1 : Nat → Nat} {h2 : Nat → Nat} {h3 : Nat → Nat} {aS : Nat → Nat} {b L : Nat} {xs : Nat → Int32} (C0 : Cx E p s m #[Value.ref b] meth c A cL_law 11 RL wsL_law (some .boolean)) (hX : va_X b L xs s s.heap) (hbl : b < s.heap.size) (hbA : ¬ A b) (hL : L ≤ 260) (hAl : ∀ q, A q → s.heap.size ≤ q)   {rec : Int32 → Int32 → V → V → V → V → V → V → V → V → V → V → V → Prop} {k0 : Int32 → Int32 → V → V → V → V → V → V → V → V → V → V → V → Prop} (hrec : ∀ (x2 : Int32) (x3 : Int32) (v0 : V) (v1 : V) (v2 : V) (v3 : V) (v4 : V) (v5 : V) (v6 : V) (v7 : V) (v8 : V) (v9 : V) (v10 : V), rec x2 x3 v0 v1 v2 v3 v4 v5 v6 v7 v8 v9 v10 → ∀ (H : Heap) (locs : List Loc) (ls : Array Slot), mw E A s.heap H locs (List.flatten [cG aG (a0 0) (a1 0) (a2 0) (a3 0) (aH 0) (aS 0) v0, cM E a0 v1, cM E a1 v2, cM E a2 v3, cM E a3 v4, cH E aH (h0 0) (h1 0) (h2 0) (h3 0) v5, cM E h0 v6, cM E h1 v7, cM E h2 v8, cM E h3 v9, cS E aS v10]) → lv_has ls 11 [(0, .ref b), (1, .ref (aG 0)), (2, .int x2), (3, .int x3)] → W p l e room_1 s m #[Value.ref b] below meth c H locs 600000 7302250 (lw_Z below #[Value.ref b] s) (F0 m 73 ls [])) (hk0 : ∀ (x2 : Int32) (x3 : Int32) (v0 : V) (v1 : V) (v2 : V) (v3 : V) (v4 : V) (v5 : V) (v6 : V) (v7 : V) (v8 : V) (v9 : V) (v10 : V), k0 x2 x3 v0 v1 v2 v3 v4 v5 v6 v7 v8 v9 v10 → ∀ (H : Heap) (locs : List Loc) (ls : Array Slot), mw E A s.heap H locs (List.flatten [cG aG (a0 0) (a1 0) (a2 0) (a3 0) (aH 0) (aS 0) v0, cM E a0 v1, cM E a1 v2, cM E a2 v3, cM E a3 v4, cH E aH (h0 0) (h1 0) (h2 0) (h3 0) v5, cM E h0 v6, cM E h1 v7, cM E h2 v8, cM E h3 v9, cS E aS v10]) → lv_has ls 11 [(0, .ref b), (1, .ref (aG 0)), (2, .int x2), (3, .int x3)] → W p l e room_1 s m #[Value.ref b] below meth c H locs 600000 7302250 (lw_Z below #[Value.ref b] s) (F0 m 295 ls [])) : ∀ (x2 : Int32) (x3 : Int32) (v0 : V) (v1 : V) (v2 : V) (v3 : V) (v4 : V) (v5 : V) (v6 : V) (v7 : V) (v8 : V) (v9 : V) (v10 : V), sj_L_law_243 xs L rec k0 x2 x3 v0 v1 v2 v3 v4 v5 v6 v7 v8 v9 v10 → ∀ (H : Heap) (locs : List Loc) (ls : Array Slot), mw E A s.heap H locs (List.flatten [cG aG (a0 0) (a1 0) (a2 0) (a3 0) (aH 0) (aS 0) v0, cM E a0 v1, cM E a1 v2, cM E a2 v3, cM E a3 v4, cH E aH (h0 0) (h1 0) (h2 0) (h3 0) v5, cM E h0 v6, cM E h1 v7, cM E h2 v8, cM E h3 v9, cS E aS v10]) → lv_has ls 11 [(0, .ref b), (1, .ref (aG 0)), (2, .int x2), (3, .int x3)] → W p l e room_1 s m #[Value.ref b] below meth c H locs 600000 7302250 (lw_Z below #[Value.ref b] s) (F0 m 243 ls []) := by
  have hx := C0.1
  have hb := C0.2.1
  intro x2 x3 v0 v1 v2 v3 v4 v5 v6 v7 v8 v9 v10 h H locs ls hw hl
  unfold sj_L_law_243 at h
  refine lv_iload_n hx hb dL_law_243 rfl (lv_at hl 2 rfl) ?_
  refine lv_if_eq (tgt := 289) hx hb dL_law_244 (by decide) (fun c_65 => ?_) (fun c_65 => ?_)
  · replace h := h.1 c_65
    refine lv_iinc (v := (x3 + 1)) (lv' := [(3, .int (x3 + 1)), (0, .ref b), (1, .ref (aG 0)), (2, .int x2)]) hx hb dL_law_289 hl (k := 3) rfl rfl (by decide) rfl (fun ls hl => ?_)
    refine lv_goto (tgt := 73) hx hb dL_law_292 (by decide) ?_
    exact hrec _ _ _ _ _ _ _ _ _ _ _ _ _ h _ _ _ hw (lv_sub hl [1, 2, 3, 0] rfl)
  · replace h := h.2 c_65
    refine lv_iload_n hx hb dL_law_247 rfl (lv_at hl 3 rfl) ?_
    refine lv_iconst (v := 5) hx hb dL_law_248 (by decide) ?_
    refine lv_irem hx hb dL_law_249 (by decide) ?_
    refine lv_iconst (v := 4) hx hb dL_law_250 (by decide) ?_
    refine lv_icmp_ne (tgt := 289) hx hb dL_law_251 (by decide) (fun c_64 => ?_) (fun c_64 => ?_)
    · replace h := h.1 c_64
      refine lv_iinc (v := (x3 + 1)) (lv' := [(3, .int (x3 + 1)), (0, .ref b), (1, .ref (aG 0)), (2, .int x2)]) hx hb dL_law_289 hl (k := 3) rfl rfl (by decide) rfl (fun ls hl => ?_)
      refine lv_goto (tgt := 73) hx hb dL_law_292 (by decide) ?_
      exact hrec _ _ _ _ _ _ _ _ _ _ _ _ _ h _ _ _ hw (lv_sub hl [1, 2, 3, 0] rfl)
    · replace h := h.2 c_64
      refine lv_aload_n hx hb dL_law_254 rfl (lv_at hl 1 rfl) ?_
      refine lv_bipush (v := 11) hx hb dL_law_255 (by decide) ?_
      refine x_cV (As := [.int 11]) (rest := []) (F := (List.flatten [cM E a1 v2, cM E a2 v3, cM E a3 v4, cM E h0 v6, cM E h1 v7, cM E h2 v8, cM E h3 v9])) C0 hw (p_fl (ds := [cG aG (a0 0) (a1 0) (a2 0) (a3 0) (aH 0) (aS 0) v0, cM E a0 v1, cH E aH (h0 0) (h1 0) (h2 0) (h3 0) v5, cS E aS v10]) ((p_pk _ 0 _ rfl).trans (List.Perm.cons _ ((p_pk _ 0 _ rfl).trans (List.Perm.cons _ ((p_pk _ 3 _ rfl).trans (List.Perm.cons _ ((p_pk _ 7 _ rfl).trans (List.Perm.cons _ (List.Perm.refl _)))))))))) hl.1 0 6 rfl rfl (c_X6_count l E aG a0 a1 a2 a3 aH h0 h1 h2 h3 aS h) 1 gL_law_X6_count rfl ⟨rfl, rfl⟩ (by decide +kernel) ⟨Nat.le_of_ble_eq_true rfl, Nat.le_of_ble_eq_true rfl⟩ rfl rfl (Nat.le_of_ble_eq_true rfl) dL_law_257 ⟨Nat.le_of_ble_eq_true rfl, Nat.le_of_ble_eq_true rfl⟩ (fun r_47 u_63 H locs h hw => ?_)
      obtain ⟨v_48, v_49, v_50, v_51⟩ := u_63
      replace hw : mw E A s.heap H locs (List.flatten [cG aG (a0 0) (a1 0) (a2 0) (a3 0) (aH 0) (aS 0) v_48, cM E a0 v_49, cM E a1 v2, cM E a2 v3, cM E a3 v4, cH E aH (h0 0) (h1 0) (h2 0) (h3 0) v_50, cM E h0 v6, cM E h1 v7, cM E h2 v8, cM E h3 v9, cS E aS v_51]) := hw.perm (p_bk (ds := [cG aG (a0 0) (a1 0) (a2 0) (a3 0) (aH 0) (aS 0) v_48, cM E a0 v_49, cH E aH (h0 0) (h1 0) (h2 0) (h3 0) v_50, cS E aS v_51]) ((p_pk _ 0 _ rfl).trans (List.Perm.cons _ ((p_pk _ 0 _ rfl).trans (List.Perm.cons _ ((p_pk _ 3 _ rfl).trans (List.Perm.cons _ ((p_pk _ 7 _ rfl).trans (List.Perm.cons _ (List.Perm.refl _))))))))))
      refine lv_istore (lv' := [(10, .int r_47), (0, .ref b), (1, .ref (aG 0)), (2, .int x2), (3, .int x3)]) hx hb dL_law_260 hl (by decide) rfl (fun ls hl => ?_)
      refine lv_aload_n hx hb dL_law_262 rfl (lv_at hl 2 rfl) ?_
      refine x_cV (As := []) (rest := []) (F := (List.flatten [cM E a1 v2, cM E a2 v3, cM E a3 v4, cS E aS v_51])) C0 hw (p_fl (ds := [cG aG (a0 0) (a1 0) (a2 0) (a3 0) (aH 0) (aS 0) v_48, cM E a0 v_49, cH E aH (h0 0) (h1 0) (h2 0) (h3 0) v_50, cM E h0 v6, cM E h1 v7, cM E h2 v8, cM E h3 v9]) ((p_pk _ 0 _ rfl).trans (List.Perm.cons _ ((p_pk _ 0 _ rfl).trans (List.Perm.cons _ ((p_pk _ 3 _ rfl).trans (List.Perm.cons _ ((p_pk _ 3 _ rfl).trans (List.Perm.cons _ ((p_pk _ 3 _ rfl).trans (List.Perm.cons _ ((p_pk _ 3 _ rfl).trans (List.Perm.cons _ ((p_pk _ 3 _ rfl).trans (List.Perm.cons _ (List.Perm.refl _)))))))))))))))) hl.1 0 6 rfl rfl (c_X6_undo l E aG a0 a1 a2 a3 aH h0 h1 h2 h3 aS h) 0 gL_law_X6_undo rfl ⟨rfl, rfl⟩ (by decide +kernel) ⟨Nat.le_of_ble_eq_true rfl, Nat.le_of_ble_eq_true rfl⟩ rfl rfl (Nat.le_of_ble_eq_true rfl) dL_law_263 ⟨Nat.le_of_ble_eq_true rfl, Nat.le_of_ble_eq_true rfl⟩ (fun r_52 u_62 H locs h hw => ?_)
      obtain ⟨v_53, v_54, v_55, v_56, v_57, v_58, v_59⟩ := u_62
      replace hw : mw E A s.heap H locs (List.flatten [cG aG (a0 0) (a1 0) (a2 0) (a3 0) (aH 0) (aS 0) v_53, cM E a0 v_54, cM E a1 v2, cM E a2 v3, cM E a3 v4, cH E aH (h0 0) (h1 0) (h2 0) (h3 0) v_55, cM E h0 v_56, cM E h1 v_57, cM E h2 v_58, cM E h3 v_59, cS E aS v_51]) := hw.perm (p_bk (ds := [cG aG (a0 0) (a1 0) (a2 0) (a3 0) (aH 0) (aS 0) v_53, cM E a0 v_54, cH E aH (h0 0) (h1 0) (h2 0) (h3 0) v_55, cM E h0 v_56, cM E h1 v_57, cM E h2 v_58, cM E h3 v_59]) ((p_pk _ 0 _ rfl).trans (List.Perm.cons _ ((p_pk _ 0 _ rfl).trans (List.Perm.cons _ ((p_pk _ 3 _ rfl).trans (List.Perm.cons _ ((p_pk _ 3 _ rfl).trans (List.Perm.cons _ ((p_pk _ 3 _ rfl).trans (List.Perm.cons _ ((p_pk _ 3 _ rfl).trans (List.Perm.cons _ ((p_pk _ 3 _ rfl).trans (List.Perm.cons _ (List.Perm.refl _))))))))))))))))
      refine lv_iload hx hb dL_law_266 (lv_at hl 0 rfl) ?_
      refine lv_if_ne (tgt := 276) hx hb dL_law_268 (by decide) (fun c_61 => ?_) (fun c_61 => ?_)
      · replace h := h.1 c_61
        refine lv_iload hx hb dL_law_276 (lv_at hl 0 rfl) ?_
        refine lv_iconst (v := 1) hx hb dL_law_278 (by decide) ?_
        refine lv_isub hx hb dL_law_279 ?_
        exact j_L_law_280 C0 hX hbl hbA hL hAl hrec hk0 _ _ _ _ _ _ _ _ _ _ _ _ _ _ _ h _ _ _ hw (lv_sub hl [1, 2, 3, 4] rfl)
      · replace h := h.2 c_61
        refine x_ldc (v := (-10000002)) C0 3 rfl dL_law_271 ?_
        refine lv_goto (tgt := 280) hx hb dL_law_273 (by decide) ?_
        exact j_L_law_280 C0 hX hbl hbA hL hAl hrec hk0 _ _ _ _ _ _ _ _ _ _ _ _ _ _ _ h _ _ _ hw (lv_sub hl [1, 2, 3, 4] rfl)
set_option maxRecDepth 100000 in
set_option maxHeartbeats 4000000 in
theorem j_L_law_242 {p : Program} {l : Launch} {e : Env} {s : State} {m : MethodId} {below : List Frame} {meth : Method} {c : Code} {E : EE} {A : Nat → Prop} {aG : Nat → Nat} {a0 : Nat → Nat} {a1 : Nat → Nat} {a2 : Nat → Nat} {a3 : Nat → Nat} {aH : Nat → Nat} {h0 : Nat → Nat} {h1 : Nat → Nat} {h2 : Nat → Nat} {h3 : Nat → Nat} {aS : Nat → Nat} {b L : Nat} {xs : Nat → Int32} (C0 : Cx E p s m #[Value.ref b] meth c A cL_law 11 RL wsL_law (some .boolean)) (hX : va_X b L xs s s.heap) (hbl : b < s.heap.size) (hbA : ¬ A b) (hL : L ≤ 260) (hAl : ∀ q, A q → s.heap.size ≤ q)   {rec : Int32 → Int32 → V → V → V → V → V → V → V → V → V → V → V → Prop} {k0 : Int32 → Int32 → V → V → V → V → V → V → V → V → V → V → V → Prop} (hrec : ∀ (x2 : Int32) (x3 : Int32) (v0 : V) (v1 : V) (v2 : V) (v3 : V) (v4 : V) (v5 : V) (v6 : V) (v7 : V) (v8 : V) (v9 : V) (v10 : V), rec x2 x3 v0 v1 v2 v3 v4 v5 v6 v7 v8 v9 v10 → ∀ (H : Heap) (locs : List Loc) (ls : Array Slot), mw E A s.heap H locs (List.flatten [cG aG (a0 0) (a1 0) (a2 0) (a3 0) (aH 0) (aS 0) v0, cM E a0 v1, cM E a1 v2, cM E a2 v3, cM E a3 v4, cH E aH (h0 0) (h1 0) (h2 0) (h3 0) v5, cM E h0 v6, cM E h1 v7, cM E h2 v8, cM E h3 v9, cS E aS v10]) → lv_has ls 11 [(0, .ref b), (1, .ref (aG 0)), (2, .int x2), (3, .int x3)] → W p l e room_1 s m #[Value.ref b] below meth c H locs 600000 7302250 (lw_Z below #[Value.ref b] s) (F0 m 73 ls [])) (hk0 : ∀ (x2 : Int32) (x3 : Int32) (v0 : V) (v1 : V) (v2 : V) (v3 : V) (v4 : V) (v5 : V) (v6 : V) (v7 : V) (v8 : V) (v9 : V) (v10 : V), k0 x2 x3 v0 v1 v2 v3 v4 v5 v6 v7 v8 v9 v10 → ∀ (H : Heap) (locs : List Loc) (ls : Array Slot), mw E A s.heap H locs (List.flatten [cG aG (a0 0) (a1 0) (a2 0) (a3 0) (aH 0) (aS 0) v0, cM E a0 v1, cM E a1 v2, cM E a2 v3, cM E a3 v4, cH E aH (h0 0) (h1 0) (h2 0) (h3 0) v5, cM E h0 v6, cM E h1 v7, cM E h2 v8, cM E h3 v9, cS E aS v10]) → lv_has ls 11 [(0, .ref b), (1, .ref (aG 0)), (2, .int x2), (3, .int x3)] → W p l e room_1 s m #[Value.ref b] below meth c H locs 600000 7302250 (lw_Z below #[Value.ref b] s) (F0 m 295 ls [])) : ∀ (x2 : Int32) (x3 : Int32) (q0 : Int32) (v0 : V) (v1 : V) (v2 : V) (v3 : V) (v4 : V) (v5 : V) (v6 : V) (v7 : V) (v8 : V) (v9 : V) (v10 : V), sj_L_law_242 xs L rec k0 x2 x3 q0 v0 v1 v2 v3 v4 v5 v6 v7 v8 v9 v10 → ∀ (H : Heap) (locs : List Loc) (ls : Array Slot), mw E A s.heap H locs (List.flatten [cG aG (a0 0) (a1 0) (a2 0) (a3 0) (aH 0) (aS 0) v0, cM E a0 v1, cM E a1 v2, cM E a2 v3, cM E a3 v4, cH E aH (h0 0) (h1 0) (h2 0) (h3 0) v5, cM E h0 v6, cM E h1 v7, cM E h2 v8, cM E h3 v9, cS E aS v10]) → lv_has ls 11 [(0, .ref b), (1, .ref (aG 0)), (2, .int x2), (3, .int x3)] → W p l e room_1 s m #[Value.ref b] below meth c H locs 600000 7302250 (lw_Z below #[Value.ref b] s) (F0 m 242 ls [.int q0]) := by
  have hx := C0.1
  have hb := C0.2.1
  intro x2 x3 q0 v0 v1 v2 v3 v4 v5 v6 v7 v8 v9 v10 h H locs ls hw hl
  unfold sj_L_law_242 at h
  refine lv_istore_n (lv' := [(2, .int q0), (0, .ref b), (1, .ref (aG 0)), (3, .int x3)]) hx hb dL_law_242 rfl hl (by decide) rfl (fun ls hl => ?_)
  exact j_L_law_243 C0 hX hbl hbA hL hAl hrec hk0 _ _ _ _ _ _ _ _ _ _ _ _ _ h _ _ _ hw (lv_sub hl [1, 2, 0, 3] rfl)
set_option maxRecDepth 100000 in
set_option maxHeartbeats 4000000 in
theorem j_L_law_192 {p : Program} {l : Launch} {e : Env} {s : State} {m : MethodId} {below : List Frame} {meth : Method} {c : Code} {E : EE} {A : Nat → Prop} {aG : Nat → Nat} {a0 : Nat → Nat} {a1 : Nat → Nat} {a2 : Nat → Nat} {a3 : Nat → Nat} {aH : Nat → Nat} {h0 : Nat → Nat} {h1 : Nat → Nat} {h2 : Nat → Nat} {h3 : Nat → Nat} {aS : Nat → Nat} {b L : Nat} {xs : Nat → Int32} (C0 : Cx E p s m #[Value.ref b] meth c A cL_law 11 RL wsL_law (some .boolean)) (hX : va_X b L xs s s.heap) (hbl : b < s.heap.size) (hbA : ¬ A b) (hL : L ≤ 260) (hAl : ∀ q, A q → s.heap.size ≤ q)   {rec : Int32 → Int32 → V → V → V → V → V → V → V → V → V → V → V → Prop} {k0 : Int32 → Int32 → V → V → V → V → V → V → V → V → V → V → V → Prop} (hrec : ∀ (x2 : Int32) (x3 : Int32) (v0 : V) (v1 : V) (v2 : V) (v3 : V) (v4 : V) (v5 : V) (v6 : V) (v7 : V) (v8 : V) (v9 : V) (v10 : V), rec x2 x3 v0 v1 v2 v3 v4 v5 v6 v7 v8 v9 v10 → ∀ (H : Heap) (locs : List Loc) (ls : Array Slot), mw E A s.heap H locs (List.flatten [cG aG (a0 0) (a1 0) (a2 0) (a3 0) (aH 0) (aS 0) v0, cM E a0 v1, cM E a1 v2, cM E a2 v3, cM E a3 v4, cH E aH (h0 0) (h1 0) (h2 0) (h3 0) v5, cM E h0 v6, cM E h1 v7, cM E h2 v8, cM E h3 v9, cS E aS v10]) → lv_has ls 11 [(0, .ref b), (1, .ref (aG 0)), (2, .int x2), (3, .int x3)] → W p l e room_1 s m #[Value.ref b] below meth c H locs 600000 7302250 (lw_Z below #[Value.ref b] s) (F0 m 73 ls [])) (hk0 : ∀ (x2 : Int32) (x3 : Int32) (v0 : V) (v1 : V) (v2 : V) (v3 : V) (v4 : V) (v5 : V) (v6 : V) (v7 : V) (v8 : V) (v9 : V) (v10 : V), k0 x2 x3 v0 v1 v2 v3 v4 v5 v6 v7 v8 v9 v10 → ∀ (H : Heap) (locs : List Loc) (ls : Array Slot), mw E A s.heap H locs (List.flatten [cG aG (a0 0) (a1 0) (a2 0) (a3 0) (aH 0) (aS 0) v0, cM E a0 v1, cM E a1 v2, cM E a2 v3, cM E a3 v4, cH E aH (h0 0) (h1 0) (h2 0) (h3 0) v5, cM E h0 v6, cM E h1 v7, cM E h2 v8, cM E h3 v9, cS E aS v10]) → lv_has ls 11 [(0, .ref b), (1, .ref (aG 0)), (2, .int x2), (3, .int x3)] → W p l e room_1 s m #[Value.ref b] below meth c H locs 600000 7302250 (lw_Z below #[Value.ref b] s) (F0 m 295 ls [])) : ∀ (x2 : Int32) (x3 : Int32) (x5 : Int32) (x6 : Int64) (x8 : Int32) (x9 : Int32) (q0 : Int32) (v0 : V) (v1 : V) (v2 : V) (v3 : V) (v4 : V) (v5 : V) (v6 : V) (v7 : V) (v8 : V) (v9 : V) (v10 : V), sj_L_law_192 xs L rec k0 x2 x3 x5 x6 x8 x9 q0 v0 v1 v2 v3 v4 v5 v6 v7 v8 v9 v10 → ∀ (H : Heap) (locs : List Loc) (ls : Array Slot), mw E A s.heap H locs (List.flatten [cG aG (a0 0) (a1 0) (a2 0) (a3 0) (aH 0) (aS 0) v0, cM E a0 v1, cM E a1 v2, cM E a2 v3, cM E a3 v4, cH E aH (h0 0) (h1 0) (h2 0) (h3 0) v5, cM E h0 v6, cM E h1 v7, cM E h2 v8, cM E h3 v9, cS E aS v10]) → lv_has ls 11 [(0, .ref b), (1, .ref (aG 0)), (2, .int x2), (3, .int x3), (5, .int x5), (6, .long x6), (8, .int x8), (9, .int x9)] → W p l e room_1 s m #[Value.ref b] below meth c H locs 600000 7302250 (lw_Z below #[Value.ref b] s) (F0 m 192 ls [.int q0]) := by
  have hx := C0.1
  have hb := C0.2.1
  intro x2 x3 x5 x6 x8 x9 q0 v0 v1 v2 v3 v4 v5 v6 v7 v8 v9 v10 h H locs ls hw hl
  unfold sj_L_law_192 at h
  refine lv_istore_n (lv' := [(2, .int q0), (0, .ref b), (1, .ref (aG 0)), (3, .int x3), (5, .int x5), (6, .long x6), (8, .int x8), (9, .int x9)]) hx hb dL_law_192 rfl hl (by decide) rfl (fun ls hl => ?_)
  refine lv_iload_n hx hb dL_law_193 rfl (lv_at hl 0 rfl) ?_
  refine lv_if_eq (tgt := 243) hx hb dL_law_194 (by decide) (fun c_94 => ?_) (fun c_94 => ?_)
  · replace h := h.1 c_94
    exact j_L_law_243 C0 hX hbl hbA hL hAl hrec hk0 _ _ _ _ _ _ _ _ _ _ _ _ _ h _ _ _ hw (lv_sub hl [1, 2, 0, 3] rfl)
  · replace h := h.2 c_94
    refine lv_iload hx hb dL_law_197 (lv_at hl 7 rfl) ?_
    refine lv_iload hx hb dL_law_199 (lv_at hl 6 rfl) ?_
    refine lv_iconst (v := 1) hx hb dL_law_201 (by decide) ?_
    refine lv_iadd hx hb dL_law_202 ?_
    refine lv_icmp_ne (tgt := 243) hx hb dL_law_203 (by decide) (fun c_93 => ?_) (fun c_93 => ?_)
    · replace h := h.1 c_93
      exact j_L_law_243 C0 hX hbl hbA hL hAl hrec hk0 _ _ _ _ _ _ _ _ _ _ _ _ _ h _ _ _ hw (lv_sub hl [1, 2, 0, 3] rfl)
    · replace h := h.2 c_93
      refine lv_iload hx hb dL_law_206 (lv_at hl 4 rfl) ?_
      refine lv_bipush (v := 8) hx hb dL_law_208 (by decide) ?_
      refine lv_ishr hx hb dL_law_210 ?_
      refine lv_iconst (v := 3) hx hb dL_law_211 (by decide) ?_
      refine x_cS (As := [.int (x5 >>> (8 &&& 31)), .int 3]) (rest := []) (F := (List.flatten [cG aG (a0 0) (a1 0) (a2 0) (a3 0) (aH 0) (aS 0) v0, cM E a0 v1, cM E a1 v2, cM E a2 v3, cM E a3 v4, cH E aH (h0 0) (h1 0) (h2 0) (h3 0) v5, cM E h0 v6, cM E h1 v7, cM E h2 v8, cM E h3 v9, cS E aS v10])) C0 hw (p_non _) hl.1 (c_L_low l E  h) 2 gL_law_L_low rfl ⟨rfl, rfl⟩ (by decide +kernel) ⟨Nat.le_of_ble_eq_true rfl, Nat.le_of_ble_eq_true rfl⟩ rfl rfl (Nat.le_of_ble_eq_true rfl) dL_law_212 ⟨Nat.le_of_ble_eq_true rfl, Nat.le_of_ble_eq_true rfl⟩ (fun r_66 _u H locs h (hw : mw E A s.heap H locs (List.flatten [cG aG (a0 0) (a1 0) (a2 0) (a3 0) (aH 0) (aS 0) v0, cM E a0 v1, cM E a1 v2, cM E a2 v3, cM E a3 v4, cH E aH (h0 0) (h1 0) (h2 0) (h3 0) v5, cM E h0 v6, cM E h1 v7, cM E h2 v8, cM E h3 v9, cS E aS v10])) => ?_)
      refine lv_if_ne (tgt := 243) hx hb dL_law_215 (by decide) (fun c_91 => ?_) (fun c_91 => ?_)
      · replace h := h.1 c_91
        exact j_L_law_243 C0 hX hbl hbA hL hAl hrec hk0 _ _ _ _ _ _ _ _ _ _ _ _ _ h _ _ _ hw (lv_sub hl [1, 2, 0, 3] rfl)
      · replace h := h.2 c_91
        refine lv_aload_n hx hb dL_law_218 rfl (lv_at hl 2 rfl) ?_
        refine x_cV (As := []) (rest := []) (F := (List.flatten [cM E a1 v2, cM E a2 v3, cM E a3 v4, cS E aS v10])) C0 hw (p_fl (ds := [cG aG (a0 0) (a1 0) (a2 0) (a3 0) (aH 0) (aS 0) v0, cM E a0 v1, cH E aH (h0 0) (h1 0) (h2 0) (h3 0) v5, cM E h0 v6, cM E h1 v7, cM E h2 v8, cM E h3 v9]) ((p_pk _ 0 _ rfl).trans (List.Perm.cons _ ((p_pk _ 0 _ rfl).trans (List.Perm.cons _ ((p_pk _ 3 _ rfl).trans (List.Perm.cons _ ((p_pk _ 3 _ rfl).trans (List.Perm.cons _ ((p_pk _ 3 _ rfl).trans (List.Perm.cons _ ((p_pk _ 3 _ rfl).trans (List.Perm.cons _ ((p_pk _ 3 _ rfl).trans (List.Perm.cons _ (List.Perm.refl _)))))))))))))))) hl.1 0 6 rfl rfl (c_X6_undo l E aG a0 a1 a2 a3 aH h0 h1 h2 h3 aS h) 0 gL_law_X6_undo rfl ⟨rfl, rfl⟩ (by decide +kernel) ⟨Nat.le_of_ble_eq_true rfl, Nat.le_of_ble_eq_true rfl⟩ rfl rfl (Nat.le_of_ble_eq_true rfl) dL_law_219 ⟨Nat.le_of_ble_eq_true rfl, Nat.le_of_ble_eq_true rfl⟩ (fun r_67 u_90 H locs h hw => ?_)
        obtain ⟨v_68, v_69, v_70, v_71, v_72, v_73, v_74⟩ := u_90
        replace hw : mw E A s.heap H locs (List.flatten [cG aG (a0 0) (a1 0) (a2 0) (a3 0) (aH 0) (aS 0) v_68, cM E a0 v_69, cM E a1 v2, cM E a2 v3, cM E a3 v4, cH E aH (h0 0) (h1 0) (h2 0) (h3 0) v_70, cM E h0 v_71, cM E h1 v_72, cM E h2 v_73, cM E h3 v_74, cS E aS v10]) := hw.perm (p_bk (ds := [cG aG (a0 0) (a1 0) (a2 0) (a3 0) (aH 0) (aS 0) v_68, cM E a0 v_69, cH E aH (h0 0) (h1 0) (h2 0) (h3 0) v_70, cM E h0 v_71, cM E h1 v_72, cM E h2 v_73, cM E h3 v_74]) ((p_pk _ 0 _ rfl).trans (List.Perm.cons _ ((p_pk _ 0 _ rfl).trans (List.Perm.cons _ ((p_pk _ 3 _ rfl).trans (List.Perm.cons _ ((p_pk _ 3 _ rfl).trans (List.Perm.cons _ ((p_pk _ 3 _ rfl).trans (List.Perm.cons _ ((p_pk _ 3 _ rfl).trans (List.Perm.cons _ ((p_pk _ 3 _ rfl).trans (List.Perm.cons _ (List.Perm.refl _))))))))))))))))
        refine lv_iload hx hb dL_law_222 (lv_at hl 6 rfl) ?_
        refine lv_icmp_ne (tgt := 241) hx hb dL_law_224 (by decide) (fun c_89 => ?_) (fun c_89 => ?_)
        · replace h := h.1 c_89
          refine lv_iconst (v := 0) hx hb dL_law_241 (by decide) ?_
          exact j_L_law_242 C0 hX hbl hbA hL hAl hrec hk0 _ _ _ _ _ _ _ _ _ _ _ _ _ _ h _ _ _ hw (lv_sub hl [1, 2, 0, 3] rfl)
        · replace h := h.2 c_89
          refine lv_aload_n hx hb dL_law_227 rfl (lv_at hl 2 rfl) ?_
          refine x_cSj (As := [.ref (aG 0)]) (rest := []) (F := []) C0 hw (p_nil _) hl.1 (c_L_digest l E aG a0 a1 a2 a3 aH h0 h1 h2 h3 aS h) 1 gL_law_L_digest rfl ⟨rfl, rfl⟩ (by decide +kernel) ⟨Nat.le_of_ble_eq_true rfl, Nat.le_of_ble_eq_true rfl⟩ rfl rfl (Nat.le_of_ble_eq_true rfl) dL_law_228 ⟨Nat.le_of_ble_eq_true rfl, Nat.le_of_ble_eq_true rfl⟩ (fun r_75 u_88 H locs h hw => ?_)
          obtain ⟨v_76, v_77, v_78, v_79, v_80, v_81, v_82, v_83, v_84, v_85, v_86⟩ := u_88
          replace hw : mw E A s.heap H locs (List.flatten [cG aG (a0 0) (a1 0) (a2 0) (a3 0) (aH 0) (aS 0) v_76, cM E a0 v_77, cM E a1 v_78, cM E a2 v_79, cM E a3 v_80, cH E aH (h0 0) (h1 0) (h2 0) (h3 0) v_81, cM E h0 v_82, cM E h1 v_83, cM E h2 v_84, cM E h3 v_85, cS E aS v_86]) := hw.perm (p_nil _).symm
          refine lv_lload hx hb dL_law_231 (lv_at hl 5 rfl) ?_
          refine W.lcmp hx hb dL_law_233 ?_
          refine lv_if_ne (tgt := 241) hx hb dL_law_234 (by decide) (fun c_87 => ?_) (fun c_87 => ?_)
          · replace h := h.1 c_87
            refine lv_iconst (v := 0) hx hb dL_law_241 (by decide) ?_
            exact j_L_law_242 C0 hX hbl hbA hL hAl hrec hk0 _ _ _ _ _ _ _ _ _ _ _ _ _ _ h _ _ _ hw (lv_sub hl [1, 2, 0, 3] rfl)
          · replace h := h.2 c_87
            refine lv_iconst (v := 1) hx hb dL_law_237 (by decide) ?_
            refine lv_goto (tgt := 242) hx hb dL_law_238 (by decide) ?_
            exact j_L_law_242 C0 hX hbl hbA hL hAl hrec hk0 _ _ _ _ _ _ _ _ _ _ _ _ _ _ h _ _ _ hw (lv_sub hl [1, 2, 0, 3] rfl)
set_option maxRecDepth 100000 in
set_option maxHeartbeats 4000000 in
theorem j_L_law_178 {p : Program} {l : Launch} {e : Env} {s : State} {m : MethodId} {below : List Frame} {meth : Method} {c : Code} {E : EE} {A : Nat → Prop} {aG : Nat → Nat} {a0 : Nat → Nat} {a1 : Nat → Nat} {a2 : Nat → Nat} {a3 : Nat → Nat} {aH : Nat → Nat} {h0 : Nat → Nat} {h1 : Nat → Nat} {h2 : Nat → Nat} {h3 : Nat → Nat} {aS : Nat → Nat} {b L : Nat} {xs : Nat → Int32} (C0 : Cx E p s m #[Value.ref b] meth c A cL_law 11 RL wsL_law (some .boolean)) (hX : va_X b L xs s s.heap) (hbl : b < s.heap.size) (hbA : ¬ A b) (hL : L ≤ 260) (hAl : ∀ q, A q → s.heap.size ≤ q)   {rec : Int32 → Int32 → V → V → V → V → V → V → V → V → V → V → V → Prop} {k0 : Int32 → Int32 → V → V → V → V → V → V → V → V → V → V → V → Prop} (hrec : ∀ (x2 : Int32) (x3 : Int32) (v0 : V) (v1 : V) (v2 : V) (v3 : V) (v4 : V) (v5 : V) (v6 : V) (v7 : V) (v8 : V) (v9 : V) (v10 : V), rec x2 x3 v0 v1 v2 v3 v4 v5 v6 v7 v8 v9 v10 → ∀ (H : Heap) (locs : List Loc) (ls : Array Slot), mw E A s.heap H locs (List.flatten [cG aG (a0 0) (a1 0) (a2 0) (a3 0) (aH 0) (aS 0) v0, cM E a0 v1, cM E a1 v2, cM E a2 v3, cM E a3 v4, cH E aH (h0 0) (h1 0) (h2 0) (h3 0) v5, cM E h0 v6, cM E h1 v7, cM E h2 v8, cM E h3 v9, cS E aS v10]) → lv_has ls 11 [(0, .ref b), (1, .ref (aG 0)), (2, .int x2), (3, .int x3)] → W p l e room_1 s m #[Value.ref b] below meth c H locs 600000 7302250 (lw_Z below #[Value.ref b] s) (F0 m 73 ls [])) (hk0 : ∀ (x2 : Int32) (x3 : Int32) (v0 : V) (v1 : V) (v2 : V) (v3 : V) (v4 : V) (v5 : V) (v6 : V) (v7 : V) (v8 : V) (v9 : V) (v10 : V), k0 x2 x3 v0 v1 v2 v3 v4 v5 v6 v7 v8 v9 v10 → ∀ (H : Heap) (locs : List Loc) (ls : Array Slot), mw E A s.heap H locs (List.flatten [cG aG (a0 0) (a1 0) (a2 0) (a3 0) (aH 0) (aS 0) v0, cM E a0 v1, cM E a1 v2, cM E a2 v3, cM E a3 v4, cH E aH (h0 0) (h1 0) (h2 0) (h3 0) v5, cM E h0 v6, cM E h1 v7, cM E h2 v8, cM E h3 v9, cS E aS v10]) → lv_has ls 11 [(0, .ref b), (1, .ref (aG 0)), (2, .int x2), (3, .int x3)] → W p l e room_1 s m #[Value.ref b] below meth c H locs 600000 7302250 (lw_Z below #[Value.ref b] s) (F0 m 295 ls [])) : ∀ (x2 : Int32) (x3 : Int32) (x5 : Int32) (x6 : Int64) (x8 : Int32) (x9 : Int32) (v0 : V) (v1 : V) (v2 : V) (v3 : V) (v4 : V) (v5 : V) (v6 : V) (v7 : V) (v8 : V) (v9 : V) (v10 : V), sj_L_law_178 xs L rec k0 x2 x3 x5 x6 x8 x9 v0 v1 v2 v3 v4 v5 v6 v7 v8 v9 v10 → ∀ (H : Heap) (locs : List Loc) (ls : Array Slot), mw E A s.heap H locs (List.flatten [cG aG (a0 0) (a1 0) (a2 0) (a3 0) (aH 0) (aS 0) v0, cM E a0 v1, cM E a1 v2, cM E a2 v3, cM E a3 v4, cH E aH (h0 0) (h1 0) (h2 0) (h3 0) v5, cM E h0 v6, cM E h1 v7, cM E h2 v8, cM E h3 v9, cS E aS v10]) → lv_has ls 11 [(0, .ref b), (1, .ref (aG 0)), (2, .int x2), (3, .int x3), (5, .int x5), (6, .long x6), (8, .int x8), (9, .int x9)] → W p l e room_1 s m #[Value.ref b] below meth c H locs 600000 7302250 (lw_Z below #[Value.ref b] s) (F0 m 178 ls []) := by
  have hx := C0.1
  have hb := C0.2.1
  intro x2 x3 x5 x6 x8 x9 v0 v1 v2 v3 v4 v5 v6 v7 v8 v9 v10 h H locs ls hw hl
  unfold sj_L_law_178 at h
  refine lv_iload hx hb dL_law_178 (lv_at hl 7 rfl) ?_
  refine lv_iload hx hb dL_law_180 (lv_at hl 6 rfl) ?_
  refine lv_iconst (v := 1) hx hb dL_law_182 (by decide) ?_
  refine lv_iadd hx hb dL_law_183 ?_
  refine lv_icmp_ne (tgt := 191) hx hb dL_law_184 (by decide) (fun c_95 => ?_) (fun c_95 => ?_)
  · replace h := h.1 c_95
    refine lv_iconst (v := 0) hx hb dL_law_191 (by decide) ?_
    exact j_L_law_192 C0 hX hbl hbA hL hAl hrec hk0 _ _ _ _ _ _ _ _ _ _ _ _ _ _ _ _ _ _ h _ _ _ hw (lv_sub hl [0, 1, 2, 3, 4, 5, 6, 7] rfl)
  · replace h := h.2 c_95
    refine lv_iconst (v := 1) hx hb dL_law_187 (by decide) ?_
    refine lv_goto (tgt := 192) hx hb dL_law_188 (by decide) ?_
    exact j_L_law_192 C0 hX hbl hbA hL hAl hrec hk0 _ _ _ _ _ _ _ _ _ _ _ _ _ _ _ _ _ _ h _ _ _ hw (lv_sub hl [0, 1, 2, 3, 4, 5, 6, 7] rfl)
set_option maxRecDepth 100000 in
set_option maxHeartbeats 4000000 in
theorem j_L_law_142 {p : Program} {l : Launch} {e : Env} {s : State} {m : MethodId} {below : List Frame} {meth : Method} {c : Code} {E : EE} {A : Nat → Prop} {aG : Nat → Nat} {a0 : Nat → Nat} {a1 : Nat → Nat} {a2 : Nat → Nat} {a3 : Nat → Nat} {aH : Nat → Nat} {h0 : Nat → Nat} {h1 : Nat → Nat} {h2 : Nat → Nat} {h3 : Nat → Nat} {aS : Nat → Nat} {b L : Nat} {xs : Nat → Int32} (C0 : Cx E p s m #[Value.ref b] meth c A cL_law 11 RL wsL_law (some .boolean)) (hX : va_X b L xs s s.heap) (hbl : b < s.heap.size) (hbA : ¬ A b) (hL : L ≤ 260) (hAl : ∀ q, A q → s.heap.size ≤ q)   {rec : Int32 → Int32 → V → V → V → V → V → V → V → V → V → V → V → Prop} {k0 : Int32 → Int32 → V → V → V → V → V → V → V → V → V → V → V → Prop} (hrec : ∀ (x2 : Int32) (x3 : Int32) (v0 : V) (v1 : V) (v2 : V) (v3 : V) (v4 : V) (v5 : V) (v6 : V) (v7 : V) (v8 : V) (v9 : V) (v10 : V), rec x2 x3 v0 v1 v2 v3 v4 v5 v6 v7 v8 v9 v10 → ∀ (H : Heap) (locs : List Loc) (ls : Array Slot), mw E A s.heap H locs (List.flatten [cG aG (a0 0) (a1 0) (a2 0) (a3 0) (aH 0) (aS 0) v0, cM E a0 v1, cM E a1 v2, cM E a2 v3, cM E a3 v4, cH E aH (h0 0) (h1 0) (h2 0) (h3 0) v5, cM E h0 v6, cM E h1 v7, cM E h2 v8, cM E h3 v9, cS E aS v10]) → lv_has ls 11 [(0, .ref b), (1, .ref (aG 0)), (2, .int x2), (3, .int x3)] → W p l e room_1 s m #[Value.ref b] below meth c H locs 600000 7302250 (lw_Z below #[Value.ref b] s) (F0 m 73 ls [])) (hk0 : ∀ (x2 : Int32) (x3 : Int32) (v0 : V) (v1 : V) (v2 : V) (v3 : V) (v4 : V) (v5 : V) (v6 : V) (v7 : V) (v8 : V) (v9 : V) (v10 : V), k0 x2 x3 v0 v1 v2 v3 v4 v5 v6 v7 v8 v9 v10 → ∀ (H : Heap) (locs : List Loc) (ls : Array Slot), mw E A s.heap H locs (List.flatten [cG aG (a0 0) (a1 0) (a2 0) (a3 0) (aH 0) (aS 0) v0, cM E a0 v1, cM E a1 v2, cM E a2 v3, cM E a3 v4, cH E aH (h0 0) (h1 0) (h2 0) (h3 0) v5, cM E h0 v6, cM E h1 v7, cM E h2 v8, cM E h3 v9, cS E aS v10]) → lv_has ls 11 [(0, .ref b), (1, .ref (aG 0)), (2, .int x2), (3, .int x3)] → W p l e room_1 s m #[Value.ref b] below meth c H locs 600000 7302250 (lw_Z below #[Value.ref b] s) (F0 m 295 ls [])) : ∀ (x2 : Int32) (x3 : Int32) (x5 : Int32) (x6 : Int64) (x8 : Int32) (q0 : Int32) (v0 : V) (v1 : V) (v2 : V) (v3 : V) (v4 : V) (v5 : V) (v6 : V) (v7 : V) (v8 : V) (v9 : V) (v10 : V), sj_L_law_142 xs L rec k0 x2 x3 x5 x6 x8 q0 v0 v1 v2 v3 v4 v5 v6 v7 v8 v9 v10 → ∀ (H : Heap) (locs : List Loc) (ls : Array Slot), mw E A s.heap H locs (List.flatten [cG aG (a0 0) (a1 0) (a2 0) (a3 0) (aH 0) (aS 0) v0, cM E a0 v1, cM E a1 v2, cM E a2 v3, cM E a3 v4, cH E aH (h0 0) (h1 0) (h2 0) (h3 0) v5, cM E h0 v6, cM E h1 v7, cM E h2 v8, cM E h3 v9, cS E aS v10]) → lv_has ls 11 [(0, .ref b), (1, .ref (aG 0)), (2, .int x2), (3, .int x3), (5, .int x5), (6, .long x6), (8, .int x8)] → W p l e room_1 s m #[Value.ref b] below meth c H locs 600000 7302250 (lw_Z below #[Value.ref b] s) (F0 m 142 ls [.int q0]) := by
  have hx := C0.1
  have hb := C0.2.1
  intro x2 x3 x5 x6 x8 q0 v0 v1 v2 v3 v4 v5 v6 v7 v8 v9 v10 h H locs ls hw hl
  unfold sj_L_law_142 at h
  refine lv_istore_n (lv' := [(2, .int q0), (0, .ref b), (1, .ref (aG 0)), (3, .int x3), (5, .int x5), (6, .long x6), (8, .int x8)]) hx hb dL_law_142 rfl hl (by decide) rfl (fun ls hl => ?_)
  refine lv_aload_n hx hb dL_law_143 rfl (lv_at hl 2 rfl) ?_
  refine lv_bipush (v := 11) hx hb dL_law_144 (by decide) ?_
  refine x_cV (As := [.int 11]) (rest := []) (F := (List.flatten [cM E a1 v2, cM E a2 v3, cM E a3 v4, cM E h0 v6, cM E h1 v7, cM E h2 v8, cM E h3 v9])) C0 hw (p_fl (ds := [cG aG (a0 0) (a1 0) (a2 0) (a3 0) (aH 0) (aS 0) v0, cM E a0 v1, cH E aH (h0 0) (h1 0) (h2 0) (h3 0) v5, cS E aS v10]) ((p_pk _ 0 _ rfl).trans (List.Perm.cons _ ((p_pk _ 0 _ rfl).trans (List.Perm.cons _ ((p_pk _ 3 _ rfl).trans (List.Perm.cons _ ((p_pk _ 7 _ rfl).trans (List.Perm.cons _ (List.Perm.refl _)))))))))) hl.1 0 6 rfl rfl (c_X6_count l E aG a0 a1 a2 a3 aH h0 h1 h2 h3 aS h) 1 gL_law_X6_count rfl ⟨rfl, rfl⟩ (by decide +kernel) ⟨Nat.le_of_ble_eq_true rfl, Nat.le_of_ble_eq_true rfl⟩ rfl rfl (Nat.le_of_ble_eq_true rfl) dL_law_146 ⟨Nat.le_of_ble_eq_true rfl, Nat.le_of_ble_eq_true rfl⟩ (fun r_42 u_113 H locs h hw => ?_)
  obtain ⟨v_43, v_44, v_45, v_46⟩ := u_113
  replace hw : mw E A s.heap H locs (List.flatten [cG aG (a0 0) (a1 0) (a2 0) (a3 0) (aH 0) (aS 0) v_43, cM E a0 v_44, cM E a1 v2, cM E a2 v3, cM E a3 v4, cH E aH (h0 0) (h1 0) (h2 0) (h3 0) v_45, cM E h0 v6, cM E h1 v7, cM E h2 v8, cM E h3 v9, cS E aS v_46]) := hw.perm (p_bk (ds := [cG aG (a0 0) (a1 0) (a2 0) (a3 0) (aH 0) (aS 0) v_43, cM E a0 v_44, cH E aH (h0 0) (h1 0) (h2 0) (h3 0) v_45, cS E aS v_46]) ((p_pk _ 0 _ rfl).trans (List.Perm.cons _ ((p_pk _ 0 _ rfl).trans (List.Perm.cons _ ((p_pk _ 3 _ rfl).trans (List.Perm.cons _ ((p_pk _ 7 _ rfl).trans (List.Perm.cons _ (List.Perm.refl _))))))))))
  refine lv_istore (lv' := [(9, .int r_42), (2, .int q0), (0, .ref b), (1, .ref (aG 0)), (3, .int x3), (5, .int x5), (6, .long x6), (8, .int x8)]) hx hb dL_law_149 hl (by decide) rfl (fun ls hl => ?_)
  refine lv_iload_n hx hb dL_law_151 rfl (lv_at hl 1 rfl) ?_
  refine lv_if_eq (tgt := 191) hx hb dL_law_152 (by decide) (fun c_112 => ?_) (fun c_112 => ?_)
  · replace h := h.1 c_112
    refine lv_iconst (v := 0) hx hb dL_law_191 (by decide) ?_
    exact j_L_law_192 C0 hX hbl hbA hL hAl hrec hk0 _ _ _ _ _ _ _ _ _ _ _ _ _ _ _ _ _ _ h _ _ _ hw (lv_sub hl [2, 3, 1, 4, 5, 6, 7, 0] rfl)
  · replace h := h.2 c_112
    refine lv_iload hx hb dL_law_155 (lv_at hl 0 rfl) ?_
    refine lv_iload hx hb dL_law_157 (lv_at hl 7 rfl) ?_
    refine lv_icmp_ne (tgt := 178) hx hb dL_law_159 (by decide) (fun c_111 => ?_) (fun c_111 => ?_)
    · replace h := h.1 c_111
      exact j_L_law_178 C0 hX hbl hbA hL hAl hrec hk0 _ _ _ _ _ _ _ _ _ _ _ _ _ _ _ _ _ h _ _ _ hw (lv_sub hl [2, 3, 1, 4, 5, 6, 7, 0] rfl)
    · replace h := h.2 c_111
      refine lv_iload hx hb dL_law_162 (lv_at hl 7 rfl) ?_
      refine lv_iconst (v := 4) hx hb dL_law_164 (by decide) ?_
      refine lv_icmp_eq (tgt := 187) hx hb dL_law_165 (by decide) (fun c_110 => ?_) (fun c_110 => ?_)
      · replace h := h.1 c_110
        refine lv_iconst (v := 1) hx hb dL_law_187 (by decide) ?_
        refine lv_goto (tgt := 192) hx hb dL_law_188 (by decide) ?_
        exact j_L_law_192 C0 hX hbl hbA hL hAl hrec hk0 _ _ _ _ _ _ _ _ _ _ _ _ _ _ _ _ _ _ h _ _ _ hw (lv_sub hl [2, 3, 1, 4, 5, 6, 7, 0] rfl)
      · replace h := h.2 c_110
        refine lv_aload_n hx hb dL_law_168 rfl (lv_at hl 3 rfl) ?_
        refine x_cSj (As := [.ref (aG 0)]) (rest := []) (F := []) C0 hw (p_nil _) hl.1 (c_L_digest l E aG a0 a1 a2 a3 aH h0 h1 h2 h3 aS h) 1 gL_law_L_digest rfl ⟨rfl, rfl⟩ (by decide +kernel) ⟨Nat.le_of_ble_eq_true rfl, Nat.le_of_ble_eq_true rfl⟩ rfl rfl (Nat.le_of_ble_eq_true rfl) dL_law_169 ⟨Nat.le_of_ble_eq_true rfl, Nat.le_of_ble_eq_true rfl⟩ (fun r_96 u_109 H locs h hw => ?_)
        obtain ⟨v_97, v_98, v_99, v_100, v_101, v_102, v_103, v_104, v_105, v_106, v_107⟩ := u_109
        replace hw : mw E A s.heap H locs (List.flatten [cG aG (a0 0) (a1 0) (a2 0) (a3 0) (aH 0) (aS 0) v_97, cM E a0 v_98, cM E a1 v_99, cM E a2 v_100, cM E a3 v_101, cH E aH (h0 0) (h1 0) (h2 0) (h3 0) v_102, cM E h0 v_103, cM E h1 v_104, cM E h2 v_105, cM E h3 v_106, cS E aS v_107]) := hw.perm (p_nil _).symm
        refine lv_lload hx hb dL_law_172 (lv_at hl 6 rfl) ?_
        refine W.lcmp hx hb dL_law_174 ?_
        refine lv_if_eq (tgt := 187) hx hb dL_law_175 (by decide) (fun c_108 => ?_) (fun c_108 => ?_)
        · replace h := h.1 c_108
          refine lv_iconst (v := 1) hx hb dL_law_187 (by decide) ?_
          refine lv_goto (tgt := 192) hx hb dL_law_188 (by decide) ?_
          exact j_L_law_192 C0 hX hbl hbA hL hAl hrec hk0 _ _ _ _ _ _ _ _ _ _ _ _ _ _ _ _ _ _ h _ _ _ hw (lv_sub hl [2, 3, 1, 4, 5, 6, 7, 0] rfl)
        · replace h := h.2 c_108
          exact j_L_law_178 C0 hX hbl hbA hL hAl hrec hk0 _ _ _ _ _ _ _ _ _ _ _ _ _ _ _ _ _ h _ _ _ hw (lv_sub hl [2, 3, 1, 4, 5, 6, 7, 0] rfl)
set_option maxRecDepth 100000 in
set_option maxHeartbeats 4000000 in
theorem w_L_law_73 {p : Program} {l : Launch} {e : Env} {s : State} {m : MethodId} {below : List Frame} {meth : Method} {c : Code} {E : EE} {A : Nat → Prop} {aG : Nat → Nat} {a0 : Nat → Nat} {a1 : Nat → Nat} {a2 : Nat → Nat} {a3 : Nat → Nat} {aH : Nat → Nat} {h0 : Nat → Nat} {h1 : Nat → Nat} {h2 : Nat → Nat} {h3 : Nat → Nat} {aS : Nat → Nat} {b L : Nat} {xs : Nat → Int32} (C0 : Cx E p s m #[Value.ref b] meth c A cL_law 11 RL wsL_law (some .boolean)) (hX : va_X b L xs s s.heap) (hbl : b < s.heap.size) (hbA : ¬ A b) (hL : L ≤ 260) (hAl : ∀ q, A q → s.heap.size ≤ q)   {k0 : Int32 → Int32 → V → V → V → V → V → V → V → V → V → V → V → Prop} : ∀ (n : Nat) (x2 : Int32) (x3 : Int32) (v0 : V) (v1 : V) (v2 : V) (v3 : V) (v4 : V) (v5 : V) (v6 : V) (v7 : V) (v8 : V) (v9 : V) (v10 : V), sl_L_law_73 xs L k0 n x2 x3 v0 v1 v2 v3 v4 v5 v6 v7 v8 v9 v10 → ∀ (H : Heap) (locs : List Loc) (ls : Array Slot), mw E A s.heap H locs (List.flatten [cG aG (a0 0) (a1 0) (a2 0) (a3 0) (aH 0) (aS 0) v0, cM E a0 v1, cM E a1 v2, cM E a2 v3, cM E a3 v4, cH E aH (h0 0) (h1 0) (h2 0) (h3 0) v5, cM E h0 v6, cM E h1 v7, cM E h2 v8, cM E h3 v9, cS E aS v10]) → lv_has ls 11 [(0, .ref b), (1, .ref (aG 0)), (2, .int x2), (3, .int x3)] → (∀ (x2 : Int32) (x3 : Int32) (v0 : V) (v1 : V) (v2 : V) (v3 : V) (v4 : V) (v5 : V) (v6 : V) (v7 : V) (v8 : V) (v9 : V) (v10 : V), k0 x2 x3 v0 v1 v2 v3 v4 v5 v6 v7 v8 v9 v10 → ∀ (H : Heap) (locs : List Loc) (ls : Array Slot), mw E A s.heap H locs (List.flatten [cG aG (a0 0) (a1 0) (a2 0) (a3 0) (aH 0) (aS 0) v0, cM E a0 v1, cM E a1 v2, cM E a2 v3, cM E a3 v4, cH E aH (h0 0) (h1 0) (h2 0) (h3 0) v5, cM E h0 v6, cM E h1 v7, cM E h2 v8, cM E h3 v9, cS E aS v10]) → lv_has ls 11 [(0, .ref b), (1, .ref (aG 0)), (2, .int x2), (3, .int x3)] → W p l e room_1 s m #[Value.ref b] below meth c H locs 600000 7302250 (lw_Z below #[Value.ref b] s) (F0 m 295 ls [])) → W p l e room_1 s m #[Value.ref b] below meth c H locs 600000 7302250 (lw_Z below #[Value.ref b] s) (F0 m 73 ls []) := by
  have hx := C0.1
  have hb := C0.2.1
  intro n
  induction n with
  | zero => intro x2 x3 v0 v1 v2 v3 v4 v5 v6 v7 v8 v9 v10 h; exact False.elim h
  | succ n ih =>
    intro x2 x3 v0 v1 v2 v3 v4 v5 v6 v7 v8 v9 v10 h H locs ls hw hl hk0
    have hrec : ∀ (x2 : Int32) (x3 : Int32) (v0 : V) (v1 : V) (v2 : V) (v3 : V) (v4 : V) (v5 : V) (v6 : V) (v7 : V) (v8 : V) (v9 : V) (v10 : V), (sl_L_law_73 xs L k0 n) x2 x3 v0 v1 v2 v3 v4 v5 v6 v7 v8 v9 v10 → ∀ (H : Heap) (locs : List Loc) (ls : Array Slot), mw E A s.heap H locs (List.flatten [cG aG (a0 0) (a1 0) (a2 0) (a3 0) (aH 0) (aS 0) v0, cM E a0 v1, cM E a1 v2, cM E a2 v3, cM E a3 v4, cH E aH (h0 0) (h1 0) (h2 0) (h3 0) v5, cM E h0 v6, cM E h1 v7, cM E h2 v8, cM E h3 v9, cS E aS v10]) → lv_has ls 11 [(0, .ref b), (1, .ref (aG 0)), (2, .int x2), (3, .int x3)] → W p l e room_1 s m #[Value.ref b] below meth c H locs 600000 7302250 (lw_Z below #[Value.ref b] s) (F0 m 73 ls []) := fun x2 x3 v0 v1 v2 v3 v4 v5 v6 v7 v8 v9 v10 h H locs ls hw hl => ih x2 x3 v0 v1 v2 v3 v4 v5 v6 v7 v8 v9 v10 h H locs ls hw hl hk0
    replace h : sb_L_law_73 xs L k0 (sl_L_law_73 xs L k0 n) x2 x3 v0 v1 v2 v3 v4 v5 v6 v7 v8 v9 v10 := h
    unfold sb_L_law_73 at h
    refine lv_iload_n hx hb dL_law_73 rfl (lv_at hl 3 rfl) ?_
    refine lv_bipush (v := 32) hx hb dL_law_74 (by decide) ?_
    refine lv_icmp_ge (tgt := 295) hx hb dL_law_76 (by decide) (fun c_133 => ?_) (fun c_133 => ?_)
    · replace h := h.1 c_133
      exact hk0 _ _ _ _ _ _ _ _ _ _ _ _ _ h _ _ _ hw (lv_sub hl [0, 1, 2, 3] rfl)
    · replace h := h.2 c_133
      refine lv_iload_n hx hb dL_law_79 rfl (lv_at hl 2 rfl) ?_
      refine lv_if_eq (tgt := 295) hx hb dL_law_80 (by decide) (fun c_132 => ?_) (fun c_132 => ?_)
      · replace h := h.1 c_132
        exact hk0 _ _ _ _ _ _ _ _ _ _ _ _ _ h _ _ _ hw (lv_sub hl [0, 1, 2, 3] rfl)
      · replace h := h.2 c_132
        refine lv_aload_n hx hb dL_law_83 rfl (lv_at hl 0 rfl) ?_
        refine lv_iconst (v := 2) hx hb dL_law_84 (by decide) ?_
        refine lv_iload_n hx hb dL_law_85 rfl (lv_at hl 3 rfl) ?_
        refine lv_imul hx hb dL_law_86 ?_
        obtain ⟨hk0_, h⟩ := h
        refine x_lot (rest := []) C0 hw hX hbl hbA hk0_ hL hl.1 gL_law_L_lot ⟨Nat.le_of_ble_eq_true rfl, Nat.le_of_ble_eq_true rfl⟩ (Nat.le_of_ble_eq_true rfl) dL_law_87 ⟨Nat.le_of_ble_eq_true rfl, Nat.le_of_ble_eq_true rfl⟩ (fun H locs hw => ?_)
        refine lv_istore (lv' := [(4, .int (lotV xs L (2 * x3))), (0, .ref b), (1, .ref (aG 0)), (2, .int x2), (3, .int x3)]) hx hb dL_law_90 hl (by decide) rfl (fun ls hl => ?_)
        refine lv_aload_n hx hb dL_law_92 rfl (lv_at hl 1 rfl) ?_
        refine lv_iconst (v := 2) hx hb dL_law_93 (by decide) ?_
        refine lv_iload_n hx hb dL_law_94 rfl (lv_at hl 4 rfl) ?_
        refine lv_imul hx hb dL_law_95 ?_
        refine lv_iconst (v := 1) hx hb dL_law_96 (by decide) ?_
        refine lv_iadd hx hb dL_law_97 ?_
        obtain ⟨hk0_, h⟩ := h
        refine x_lot (rest := []) C0 hw hX hbl hbA hk0_ hL hl.1 gL_law_L_lot ⟨Nat.le_of_ble_eq_true rfl, Nat.le_of_ble_eq_true rfl⟩ (Nat.le_of_ble_eq_true rfl) dL_law_98 ⟨Nat.le_of_ble_eq_true rfl, Nat.le_of_ble_eq_true rfl⟩ (fun H locs hw => ?_)
        refine lv_istore (lv' := [(5, .int (lotV xs L ((2 * x3) + 1))), (4, .int (lotV xs L (2 * x3))), (0, .ref b), (1, .ref (aG 0)), (2, .int x2), (3, .int x3)]) hx hb dL_law_101 hl (by decide) rfl (fun ls hl => ?_)
        refine lv_aload_n hx hb dL_law_103 rfl (lv_at hl 3 rfl) ?_
        refine x_cSj (As := [.ref (aG 0)]) (rest := []) (F := []) C0 hw (p_nil _) hl.1 (c_L_digest l E aG a0 a1 a2 a3 aH h0 h1 h2 h3 aS h) 1 gL_law_L_digest rfl ⟨rfl, rfl⟩ (by decide +kernel) ⟨Nat.le_of_ble_eq_true rfl, Nat.le_of_ble_eq_true rfl⟩ rfl rfl (Nat.le_of_ble_eq_true rfl) dL_law_104 ⟨Nat.le_of_ble_eq_true rfl, Nat.le_of_ble_eq_true rfl⟩ (fun r_13 u_131 H locs h hw => ?_)
        obtain ⟨v_14, v_15, v_16, v_17, v_18, v_19, v_20, v_21, v_22, v_23, v_24⟩ := u_131
        replace hw : mw E A s.heap H locs (List.flatten [cG aG (a0 0) (a1 0) (a2 0) (a3 0) (aH 0) (aS 0) v_14, cM E a0 v_15, cM E a1 v_16, cM E a2 v_17, cM E a3 v_18, cH E aH (h0 0) (h1 0) (h2 0) (h3 0) v_19, cM E h0 v_20, cM E h1 v_21, cM E h2 v_22, cM E h3 v_23, cS E aS v_24]) := hw.perm (p_nil _).symm
        refine lv_lstore (lv' := [(6, .long r_13), (5, .int (lotV xs L ((2 * x3) + 1))), (4, .int (lotV xs L (2 * x3))), (0, .ref b), (1, .ref (aG 0)), (2, .int x2), (3, .int x3)]) hx hb dL_law_107 hl (by decide) rfl (fun ls hl => ?_)
        refine lv_aload_n hx hb dL_law_109 rfl (lv_at hl 4 rfl) ?_
        refine lv_bipush (v := 11) hx hb dL_law_110 (by decide) ?_
        refine x_cV (As := [.int 11]) (rest := []) (F := (List.flatten [cM E a1 v_16, cM E a2 v_17, cM E a3 v_18, cM E h0 v_20, cM E h1 v_21, cM E h2 v_22, cM E h3 v_23])) C0 hw (p_fl (ds := [cG aG (a0 0) (a1 0) (a2 0) (a3 0) (aH 0) (aS 0) v_14, cM E a0 v_15, cH E aH (h0 0) (h1 0) (h2 0) (h3 0) v_19, cS E aS v_24]) ((p_pk _ 0 _ rfl).trans (List.Perm.cons _ ((p_pk _ 0 _ rfl).trans (List.Perm.cons _ ((p_pk _ 3 _ rfl).trans (List.Perm.cons _ ((p_pk _ 7 _ rfl).trans (List.Perm.cons _ (List.Perm.refl _)))))))))) hl.1 0 6 rfl rfl (c_X6_count l E aG a0 a1 a2 a3 aH h0 h1 h2 h3 aS h) 1 gL_law_X6_count rfl ⟨rfl, rfl⟩ (by decide +kernel) ⟨Nat.le_of_ble_eq_true rfl, Nat.le_of_ble_eq_true rfl⟩ rfl rfl (Nat.le_of_ble_eq_true rfl) dL_law_112 ⟨Nat.le_of_ble_eq_true rfl, Nat.le_of_ble_eq_true rfl⟩ (fun r_25 u_130 H locs h hw => ?_)
        obtain ⟨v_26, v_27, v_28, v_29⟩ := u_130
        replace hw : mw E A s.heap H locs (List.flatten [cG aG (a0 0) (a1 0) (a2 0) (a3 0) (aH 0) (aS 0) v_26, cM E a0 v_27, cM E a1 v_16, cM E a2 v_17, cM E a3 v_18, cH E aH (h0 0) (h1 0) (h2 0) (h3 0) v_28, cM E h0 v_20, cM E h1 v_21, cM E h2 v_22, cM E h3 v_23, cS E aS v_29]) := hw.perm (p_bk (ds := [cG aG (a0 0) (a1 0) (a2 0) (a3 0) (aH 0) (aS 0) v_26, cM E a0 v_27, cH E aH (h0 0) (h1 0) (h2 0) (h3 0) v_28, cS E aS v_29]) ((p_pk _ 0 _ rfl).trans (List.Perm.cons _ ((p_pk _ 0 _ rfl).trans (List.Perm.cons _ ((p_pk _ 3 _ rfl).trans (List.Perm.cons _ ((p_pk _ 7 _ rfl).trans (List.Perm.cons _ (List.Perm.refl _))))))))))
        refine lv_istore (lv' := [(8, .int r_25), (6, .long r_13), (5, .int (lotV xs L ((2 * x3) + 1))), (4, .int (lotV xs L (2 * x3))), (0, .ref b), (1, .ref (aG 0)), (2, .int x2), (3, .int x3)]) hx hb dL_law_115 hl (by decide) rfl (fun ls hl => ?_)
        refine lv_aload_n hx hb dL_law_117 rfl (lv_at hl 5 rfl) ?_
        refine lv_iload hx hb dL_law_118 (lv_at hl 3 rfl) ?_
        refine lv_iload hx hb dL_law_120 (lv_at hl 2 rfl) ?_
        refine x_cS (As := [.ref (aG 0), .int (lotV xs L (2 * x3)), .int (lotV xs L ((2 * x3) + 1))]) (rest := []) (F := []) C0 hw (p_nil _) hl.1 (c_L_acts l E aG a0 a1 a2 a3 aH h0 h1 h2 h3 aS h) 3 gL_law_L_acts rfl ⟨rfl, rfl⟩ (by decide +kernel) ⟨Nat.le_of_ble_eq_true rfl, Nat.le_of_ble_eq_true rfl⟩ rfl rfl (Nat.le_of_ble_eq_true rfl) dL_law_122 ⟨Nat.le_of_ble_eq_true rfl, Nat.le_of_ble_eq_true rfl⟩ (fun r_30 u_129 H locs h hw => ?_)
        obtain ⟨v_31, v_32, v_33, v_34, v_35, v_36, v_37, v_38, v_39, v_40, v_41⟩ := u_129
        replace hw : mw E A s.heap H locs (List.flatten [cG aG (a0 0) (a1 0) (a2 0) (a3 0) (aH 0) (aS 0) v_31, cM E a0 v_32, cM E a1 v_33, cM E a2 v_34, cM E a3 v_35, cH E aH (h0 0) (h1 0) (h2 0) (h3 0) v_36, cM E h0 v_37, cM E h1 v_38, cM E h2 v_39, cM E h3 v_40, cS E aS v_41]) := hw.perm (p_nil _).symm
        refine lv_if_eq (tgt := 141) hx hb dL_law_125 (by decide) (fun c_128 => ?_) (fun c_128 => ?_)
        · replace h := h.1 c_128
          refine lv_iconst (v := 0) hx hb dL_law_141 (by decide) ?_
          exact j_L_law_142 C0 hX hbl hbA hL hAl hrec hk0 _ _ _ _ _ _ _ _ _ _ _ _ _ _ _ _ _ h _ _ _ hw (lv_sub hl [4, 5, 6, 7, 2, 1, 0] rfl)
        · replace h := h.2 c_128
          refine lv_aload_n hx hb dL_law_128 rfl (lv_at hl 5 rfl) ?_
          refine lv_iload hx hb dL_law_129 (lv_at hl 2 rfl) ?_
          refine x_cS (As := [.ref (aG 0), .int (lotV xs L ((2 * x3) + 1))]) (rest := []) (F := []) C0 hw (p_nil _) hl.1 (c_L_holds l E aG a0 a1 a2 a3 aH h0 h1 h2 h3 aS h) 2 gL_law_L_holds rfl ⟨rfl, rfl⟩ (by decide +kernel) ⟨Nat.le_of_ble_eq_true rfl, Nat.le_of_ble_eq_true rfl⟩ rfl rfl (Nat.le_of_ble_eq_true rfl) dL_law_131 ⟨Nat.le_of_ble_eq_true rfl, Nat.le_of_ble_eq_true rfl⟩ (fun r_114 u_127 H locs h hw => ?_)
          obtain ⟨v_115, v_116, v_117, v_118, v_119, v_120, v_121, v_122, v_123, v_124, v_125⟩ := u_127
          replace hw : mw E A s.heap H locs (List.flatten [cG aG (a0 0) (a1 0) (a2 0) (a3 0) (aH 0) (aS 0) v_115, cM E a0 v_116, cM E a1 v_117, cM E a2 v_118, cM E a3 v_119, cH E aH (h0 0) (h1 0) (h2 0) (h3 0) v_120, cM E h0 v_121, cM E h1 v_122, cM E h2 v_123, cM E h3 v_124, cS E aS v_125]) := hw.perm (p_nil _).symm
          refine lv_if_eq (tgt := 141) hx hb dL_law_134 (by decide) (fun c_126 => ?_) (fun c_126 => ?_)
          · replace h := h.1 c_126
            refine lv_iconst (v := 0) hx hb dL_law_141 (by decide) ?_
            exact j_L_law_142 C0 hX hbl hbA hL hAl hrec hk0 _ _ _ _ _ _ _ _ _ _ _ _ _ _ _ _ _ h _ _ _ hw (lv_sub hl [4, 5, 6, 7, 2, 1, 0] rfl)
          · replace h := h.2 c_126
            refine lv_iconst (v := 1) hx hb dL_law_137 (by decide) ?_
            refine lv_goto (tgt := 142) hx hb dL_law_138 (by decide) ?_
            exact j_L_law_142 C0 hX hbl hbA hL hAl hrec hk0 _ _ _ _ _ _ _ _ _ _ _ _ _ _ _ _ _ h _ _ _ hw (lv_sub hl [4, 5, 6, 7, 2, 1, 0] rfl)
set_option maxRecDepth 100000 in
set_option maxHeartbeats 4000000 in
theorem j_L_law_70 {p : Program} {l : Launch} {e : Env} {s : State} {m : MethodId} {below : List Frame} {meth : Method} {c : Code} {E : EE} {A : Nat → Prop} {aG : Nat → Nat} {a0 : Nat → Nat} {a1 : Nat → Nat} {a2 : Nat → Nat} {a3 : Nat → Nat} {aH : Nat → Nat} {h0 : Nat → Nat} {h1 : Nat → Nat} {h2 : Nat → Nat} {h3 : Nat → Nat} {aS : Nat → Nat} {b L : Nat} {xs : Nat → Int32} (C0 : Cx E p s m #[Value.ref b] meth c A cL_law 11 RL wsL_law (some .boolean)) (hX : va_X b L xs s s.heap) (hbl : b < s.heap.size) (hbA : ¬ A b) (hL : L ≤ 260) (hAl : ∀ q, A q → s.heap.size ≤ q)   : ∀ (q0 : Int32) (v0 : V) (v1 : V) (v2 : V) (v3 : V) (v4 : V) (v5 : V) (v6 : V) (v7 : V) (v8 : V) (v9 : V) (v10 : V), sj_L_law_70 xs L  q0 v0 v1 v2 v3 v4 v5 v6 v7 v8 v9 v10 → ∀ (H : Heap) (locs : List Loc) (ls : Array Slot), mw E A s.heap H locs (List.flatten [cG aG (a0 0) (a1 0) (a2 0) (a3 0) (aH 0) (aS 0) v0, cM E a0 v1, cM E a1 v2, cM E a2 v3, cM E a3 v4, cH E aH (h0 0) (h1 0) (h2 0) (h3 0) v5, cM E h0 v6, cM E h1 v7, cM E h2 v8, cM E h3 v9, cS E aS v10]) → lv_has ls 11 [(0, .ref b), (1, .ref (aG 0))] → W p l e room_1 s m #[Value.ref b] below meth c H locs 600000 7302250 (lw_Z below #[Value.ref b] s) (F0 m 70 ls [.int q0]) := by
  have hx := C0.1
  have hb := C0.2.1
  intro q0 v0 v1 v2 v3 v4 v5 v6 v7 v8 v9 v10 h H locs ls hw hl
  unfold sj_L_law_70 at h
  refine lv_istore_n (lv' := [(2, .int q0), (0, .ref b), (1, .ref (aG 0))]) hx hb dL_law_70 rfl hl (by decide) rfl (fun ls hl => ?_)
  refine lv_iconst (v := 0) hx hb dL_law_71 (by decide) ?_
  refine lv_istore_n (lv' := [(3, .int 0), (2, .int q0), (0, .ref b), (1, .ref (aG 0))]) hx hb dL_law_72 rfl hl (by decide) rfl (fun ls hl => ?_)
  obtain ⟨n_134, h⟩ := h
  refine w_L_law_73 C0 hX hbl hbA hL hAl _ _ _ _ _ _ _ _ _ _ _ _ _ _ h _ _ _ hw (lv_sub hl [2, 3, 1, 0] rfl) ?_
  · intro x2_135 x3_136 v_137 v_138 v_139 v_140 v_141 v_142 v_143 v_144 v_145 v_146 v_147 h H locs ls hw hl
    refine lv_iload_n hx hb dL_law_295 rfl (lv_at hl 2 rfl) ?_
    rw [h]
    refine va_forget (fun q hq => hAl _ (hw.2.2.2.2 q hq)) ?_
    exact lw_ret hx hb C0.2.2.2.2.2.2.1 C0.2.2.2.2.2.2.2.1 dL_law_296
set_option maxRecDepth 100000 in
set_option maxHeartbeats 4000000 in
theorem w_L_law {p : Program} {l : Launch} {e : Env} {s : State} {m : MethodId} {below : List Frame} {meth : Method} {c : Code} {E : EE} {A : Nat → Prop} {aG : Nat → Nat} {a0 : Nat → Nat} {a1 : Nat → Nat} {a2 : Nat → Nat} {a3 : Nat → Nat} {aH : Nat → Nat} {h0 : Nat → Nat} {h1 : Nat → Nat} {h2 : Nat → Nat} {h3 : Nat → Nat} {aS : Nat → Nat} {b L : Nat} {xs : Nat → Int32} (C0 : Cx E p s m #[Value.ref b] meth c A cL_law 11 RL wsL_law (some .boolean)) (hX : va_X b L xs s s.heap) (hbl : b < s.heap.size) (hbA : ¬ A b) (hL : L ≤ 260) (hAl : ∀ q, A q → s.heap.size ≤ q)  : ∀ (v0 : V) (v1 : V) (v2 : V) (v3 : V) (v4 : V) (v5 : V) (v6 : V) (v7 : V) (v8 : V) (v9 : V) (v10 : V), s_L_law xs L v0 v1 v2 v3 v4 v5 v6 v7 v8 v9 v10 → ∀ (H : Heap) (locs : List Loc) (ls : Array Slot), mw E A s.heap H locs (List.flatten [cG aG (a0 0) (a1 0) (a2 0) (a3 0) (aH 0) (aS 0) v0, cM E a0 v1, cM E a1 v2, cM E a2 v3, cM E a3 v4, cH E aH (h0 0) (h1 0) (h2 0) (h3 0) v5, cM E h0 v6, cM E h1 v7, cM E h2 v8, cM E h3 v9, cS E aS v10]) → lv_has ls 11 [(0, .ref b), (1, .ref (aG 0))] → W p l e room_1 s m #[Value.ref b] below meth c H locs 600000 7302250 (lw_Z below #[Value.ref b] s) (F0 m 8 ls []) := by
  have hx := C0.1
  have hb := C0.2.1
  intro v0 v1 v2 v3 v4 v5 v6 v7 v8 v9 v10 h H locs ls hw hl
  unfold s_L_law at h
  refine lv_aload_n hx hb dL_law_8 rfl (lv_at hl 1 rfl) ?_
  refine lv_iconst (v := 0) hx hb dL_law_9 (by decide) ?_
  refine x_cS (As := [.ref (aG 0), .int 0]) (rest := []) (F := []) C0 hw (p_nil _) hl.1 (c_L_holds l E aG a0 a1 a2 a3 aH h0 h1 h2 h3 aS h) 2 gL_law_L_holds rfl ⟨rfl, rfl⟩ (by decide +kernel) ⟨Nat.le_of_ble_eq_true rfl, Nat.le_of_ble_eq_true rfl⟩ rfl rfl (Nat.le_of_ble_eq_true rfl) dL_law_10 ⟨Nat.le_of_ble_eq_true rfl, Nat.le_of_ble_eq_true rfl⟩ (fun r_1 u_203 H locs h hw => ?_)
  obtain ⟨v_2, v_3, v_4, v_5, v_6, v_7, v_8, v_9, v_10, v_11, v_12⟩ := u_203
  replace hw : mw E A s.heap H locs (List.flatten [cG aG (a0 0) (a1 0) (a2 0) (a3 0) (aH 0) (aS 0) v_2, cM E a0 v_3, cM E a1 v_4, cM E a2 v_5, cM E a3 v_6, cH E aH (h0 0) (h1 0) (h2 0) (h3 0) v_7, cM E h0 v_8, cM E h1 v_9, cM E h2 v_10, cM E h3 v_11, cS E aS v_12]) := hw.perm (p_nil _).symm
  refine lv_if_eq (tgt := 69) hx hb dL_law_13 (by decide) (fun c_202 => ?_) (fun c_202 => ?_)
  · replace h := h.1 c_202
    refine lv_iconst (v := 0) hx hb dL_law_69 (by decide) ?_
    exact j_L_law_70 C0 hX hbl hbA hL hAl _ _ _ _ _ _ _ _ _ _ _ _ h _ _ _ hw (lv_sub hl [0, 1] rfl)
  · replace h := h.2 c_202
    refine lv_aload_n hx hb dL_law_16 rfl (lv_at hl 1 rfl) ?_
    refine x_cV (As := []) (rest := []) (F := (List.flatten [cM E a1 v_4, cM E a2 v_5, cM E a3 v_6, cS E aS v_12])) C0 hw (p_fl (ds := [cG aG (a0 0) (a1 0) (a2 0) (a3 0) (aH 0) (aS 0) v_2, cM E a0 v_3, cH E aH (h0 0) (h1 0) (h2 0) (h3 0) v_7, cM E h0 v_8, cM E h1 v_9, cM E h2 v_10, cM E h3 v_11]) ((p_pk _ 0 _ rfl).trans (List.Perm.cons _ ((p_pk _ 0 _ rfl).trans (List.Perm.cons _ ((p_pk _ 3 _ rfl).trans (List.Perm.cons _ ((p_pk _ 3 _ rfl).trans (List.Perm.cons _ ((p_pk _ 3 _ rfl).trans (List.Perm.cons _ ((p_pk _ 3 _ rfl).trans (List.Perm.cons _ ((p_pk _ 3 _ rfl).trans (List.Perm.cons _ (List.Perm.refl _)))))))))))))))) hl.1 0 6 rfl rfl (c_X6_undo l E aG a0 a1 a2 a3 aH h0 h1 h2 h3 aS h) 0 gL_law_X6_undo rfl ⟨rfl, rfl⟩ (by decide +kernel) ⟨Nat.le_of_ble_eq_true rfl, Nat.le_of_ble_eq_true rfl⟩ rfl rfl (Nat.le_of_ble_eq_true rfl) dL_law_17 ⟨Nat.le_of_ble_eq_true rfl, Nat.le_of_ble_eq_true rfl⟩ (fun r_148 u_201 H locs h hw => ?_)
    obtain ⟨v_149, v_150, v_151, v_152, v_153, v_154, v_155⟩ := u_201
    replace hw : mw E A s.heap H locs (List.flatten [cG aG (a0 0) (a1 0) (a2 0) (a3 0) (aH 0) (aS 0) v_149, cM E a0 v_150, cM E a1 v_4, cM E a2 v_5, cM E a3 v_6, cH E aH (h0 0) (h1 0) (h2 0) (h3 0) v_151, cM E h0 v_152, cM E h1 v_153, cM E h2 v_154, cM E h3 v_155, cS E aS v_12]) := hw.perm (p_bk (ds := [cG aG (a0 0) (a1 0) (a2 0) (a3 0) (aH 0) (aS 0) v_149, cM E a0 v_150, cH E aH (h0 0) (h1 0) (h2 0) (h3 0) v_151, cM E h0 v_152, cM E h1 v_153, cM E h2 v_154, cM E h3 v_155]) ((p_pk _ 0 _ rfl).trans (List.Perm.cons _ ((p_pk _ 0 _ rfl).trans (List.Perm.cons _ ((p_pk _ 3 _ rfl).trans (List.Perm.cons _ ((p_pk _ 3 _ rfl).trans (List.Perm.cons _ ((p_pk _ 3 _ rfl).trans (List.Perm.cons _ ((p_pk _ 3 _ rfl).trans (List.Perm.cons _ ((p_pk _ 3 _ rfl).trans (List.Perm.cons _ (List.Perm.refl _))))))))))))))))
    refine x_ldc (v := (-10000002)) C0 3 rfl dL_law_20 ?_
    refine lv_icmp_ne (tgt := 69) hx hb dL_law_22 (by decide) (fun c_200 => ?_) (fun c_200 => ?_)
    · replace h := h.1 c_200
      refine lv_iconst (v := 0) hx hb dL_law_69 (by decide) ?_
      exact j_L_law_70 C0 hX hbl hbA hL hAl _ _ _ _ _ _ _ _ _ _ _ _ h _ _ _ hw (lv_sub hl [0, 1] rfl)
    · replace h := h.2 c_200
      refine lv_aload_n hx hb dL_law_25 rfl (lv_at hl 1 rfl) ?_
      refine x_cV (As := []) (rest := []) (F := (List.flatten [cM E a2 v_5, cM E a3 v_6, cS E aS v_12])) C0 hw (p_fl (ds := [cG aG (a0 0) (a1 0) (a2 0) (a3 0) (aH 0) (aS 0) v_149, cM E a0 v_150, cM E a1 v_4, cH E aH (h0 0) (h1 0) (h2 0) (h3 0) v_151, cM E h0 v_152, cM E h1 v_153, cM E h2 v_154, cM E h3 v_155]) ((p_pk _ 0 _ rfl).trans (List.Perm.cons _ ((p_pk _ 0 _ rfl).trans (List.Perm.cons _ ((p_pk _ 0 _ rfl).trans (List.Perm.cons _ ((p_pk _ 2 _ rfl).trans (List.Perm.cons _ ((p_pk _ 2 _ rfl).trans (List.Perm.cons _ ((p_pk _ 2 _ rfl).trans (List.Perm.cons _ ((p_pk _ 2 _ rfl).trans (List.Perm.cons _ ((p_pk _ 2 _ rfl).trans (List.Perm.cons _ (List.Perm.refl _)))))))))))))))))) hl.1 0 6 rfl rfl (c_X6_dealer l E aG a0 a1 a2 a3 aH h0 h1 h2 h3 aS h) 0 gL_law_X6_dealer rfl ⟨rfl, rfl⟩ (by decide +kernel) ⟨Nat.le_of_ble_eq_true rfl, Nat.le_of_ble_eq_true rfl⟩ rfl rfl (Nat.le_of_ble_eq_true rfl) dL_law_26 ⟨Nat.le_of_ble_eq_true rfl, Nat.le_of_ble_eq_true rfl⟩ (fun r_156 u_199 H locs h hw => ?_)
      obtain ⟨v_157, v_158, v_159, v_160, v_161, v_162, v_163, v_164⟩ := u_199
      replace hw : mw E A s.heap H locs (List.flatten [cG aG (a0 0) (a1 0) (a2 0) (a3 0) (aH 0) (aS 0) v_157, cM E a0 v_158, cM E a1 v_159, cM E a2 v_5, cM E a3 v_6, cH E aH (h0 0) (h1 0) (h2 0) (h3 0) v_160, cM E h0 v_161, cM E h1 v_162, cM E h2 v_163, cM E h3 v_164, cS E aS v_12]) := hw.perm (p_bk (ds := [cG aG (a0 0) (a1 0) (a2 0) (a3 0) (aH 0) (aS 0) v_157, cM E a0 v_158, cM E a1 v_159, cH E aH (h0 0) (h1 0) (h2 0) (h3 0) v_160, cM E h0 v_161, cM E h1 v_162, cM E h2 v_163, cM E h3 v_164]) ((p_pk _ 0 _ rfl).trans (List.Perm.cons _ ((p_pk _ 0 _ rfl).trans (List.Perm.cons _ ((p_pk _ 0 _ rfl).trans (List.Perm.cons _ ((p_pk _ 2 _ rfl).trans (List.Perm.cons _ ((p_pk _ 2 _ rfl).trans (List.Perm.cons _ ((p_pk _ 2 _ rfl).trans (List.Perm.cons _ ((p_pk _ 2 _ rfl).trans (List.Perm.cons _ ((p_pk _ 2 _ rfl).trans (List.Perm.cons _ (List.Perm.refl _))))))))))))))))))
      refine lv_if_ne (tgt := 69) hx hb dL_law_29 (by decide) (fun c_198 => ?_) (fun c_198 => ?_)
      · replace h := h.1 c_198
        refine lv_iconst (v := 0) hx hb dL_law_69 (by decide) ?_
        exact j_L_law_70 C0 hX hbl hbA hL hAl _ _ _ _ _ _ _ _ _ _ _ _ h _ _ _ hw (lv_sub hl [0, 1] rfl)
      · replace h := h.2 c_198
        refine lv_aload_n hx hb dL_law_32 rfl (lv_at hl 1 rfl) ?_
        refine x_cV (As := []) (rest := []) (F := (List.flatten [cM E a2 v_5, cM E a3 v_6, cS E aS v_12])) C0 hw (p_fl (ds := [cG aG (a0 0) (a1 0) (a2 0) (a3 0) (aH 0) (aS 0) v_157, cM E a0 v_158, cM E a1 v_159, cH E aH (h0 0) (h1 0) (h2 0) (h3 0) v_160, cM E h0 v_161, cM E h1 v_162, cM E h2 v_163, cM E h3 v_164]) ((p_pk _ 0 _ rfl).trans (List.Perm.cons _ ((p_pk _ 0 _ rfl).trans (List.Perm.cons _ ((p_pk _ 0 _ rfl).trans (List.Perm.cons _ ((p_pk _ 2 _ rfl).trans (List.Perm.cons _ ((p_pk _ 2 _ rfl).trans (List.Perm.cons _ ((p_pk _ 2 _ rfl).trans (List.Perm.cons _ ((p_pk _ 2 _ rfl).trans (List.Perm.cons _ ((p_pk _ 2 _ rfl).trans (List.Perm.cons _ (List.Perm.refl _)))))))))))))))))) hl.1 0 6 rfl rfl (c_X6_dealer l E aG a0 a1 a2 a3 aH h0 h1 h2 h3 aS h) 0 gL_law_X6_dealer rfl ⟨rfl, rfl⟩ (by decide +kernel) ⟨Nat.le_of_ble_eq_true rfl, Nat.le_of_ble_eq_true rfl⟩ rfl rfl (Nat.le_of_ble_eq_true rfl) dL_law_33 ⟨Nat.le_of_ble_eq_true rfl, Nat.le_of_ble_eq_true rfl⟩ (fun r_165 u_197 H locs h hw => ?_)
        obtain ⟨v_166, v_167, v_168, v_169, v_170, v_171, v_172, v_173⟩ := u_197
        replace hw : mw E A s.heap H locs (List.flatten [cG aG (a0 0) (a1 0) (a2 0) (a3 0) (aH 0) (aS 0) v_166, cM E a0 v_167, cM E a1 v_168, cM E a2 v_5, cM E a3 v_6, cH E aH (h0 0) (h1 0) (h2 0) (h3 0) v_169, cM E h0 v_170, cM E h1 v_171, cM E h2 v_172, cM E h3 v_173, cS E aS v_12]) := hw.perm (p_bk (ds := [cG aG (a0 0) (a1 0) (a2 0) (a3 0) (aH 0) (aS 0) v_166, cM E a0 v_167, cM E a1 v_168, cH E aH (h0 0) (h1 0) (h2 0) (h3 0) v_169, cM E h0 v_170, cM E h1 v_171, cM E h2 v_172, cM E h3 v_173]) ((p_pk _ 0 _ rfl).trans (List.Perm.cons _ ((p_pk _ 0 _ rfl).trans (List.Perm.cons _ ((p_pk _ 0 _ rfl).trans (List.Perm.cons _ ((p_pk _ 2 _ rfl).trans (List.Perm.cons _ ((p_pk _ 2 _ rfl).trans (List.Perm.cons _ ((p_pk _ 2 _ rfl).trans (List.Perm.cons _ ((p_pk _ 2 _ rfl).trans (List.Perm.cons _ ((p_pk _ 2 _ rfl).trans (List.Perm.cons _ (List.Perm.refl _))))))))))))))))))
        refine lv_iconst (v := 1) hx hb dL_law_36 (by decide) ?_
        refine lv_icmp_ne (tgt := 69) hx hb dL_law_37 (by decide) (fun c_196 => ?_) (fun c_196 => ?_)
        · replace h := h.1 c_196
          refine lv_iconst (v := 0) hx hb dL_law_69 (by decide) ?_
          exact j_L_law_70 C0 hX hbl hbA hL hAl _ _ _ _ _ _ _ _ _ _ _ _ h _ _ _ hw (lv_sub hl [0, 1] rfl)
        · replace h := h.2 c_196
          refine lv_aload_n hx hb dL_law_40 rfl (lv_at hl 1 rfl) ?_
          refine lv_iconst (v := 0) hx hb dL_law_41 (by decide) ?_
          refine lv_bipush (v := 60) hx hb dL_law_42 (by decide) ?_
          refine lv_iconst (v := 4) hx hb dL_law_44 (by decide) ?_
          refine lv_iconst (v := 4) hx hb dL_law_45 (by decide) ?_
          refine x_cV (As := [.int 0, .int 60, .int 4, .int 4]) (rest := []) (F := (List.flatten [cM E a2 v_5, cM E a3 v_6, cS E aS v_12])) C0 hw (p_fl (ds := [cG aG (a0 0) (a1 0) (a2 0) (a3 0) (aH 0) (aS 0) v_166, cM E a0 v_167, cM E a1 v_168, cH E aH (h0 0) (h1 0) (h2 0) (h3 0) v_169, cM E h0 v_170, cM E h1 v_171, cM E h2 v_172, cM E h3 v_173]) ((p_pk _ 0 _ rfl).trans (List.Perm.cons _ ((p_pk _ 0 _ rfl).trans (List.Perm.cons _ ((p_pk _ 0 _ rfl).trans (List.Perm.cons _ ((p_pk _ 2 _ rfl).trans (List.Perm.cons _ ((p_pk _ 2 _ rfl).trans (List.Perm.cons _ ((p_pk _ 2 _ rfl).trans (List.Perm.cons _ ((p_pk _ 2 _ rfl).trans (List.Perm.cons _ ((p_pk _ 2 _ rfl).trans (List.Perm.cons _ (List.Perm.refl _)))))))))))))))))) hl.1 0 6 rfl rfl (c_X6_stone l E aG a0 a1 a2 a3 aH h0 h1 h2 h3 aS h) 4 gL_law_X6_stone rfl ⟨rfl, rfl⟩ (by decide +kernel) ⟨Nat.le_of_ble_eq_true rfl, Nat.le_of_ble_eq_true rfl⟩ rfl rfl (Nat.le_of_ble_eq_true rfl) dL_law_46 ⟨Nat.le_of_ble_eq_true rfl, Nat.le_of_ble_eq_true rfl⟩ (fun r_174 u_195 H locs h hw => ?_)
          obtain ⟨v_175, v_176, v_177, v_178, v_179, v_180, v_181, v_182⟩ := u_195
          replace hw : mw E A s.heap H locs (List.flatten [cG aG (a0 0) (a1 0) (a2 0) (a3 0) (aH 0) (aS 0) v_175, cM E a0 v_176, cM E a1 v_177, cM E a2 v_5, cM E a3 v_6, cH E aH (h0 0) (h1 0) (h2 0) (h3 0) v_178, cM E h0 v_179, cM E h1 v_180, cM E h2 v_181, cM E h3 v_182, cS E aS v_12]) := hw.perm (p_bk (ds := [cG aG (a0 0) (a1 0) (a2 0) (a3 0) (aH 0) (aS 0) v_175, cM E a0 v_176, cM E a1 v_177, cH E aH (h0 0) (h1 0) (h2 0) (h3 0) v_178, cM E h0 v_179, cM E h1 v_180, cM E h2 v_181, cM E h3 v_182]) ((p_pk _ 0 _ rfl).trans (List.Perm.cons _ ((p_pk _ 0 _ rfl).trans (List.Perm.cons _ ((p_pk _ 0 _ rfl).trans (List.Perm.cons _ ((p_pk _ 2 _ rfl).trans (List.Perm.cons _ ((p_pk _ 2 _ rfl).trans (List.Perm.cons _ ((p_pk _ 2 _ rfl).trans (List.Perm.cons _ ((p_pk _ 2 _ rfl).trans (List.Perm.cons _ ((p_pk _ 2 _ rfl).trans (List.Perm.cons _ (List.Perm.refl _))))))))))))))))))
          refine lv_if_ne (tgt := 69) hx hb dL_law_49 (by decide) (fun c_194 => ?_) (fun c_194 => ?_)
          · replace h := h.1 c_194
            refine lv_iconst (v := 0) hx hb dL_law_69 (by decide) ?_
            exact j_L_law_70 C0 hX hbl hbA hL hAl _ _ _ _ _ _ _ _ _ _ _ _ h _ _ _ hw (lv_sub hl [0, 1] rfl)
          · replace h := h.2 c_194
            refine lv_aload_n hx hb dL_law_52 rfl (lv_at hl 1 rfl) ?_
            refine lv_iconst (v := 3) hx hb dL_law_53 (by decide) ?_
            refine lv_iconst (v := 5) hx hb dL_law_54 (by decide) ?_
            refine lv_iconst (v := 5) hx hb dL_law_55 (by decide) ?_
            refine lv_sipush (v := 300) hx hb dL_law_56 (by decide) ?_
            refine x_cV (As := [.int 3, .int 5, .int 5, .int 300]) (rest := []) (F := (List.flatten [cM E a2 v_5, cM E a3 v_6, cS E aS v_12])) C0 hw (p_fl (ds := [cG aG (a0 0) (a1 0) (a2 0) (a3 0) (aH 0) (aS 0) v_175, cM E a0 v_176, cM E a1 v_177, cH E aH (h0 0) (h1 0) (h2 0) (h3 0) v_178, cM E h0 v_179, cM E h1 v_180, cM E h2 v_181, cM E h3 v_182]) ((p_pk _ 0 _ rfl).trans (List.Perm.cons _ ((p_pk _ 0 _ rfl).trans (List.Perm.cons _ ((p_pk _ 0 _ rfl).trans (List.Perm.cons _ ((p_pk _ 2 _ rfl).trans (List.Perm.cons _ ((p_pk _ 2 _ rfl).trans (List.Perm.cons _ ((p_pk _ 2 _ rfl).trans (List.Perm.cons _ ((p_pk _ 2 _ rfl).trans (List.Perm.cons _ ((p_pk _ 2 _ rfl).trans (List.Perm.cons _ (List.Perm.refl _)))))))))))))))))) hl.1 0 6 rfl rfl (c_X6_rate l E aG a0 a1 a2 a3 aH h0 h1 h2 h3 aS h) 4 gL_law_X6_rate rfl ⟨rfl, rfl⟩ (by decide +kernel) ⟨Nat.le_of_ble_eq_true rfl, Nat.le_of_ble_eq_true rfl⟩ rfl rfl (Nat.le_of_ble_eq_true rfl) dL_law_59 ⟨Nat.le_of_ble_eq_true rfl, Nat.le_of_ble_eq_true rfl⟩ (fun r_183 u_193 H locs h hw => ?_)
            obtain ⟨v_184, v_185, v_186, v_187, v_188, v_189, v_190, v_191⟩ := u_193
            replace hw : mw E A s.heap H locs (List.flatten [cG aG (a0 0) (a1 0) (a2 0) (a3 0) (aH 0) (aS 0) v_184, cM E a0 v_185, cM E a1 v_186, cM E a2 v_5, cM E a3 v_6, cH E aH (h0 0) (h1 0) (h2 0) (h3 0) v_187, cM E h0 v_188, cM E h1 v_189, cM E h2 v_190, cM E h3 v_191, cS E aS v_12]) := hw.perm (p_bk (ds := [cG aG (a0 0) (a1 0) (a2 0) (a3 0) (aH 0) (aS 0) v_184, cM E a0 v_185, cM E a1 v_186, cH E aH (h0 0) (h1 0) (h2 0) (h3 0) v_187, cM E h0 v_188, cM E h1 v_189, cM E h2 v_190, cM E h3 v_191]) ((p_pk _ 0 _ rfl).trans (List.Perm.cons _ ((p_pk _ 0 _ rfl).trans (List.Perm.cons _ ((p_pk _ 0 _ rfl).trans (List.Perm.cons _ ((p_pk _ 2 _ rfl).trans (List.Perm.cons _ ((p_pk _ 2 _ rfl).trans (List.Perm.cons _ ((p_pk _ 2 _ rfl).trans (List.Perm.cons _ ((p_pk _ 2 _ rfl).trans (List.Perm.cons _ ((p_pk _ 2 _ rfl).trans (List.Perm.cons _ (List.Perm.refl _))))))))))))))))))
            refine lv_if_ne (tgt := 69) hx hb dL_law_62 (by decide) (fun c_192 => ?_) (fun c_192 => ?_)
            · replace h := h.1 c_192
              refine lv_iconst (v := 0) hx hb dL_law_69 (by decide) ?_
              exact j_L_law_70 C0 hX hbl hbA hL hAl _ _ _ _ _ _ _ _ _ _ _ _ h _ _ _ hw (lv_sub hl [0, 1] rfl)
            · replace h := h.2 c_192
              refine lv_iconst (v := 1) hx hb dL_law_65 (by decide) ?_
              refine lv_goto (tgt := 70) hx hb dL_law_66 (by decide) ?_
              exact j_L_law_70 C0 hX hbl hbA hL hAl _ _ _ _ _ _ _ _ _ _ _ _ h _ _ _ hw (lv_sub hl [0, 1] rfl)
