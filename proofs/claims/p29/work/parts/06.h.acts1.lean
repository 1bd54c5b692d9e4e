set_option maxRecDepth 100000 in
set_option maxHeartbeats 4000000 in
theorem j_L_acts_690 {p : Program} {l : Launch} {e : Env} {s : State} {m : MethodId} {below : List Frame} {meth : Method} {c : Code} {E : EE} {A : Nat → Prop} {aG : Nat → Nat} {a0 : Nat → Nat} {a1 : Nat → Nat} {a2 : Nat → Nat} {a3 : Nat → Nat} {aH : Nat → Nat} {h0 : Nat → Nat} {h1 : Nat → Nat} {h2 : Nat → Nat} {h3 : Nat → Nat} {aS : Nat → Nat} {args : Array Value} (C0 : Cx E p s m args meth c A cL_acts 17 RL wsL_acts (some .boolean)) {post : Int32 → V → V → V → V → V → V → V → V → V → V → V → Prop}  : ∀ (x7 : Int32) (x8 : Int32) (x9 : Int32) (q0 : Int32) (v0 : V) (v1 : V) (v2 : V) (v3 : V) (v4 : V) (v5 : V) (v6 : V) (v7 : V) (v8 : V) (v9 : V) (v10 : V), sj_L_acts_690 post  x7 x8 x9 q0 v0 v1 v2 v3 v4 v5 v6 v7 v8 v9 v10 → ∀ (H : Heap) (locs : List Loc) (ls : Array Slot), mw E A s.heap H locs (List.flatten [cG aG (a0 0) (a1 0) (a2 0) (a3 0) (aH 0) (aS 0) v0, cM E a0 v1, cM E a1 v2, cM E a2 v3, cM E a3 v4, cH E aH (h0 0) (h1 0) (h2 0) (h3 0) v5, cM E h0 v6, cM E h1 v7, cM E h2 v8, cM E h3 v9, cS E aS v10]) → lv_has ls 17 [(0, .ref (aG 0)), (7, .int x7), (8, .int x8), (9, .int x9)] → W p l e rmL_acts s m args below meth c H locs 0 0 (qI E A (fun r (u : V × V × V × V × V × V × V × V × V × V × V) => post r u.1 u.2.1 u.2.2.1 u.2.2.2.1 u.2.2.2.2.1 u.2.2.2.2.2.1 u.2.2.2.2.2.2.1 u.2.2.2.2.2.2.2.1 u.2.2.2.2.2.2.2.2.1 u.2.2.2.2.2.2.2.2.2.1 u.2.2.2.2.2.2.2.2.2.2) (fun (u : V × V × V × V × V × V × V × V × V × V × V) => (List.flatten [cG aG (a0 0) (a1 0) (a2 0) (a3 0) (aH 0) (aS 0) u.1, cM E a0 u.2.1, cM E a1 u.2.2.1, cM E a2 u.2.2.2.1, cM E a3 u.2.2.2.2.1, cH E aH (h0 0) (h1 0) (h2 0) (h3 0) u.2.2.2.2.2.1, cM E h0 u.2.2.2.2.2.2.1, cM E h1 u.2.2.2.2.2.2.2.1, cM E h2 u.2.2.2.2.2.2.2.2.1, cM E h3 u.2.2.2.2.2.2.2.2.2.1, cS E aS u.2.2.2.2.2.2.2.2.2.2])) below args s) (F0 m 690 ls [.int q0]) := by
  have hx := C0.1
  have hb := C0.2.1
  intro x7 x8 x9 q0 v0 v1 v2 v3 v4 v5 v6 v7 v8 v9 v10 h H locs ls hw hl
  unfold sj_L_acts_690 at h
  refine lv_istore (lv' := [(11, .int q0), (0, .ref (aG 0)), (7, .int x7), (8, .int x8), (9, .int x9)]) hx hb dL_acts_690 hl (by decide) rfl (fun ls hl => ?_)
  refine lv_aload_n hx hb dL_acts_692 rfl (lv_at hl 1 rfl) ?_
  refine lv_iload hx hb dL_acts_693 (lv_at hl 2 rfl) ?_
  refine x_cV (As := [.int x7]) (rest := []) (F := (List.flatten [cM E a2 v3, cM E a3 v4, cS E aS v10])) C0 hw (p_fl (ds := [cG aG (a0 0) (a1 0) (a2 0) (a3 0) (aH 0) (aS 0) v0, cM E a0 v1, cM E a1 v2, cH E aH (h0 0) (h1 0) (h2 0) (h3 0) v5, cM E h0 v6, cM E h1 v7, cM E h2 v8, cM E h3 v9]) ((p_pk _ 0 _ rfl).trans (List.Perm.cons _ ((p_pk _ 0 _ rfl).trans (List.Perm.cons _ ((p_pk _ 0 _ rfl).trans (List.Perm.cons _ ((p_pk _ 2 _ rfl).trans (List.Perm.cons _ ((p_pk _ 2 _ rfl).trans (List.Perm.cons _ ((p_pk _ 2 _ rfl).trans (List.Perm.cons _ ((p_pk _ 2 _ rfl).trans (List.Perm.cons _ ((p_pk _ 2 _ rfl).trans (List.Perm.cons _ (List.Perm.refl _)))))))))))))))))) hl.1 0 6 rfl rfl (c_X6_back l E aG a0 a1 a2 a3 aH h0 h1 h2 h3 aS h) 1 gL_acts_X6_back rfl ⟨rfl, rfl⟩ (by decide +kernel) ⟨Nat.le_of_ble_eq_true rfl, Nat.le_of_ble_eq_true rfl⟩ rfl rfl (Nat.le_of_ble_eq_true rfl) dL_acts_695 ⟨Nat.zero_le _, Nat.zero_le _⟩ (fun r_230 u_251 H locs h hw => ?_)
  obtain ⟨v_231, v_232, v_233, v_234, v_235, v_236, v_237, v_238⟩ := u_251
  replace hw : mw E A s.heap H locs (List.flatten [cG aG (a0 0) (a1 0) (a2 0) (a3 0) (aH 0) (aS 0) v_231, cM E a0 v_232, cM E a1 v_233, cM E a2 v3, cM E a3 v4, cH E aH (h0 0) (h1 0) (h2 0) (h3 0) v_234, cM E h0 v_235, cM E h1 v_236, cM E h2 v_237, cM E h3 v_238, cS E aS v10]) := hw.perm (p_bk (ds := [cG aG (a0 0) (a1 0) (a2 0) (a3 0) (aH 0) (aS 0) v_231, cM E a0 v_232, cM E a1 v_233, cH E aH (h0 0) (h1 0) (h2 0) (h3 0) v_234, cM E h0 v_235, cM E h1 v_236, cM E h2 v_237, cM E h3 v_238]) ((p_pk _ 0 _ rfl).trans (List.Perm.cons _ ((p_pk _ 0 _ rfl).trans (List.Perm.cons _ ((p_pk _ 0 _ rfl).trans (List.Perm.cons _ ((p_pk _ 2 _ rfl).trans (List.Perm.cons _ ((p_pk _ 2 _ rfl).trans (List.Perm.cons _ ((p_pk _ 2 _ rfl).trans (List.Perm.cons _ ((p_pk _ 2 _ rfl).trans (List.Perm.cons _ ((p_pk _ 2 _ rfl).trans (List.Perm.cons _ (List.Perm.refl _))))))))))))))))))
  refine lv_istore (lv' := [(12, .int r_230), (11, .int q0), (0, .ref (aG 0)), (7, .int x7), (8, .int x8), (9, .int x9)]) hx hb dL_acts_698 hl (by decide) rfl (fun ls hl => ?_)
  refine lv_iload hx hb dL_acts_700 (lv_at hl 4 rfl) ?_
  refine lv_if_ne (tgt := 720) hx hb dL_acts_702 (by decide) (fun c_250 => ?_) (fun c_250 => ?_)
  · replace h := h.1 c_250
    refine lv_iload hx hb dL_acts_720 (lv_at hl 5 rfl) ?_
    refine lv_if_ne (tgt := 740) hx hb dL_acts_722 (by decide) (fun c_248 => ?_) (fun c_248 => ?_)
    · replace h := h.1 c_248
      refine lv_iload hx hb dL_acts_740 (lv_at hl 0 rfl) ?_
      refine lv_if_lt (tgt := 779) hx hb dL_acts_742 (by decide) (fun c_246 => ?_) (fun c_246 => ?_)
      · replace h := h.1 c_246
        refine lv_iconst (v := 0) hx hb dL_acts_779 (by decide) ?_
        exact x_retz C0 rfl ⟨v_231, v_232, v_233, v3, v4, v_234, v_235, v_236, v_237, v_238, v10⟩ hw h dL_acts_780
      · replace h := h.2 c_246
        refine lv_iload hx hb dL_acts_745 (lv_at hl 0 rfl) ?_
        refine lv_if_le (tgt := 754) hx hb dL_acts_747 (by decide) (fun c_245 => ?_) (fun c_245 => ?_)
        · replace h := h.1 c_245
          refine lv_iconst (v := 0) hx hb dL_acts_754 (by decide) ?_
          exact j_L_acts_755 C0 _ _ _ _ _ _ _ _ _ _ _ _ _ h _ _ _ hw (lv_sub hl [2, 1] rfl)
        · replace h := h.2 c_245
          refine lv_iconst (v := 1) hx hb dL_acts_750 (by decide) ?_
          refine lv_goto (tgt := 755) hx hb dL_acts_751 (by decide) ?_
          exact j_L_acts_755 C0 _ _ _ _ _ _ _ _ _ _ _ _ _ h _ _ _ hw (lv_sub hl [2, 1] rfl)
    · replace h := h.2 c_248
      refine lv_iload hx hb dL_acts_725 (lv_at hl 0 rfl) ?_
      refine x_ldc (v := (-10000002)) C0 3 rfl dL_acts_727 ?_
      refine lv_icmp_ne (tgt := 736) hx hb dL_acts_729 (by decide) (fun c_247 => ?_) (fun c_247 => ?_)
      · replace h := h.1 c_247
        refine lv_iconst (v := 0) hx hb dL_acts_736 (by decide) ?_
        refine lv_goto (tgt := 780) hx hb dL_acts_737 (by decide) ?_
        exact x_retz C0 rfl ⟨v_231, v_232, v_233, v3, v4, v_234, v_235, v_236, v_237, v_238, v10⟩ hw h dL_acts_780
      · replace h := h.2 c_247
        refine lv_iconst (v := 1) hx hb dL_acts_732 (by decide) ?_
        refine lv_goto (tgt := 780) hx hb dL_acts_733 (by decide) ?_
        exact x_retz C0 rfl ⟨v_231, v_232, v_233, v3, v4, v_234, v_235, v_236, v_237, v_238, v10⟩ hw h dL_acts_780
  · replace h := h.2 c_250
    refine lv_iload hx hb dL_acts_705 (lv_at hl 0 rfl) ?_
    refine x_ldc (v := (-10000001)) C0 1 rfl dL_acts_707 ?_
    refine lv_icmp_ne (tgt := 716) hx hb dL_acts_709 (by decide) (fun c_249 => ?_) (fun c_249 => ?_)
    · replace h := h.1 c_249
      refine lv_iconst (v := 0) hx hb dL_acts_716 (by decide) ?_
      refine lv_goto (tgt := 780) hx hb dL_acts_717 (by decide) ?_
      exact x_retz C0 rfl ⟨v_231, v_232, v_233, v3, v4, v_234, v_235, v_236, v_237, v_238, v10⟩ hw h dL_acts_780
    · replace h := h.2 c_249
      refine lv_iconst (v := 1) hx hb dL_acts_712 (by decide) ?_
      refine lv_goto (tgt := 780) hx hb dL_acts_713 (by decide) ?_
      exact x_retz C0 rfl ⟨v_231, v_232, v_233, v3, v4, v_234, v_235, v_236, v_237, v_238, v10⟩ hw h dL_acts_780
set_option maxRecDepth 100000 in
set_option maxHeartbeats 4000000 in
theorem j_L_acts_622 {p : Program} {l : Launch} {e : Env} {s : State} {m : MethodId} {below : List Frame} {meth : Method} {c : Code} {E : EE} {A : Nat → Prop} {aG : Nat → Nat} {a0 : Nat → Nat} {a1 : Nat → Nat} {a2 : Nat → Nat} {a3 : Nat → Nat} {aH : Nat → Nat} {h0 : Nat → Nat} {h1 : Nat → Nat} {h2 : Nat → Nat} {h3 : Nat → Nat} {aS : Nat → Nat} {args : Array Value} (C0 : Cx E p s m args meth c A cL_acts 17 RL wsL_acts (some .boolean)) {post : Int32 → V → V → V → V → V → V → V → V → V → V → V → Prop}  : ∀ (x7 : Int32) (x11 : Int32) (x12 : Int32) (x16 : Int32) (q0 : Int32) (q1 : Int32) (v0 : V) (v1 : V) (v2 : V) (v3 : V) (v4 : V) (v5 : V) (v6 : V) (v7 : V) (v8 : V) (v9 : V) (v10 : V), sj_L_acts_622 post  x7 x11 x12 x16 q0 q1 v0 v1 v2 v3 v4 v5 v6 v7 v8 v9 v10 → ∀ (H : Heap) (locs : List Loc) (ls : Array Slot), mw E A s.heap H locs (List.flatten [cG aG (a0 0) (a1 0) (a2 0) (a3 0) (aH 0) (aS 0) v0, cM E a0 v1, cM E a1 v2, cM E a2 v3, cM E a3 v4, cH E aH (h0 0) (h1 0) (h2 0) (h3 0) v5, cM E h0 v6, cM E h1 v7, cM E h2 v8, cM E h3 v9, cS E aS v10]) → lv_has ls 17 [(0, .ref (aG 0)), (7, .int x7), (11, .int x11), (12, .int x12), (16, .int x16)] → W p l e rmL_acts s m args below meth c H locs 0 0 (qI E A (fun r (u : V × V × V × V × V × V × V × V × V × V × V) => post r u.1 u.2.1 u.2.2.1 u.2.2.2.1 u.2.2.2.2.1 u.2.2.2.2.2.1 u.2.2.2.2.2.2.1 u.2.2.2.2.2.2.2.1 u.2.2.2.2.2.2.2.2.1 u.2.2.2.2.2.2.2.2.2.1 u.2.2.2.2.2.2.2.2.2.2) (fun (u : V × V × V × V × V × V × V × V × V × V × V) => (List.flatten [cG aG (a0 0) (a1 0) (a2 0) (a3 0) (aH 0) (aS 0) u.1, cM E a0 u.2.1, cM E a1 u.2.2.1, cM E a2 u.2.2.2.1, cM E a3 u.2.2.2.2.1, cH E aH (h0 0) (h1 0) (h2 0) (h3 0) u.2.2.2.2.2.1, cM E h0 u.2.2.2.2.2.2.1, cM E h1 u.2.2.2.2.2.2.2.1, cM E h2 u.2.2.2.2.2.2.2.2.1, cM E h3 u.2.2.2.2.2.2.2.2.2.1, cS E aS u.2.2.2.2.2.2.2.2.2.2])) below args s) (F0 m 622 ls [.int q1, .int q0]) := by
  have hx := C0.1
  have hb := C0.2.1
  intro x7 x11 x12 x16 q0 q1 v0 v1 v2 v3 v4 v5 v6 v7 v8 v9 v10 h H locs ls hw hl
  unfold sj_L_acts_622 at h
  refine lv_icmp_ne (tgt := 665) hx hb dL_acts_622 (by decide) (fun c_291 => ?_) (fun c_291 => ?_)
  · replace h := h.1 c_291
    refine lv_iconst (v := 0) hx hb dL_acts_665 (by decide) ?_
    exact x_retz C0 rfl ⟨v0, v1, v2, v3, v4, v5, v6, v7, v8, v9, v10⟩ hw h dL_acts_666
  · replace h := h.2 c_291
    refine lv_iload hx hb dL_acts_625 (lv_at hl 4 rfl) ?_
    refine lv_if_lt (tgt := 661) hx hb dL_acts_627 (by decide) (fun c_290 => ?_) (fun c_290 => ?_)
    · replace h := h.1 c_290
      refine lv_iconst (v := 1) hx hb dL_acts_661 (by decide) ?_
      refine lv_goto (tgt := 666) hx hb dL_acts_662 (by decide) ?_
      exact x_retz C0 rfl ⟨v0, v1, v2, v3, v4, v5, v6, v7, v8, v9, v10⟩ hw h dL_acts_666
    · replace h := h.2 c_290
      refine lv_aload_n hx hb dL_acts_630 rfl (lv_at hl 0 rfl) ?_
      refine lv_iload hx hb dL_acts_631 (lv_at hl 4 rfl) ?_
      refine lv_iconst (v := 2) hx hb dL_acts_633 (by decide) ?_
      refine x_cV (As := [.int x16, .int 2]) (rest := []) (F := (List.flatten [cM E a1 v2, cM E a2 v3, cM E a3 v4, cH E aH (h0 0) (h1 0) (h2 0) (h3 0) v5, cM E h0 v6, cM E h1 v7, cM E h2 v8, cM E h3 v9, cS E aS v10])) C0 hw (p_fl (ds := [cG aG (a0 0) (a1 0) (a2 0) (a3 0) (aH 0) (aS 0) v0, cM E a0 v1]) (List.Perm.refl _)) hl.1 0 6 rfl rfl (c_X6_memoOf l E aG a0 a1 a2 a3 aH h0 h1 h2 h3 aS h) 2 gL_acts_X6_memoOf rfl ⟨rfl, rfl⟩ (by decide +kernel) ⟨Nat.le_of_ble_eq_true rfl, Nat.le_of_ble_eq_true rfl⟩ rfl rfl (Nat.le_of_ble_eq_true rfl) dL_acts_634 ⟨Nat.zero_le _, Nat.zero_le _⟩ (fun r_274 u_289 H locs h hw => ?_)
      obtain ⟨v_275, v_276⟩ := u_289
      replace hw : mw E A s.heap H locs (List.flatten [cG aG (a0 0) (a1 0) (a2 0) (a3 0) (aH 0) (aS 0) v_275, cM E a0 v_276, cM E a1 v2, cM E a2 v3, cM E a3 v4, cH E aH (h0 0) (h1 0) (h2 0) (h3 0) v5, cM E h0 v6, cM E h1 v7, cM E h2 v8, cM E h3 v9, cS E aS v10]) := hw.perm (p_bk (ds := [cG aG (a0 0) (a1 0) (a2 0) (a3 0) (aH 0) (aS 0) v_275, cM E a0 v_276]) (List.Perm.refl _))
      refine lv_aload_n hx hb dL_acts_637 rfl (lv_at hl 0 rfl) ?_
      refine lv_bipush (v := 7) hx hb dL_acts_638 (by decide) ?_
      refine x_cV (As := [.int 7]) (rest := [.int r_274]) (F := (List.flatten [cM E a1 v2, cM E a2 v3, cM E a3 v4, cM E h0 v6, cM E h1 v7, cM E h2 v8, cM E h3 v9])) C0 hw (p_fl (ds := [cG aG (a0 0) (a1 0) (a2 0) (a3 0) (aH 0) (aS 0) v_275, cM E a0 v_276, cH E aH (h0 0) (h1 0) (h2 0) (h3 0) v5, cS E aS v10]) ((p_pk _ 0 _ rfl).trans (List.Perm.cons _ ((p_pk _ 0 _ rfl).trans (List.Perm.cons _ ((p_pk _ 3 _ rfl).trans (List.Perm.cons _ ((p_pk _ 7 _ rfl).trans (List.Perm.cons _ (List.Perm.refl _)))))))))) hl.1 0 6 rfl rfl (c_X6_count l E aG a0 a1 a2 a3 aH h0 h1 h2 h3 aS h) 1 gL_acts_X6_count rfl ⟨rfl, rfl⟩ (by decide +kernel) ⟨Nat.le_of_ble_eq_true rfl, Nat.le_of_ble_eq_true rfl⟩ rfl rfl (Nat.le_of_ble_eq_true rfl) dL_acts_640 ⟨Nat.zero_le _, Nat.zero_le _⟩ (fun r_277 u_288 H locs h hw => ?_)
      obtain ⟨v_278, v_279, v_280, v_281⟩ := u_288
      replace hw : mw E A s.heap H locs (List.flatten [cG aG (a0 0) (a1 0) (a2 0) (a3 0) (aH 0) (aS 0) v_278, cM E a0 v_279, cM E a1 v2, cM E a2 v3, cM E a3 v4, cH E aH (h0 0) (h1 0) (h2 0) (h3 0) v_280, cM E h0 v6, cM E h1 v7, cM E h2 v8, cM E h3 v9, cS E aS v_281]) := hw.perm (p_bk (ds := [cG aG (a0 0) (a1 0) (a2 0) (a3 0) (aH 0) (aS 0) v_278, cM E a0 v_279, cH E aH (h0 0) (h1 0) (h2 0) (h3 0) v_280, cS E aS v_281]) ((p_pk _ 0 _ rfl).trans (List.Perm.cons _ ((p_pk _ 0 _ rfl).trans (List.Perm.cons _ ((p_pk _ 3 _ rfl).trans (List.Perm.cons _ ((p_pk _ 7 _ rfl).trans (List.Perm.cons _ (List.Perm.refl _))))))))))
      refine lv_iload hx hb dL_acts_643 (lv_at hl 3 rfl) ?_
      refine lv_iadd hx hb dL_acts_645 ?_
      refine lv_icmp_ne (tgt := 665) hx hb dL_acts_646 (by decide) (fun c_287 => ?_) (fun c_287 => ?_)
      · replace h := h.1 c_287
        refine lv_iconst (v := 0) hx hb dL_acts_665 (by decide) ?_
        exact x_retz C0 rfl ⟨v_278, v_279, v2, v3, v4, v_280, v6, v7, v8, v9, v_281⟩ hw h dL_acts_666
      · replace h := h.2 c_287
        refine lv_aload_n hx hb dL_acts_649 rfl (lv_at hl 0 rfl) ?_
        refine lv_iload hx hb dL_acts_650 (lv_at hl 1 rfl) ?_
        refine lv_iconst (v := 5) hx hb dL_acts_652 (by decide) ?_
        refine x_cV (As := [.int x7, .int 5]) (rest := []) (F := (List.flatten [cM E a1 v2, cM E a2 v3, cM E a3 v4, cH E aH (h0 0) (h1 0) (h2 0) (h3 0) v_280, cM E h0 v6, cM E h1 v7, cM E h2 v8, cM E h3 v9, cS E aS v_281])) C0 hw (p_fl (ds := [cG aG (a0 0) (a1 0) (a2 0) (a3 0) (aH 0) (aS 0) v_278, cM E a0 v_279]) (List.Perm.refl _)) hl.1 0 6 rfl rfl (c_X6_stoneOf l E aG a0 a1 a2 a3 aH h0 h1 h2 h3 aS h) 2 gL_acts_X6_stoneOf rfl ⟨rfl, rfl⟩ (by decide +kernel) ⟨Nat.le_of_ble_eq_true rfl, Nat.le_of_ble_eq_true rfl⟩ rfl rfl (Nat.le_of_ble_eq_true rfl) dL_acts_653 ⟨Nat.zero_le _, Nat.zero_le _⟩ (fun r_282 u_286 H locs h hw => ?_)
        obtain ⟨v_283, v_284⟩ := u_286
        replace hw : mw E A s.heap H locs (List.flatten [cG aG (a0 0) (a1 0) (a2 0) (a3 0) (aH 0) (aS 0) v_283, cM E a0 v_284, cM E a1 v2, cM E a2 v3, cM E a3 v4, cH E aH (h0 0) (h1 0) (h2 0) (h3 0) v_280, cM E h0 v6, cM E h1 v7, cM E h2 v8, cM E h3 v9, cS E aS v_281]) := hw.perm (p_bk (ds := [cG aG (a0 0) (a1 0) (a2 0) (a3 0) (aH 0) (aS 0) v_283, cM E a0 v_284]) (List.Perm.refl _))
        refine lv_iload hx hb dL_acts_656 (lv_at hl 2 rfl) ?_
        refine lv_icmp_ne (tgt := 665) hx hb dL_acts_658 (by decide) (fun c_285 => ?_) (fun c_285 => ?_)
        · replace h := h.1 c_285
          refine lv_iconst (v := 0) hx hb dL_acts_665 (by decide) ?_
          exact x_retz C0 rfl ⟨v_283, v_284, v2, v3, v4, v_280, v6, v7, v8, v9, v_281⟩ hw h dL_acts_666
        · replace h := h.2 c_285
          refine lv_iconst (v := 1) hx hb dL_acts_661 (by decide) ?_
          refine lv_goto (tgt := 666) hx hb dL_acts_662 (by decide) ?_
          exact x_retz C0 rfl ⟨v_283, v_284, v2, v3, v4, v_280, v6, v7, v8, v9, v_281⟩ hw h dL_acts_666
set_option maxRecDepth 100000 in
set_option maxHeartbeats 4000000 in
theorem j_L_acts_561 {p : Program} {l : Launch} {e : Env} {s : State} {m : MethodId} {below : List Frame} {meth : Method} {c : Code} {E : EE} {A : Nat → Prop} {aG : Nat → Nat} {a0 : Nat → Nat} {a1 : Nat → Nat} {a2 : Nat → Nat} {a3 : Nat → Nat} {aH : Nat → Nat} {h0 : Nat → Nat} {h1 : Nat → Nat} {h2 : Nat → Nat} {h3 : Nat → Nat} {aS : Nat → Nat} {args : Array Value} (C0 : Cx E p s m args meth c A cL_acts 17 RL wsL_acts (some .boolean)) {post : Int32 → V → V → V → V → V → V → V → V → V → V → V → Prop}  : ∀ (x6 : Int32) (x7 : Int32) (x11 : Int32) (x12 : Int32) (x13 : Int32) (q0 : Int32) (v0 : V) (v1 : V) (v2 : V) (v3 : V) (v4 : V) (v5 : V) (v6 : V) (v7 : V) (v8 : V) (v9 : V) (v10 : V), sj_L_acts_561 post  x6 x7 x11 x12 x13 q0 v0 v1 v2 v3 v4 v5 v6 v7 v8 v9 v10 → ∀ (H : Heap) (locs : List Loc) (ls : Array Slot), mw E A s.heap H locs (List.flatten [cG aG (a0 0) (a1 0) (a2 0) (a3 0) (aH 0) (aS 0) v0, cM E a0 v1, cM E a1 v2, cM E a2 v3, cM E a3 v4, cH E aH (h0 0) (h1 0) (h2 0) (h3 0) v5, cM E h0 v6, cM E h1 v7, cM E h2 v8, cM E h3 v9, cS E aS v10]) → lv_has ls 17 [(0, .ref (aG 0)), (6, .int x6), (7, .int x7), (11, .int x11), (12, .int x12), (13, .int x13)] → W p l e rmL_acts s m args below meth c H locs 0 0 (qI E A (fun r (u : V × V × V × V × V × V × V × V × V × V × V) => post r u.1 u.2.1 u.2.2.1 u.2.2.2.1 u.2.2.2.2.1 u.2.2.2.2.2.1 u.2.2.2.2.2.2.1 u.2.2.2.2.2.2.2.1 u.2.2.2.2.2.2.2.2.1 u.2.2.2.2.2.2.2.2.2.1 u.2.2.2.2.2.2.2.2.2.2) (fun (u : V × V × V × V × V × V × V × V × V × V × V) => (List.flatten [cG aG (a0 0) (a1 0) (a2 0) (a3 0) (aH 0) (aS 0) u.1, cM E a0 u.2.1, cM E a1 u.2.2.1, cM E a2 u.2.2.2.1, cM E a3 u.2.2.2.2.1, cH E aH (h0 0) (h1 0) (h2 0) (h3 0) u.2.2.2.2.2.1, cM E h0 u.2.2.2.2.2.2.1, cM E h1 u.2.2.2.2.2.2.2.1, cM E h2 u.2.2.2.2.2.2.2.2.1, cM E h3 u.2.2.2.2.2.2.2.2.2.1, cS E aS u.2.2.2.2.2.2.2.2.2.2])) below args s) (F0 m 561 ls [.int q0]) := by
  have hx := C0.1
  have hb := C0.2.1
  intro x6 x7 x11 x12 x13 q0 v0 v1 v2 v3 v4 v5 v6 v7 v8 v9 v10 h H locs ls hw hl
  unfold sj_L_acts_561 at h
  refine lv_istore (lv' := [(14, .int q0), (0, .ref (aG 0)), (6, .int x6), (7, .int x7), (11, .int x11), (12, .int x12), (13, .int x13)]) hx hb dL_acts_561 hl (by decide) rfl (fun ls hl => ?_)
  refine lv_aload_n hx hb dL_acts_563 rfl (lv_at hl 1 rfl) ?_
  refine lv_iconst (v := 4) hx hb dL_acts_564 (by decide) ?_
  refine x_cV (As := [.int 4]) (rest := []) (F := (List.flatten [cM E a1 v2, cM E a2 v3, cM E a3 v4, cM E h0 v6, cM E h1 v7, cM E h2 v8, cM E h3 v9])) C0 hw (p_fl (ds := [cG aG (a0 0) (a1 0) (a2 0) (a3 0) (aH 0) (aS 0) v0, cM E a0 v1, cH E aH (h0 0) (h1 0) (h2 0) (h3 0) v5, cS E aS v10]) ((p_pk _ 0 _ rfl).trans (List.Perm.cons _ ((p_pk _ 0 _ rfl).trans (List.Perm.cons _ ((p_pk _ 3 _ rfl).trans (List.Perm.cons _ ((p_pk _ 7 _ rfl).trans (List.Perm.cons _ (List.Perm.refl _)))))))))) hl.1 0 6 rfl rfl (c_X6_count l E aG a0 a1 a2 a3 aH h0 h1 h2 h3 aS h) 1 gL_acts_X6_count rfl ⟨rfl, rfl⟩ (by decide +kernel) ⟨Nat.le_of_ble_eq_true rfl, Nat.le_of_ble_eq_true rfl⟩ rfl rfl (Nat.le_of_ble_eq_true rfl) dL_acts_565 ⟨Nat.zero_le _, Nat.zero_le _⟩ (fun r_260 u_296 H locs h hw => ?_)
  obtain ⟨v_261, v_262, v_263, v_264⟩ := u_296
  replace hw : mw E A s.heap H locs (List.flatten [cG aG (a0 0) (a1 0) (a2 0) (a3 0) (aH 0) (aS 0) v_261, cM E a0 v_262, cM E a1 v2, cM E a2 v3, cM E a3 v4, cH E aH (h0 0) (h1 0) (h2 0) (h3 0) v_263, cM E h0 v6, cM E h1 v7, cM E h2 v8, cM E h3 v9, cS E aS v_264]) := hw.perm (p_bk (ds := [cG aG (a0 0) (a1 0) (a2 0) (a3 0) (aH 0) (aS 0) v_261, cM E a0 v_262, cH E aH (h0 0) (h1 0) (h2 0) (h3 0) v_263, cS E aS v_264]) ((p_pk _ 0 _ rfl).trans (List.Perm.cons _ ((p_pk _ 0 _ rfl).trans (List.Perm.cons _ ((p_pk _ 3 _ rfl).trans (List.Perm.cons _ ((p_pk _ 7 _ rfl).trans (List.Perm.cons _ (List.Perm.refl _))))))))))
  refine lv_istore (lv' := [(15, .int r_260), (14, .int q0), (0, .ref (aG 0)), (6, .int x6), (7, .int x7), (11, .int x11), (12, .int x12), (13, .int x13)]) hx hb dL_acts_568 hl (by decide) rfl (fun ls hl => ?_)
  refine lv_aload_n hx hb dL_acts_570 rfl (lv_at hl 2 rfl) ?_
  refine lv_iload hx hb dL_acts_571 (lv_at hl 3 rfl) ?_
  refine lv_iload hx hb dL_acts_573 (lv_at hl 5 rfl) ?_
  refine lv_iload hx hb dL_acts_575 (lv_at hl 6 rfl) ?_
  refine lv_iconst (v := 1) hx hb dL_acts_577 (by decide) ?_
  refine lv_iload hx hb dL_acts_578 (lv_at hl 4 rfl) ?_
  refine lv_ishl hx hb dL_acts_580 ?_
  refine x_cV (As := [.int x6, .int x11, .int x12, .int (1 <<< (x7 &&& 31))]) (rest := []) (F := (List.flatten [cM E a2 v3, cM E a3 v4, cS E aS v_264])) C0 hw (p_fl (ds := [cG aG (a0 0) (a1 0) (a2 0) (a3 0) (aH 0) (aS 0) v_261, cM E a0 v_262, cM E a1 v2, cH E aH (h0 0) (h1 0) (h2 0) (h3 0) v_263, cM E h0 v6, cM E h1 v7, cM E h2 v8, cM E h3 v9]) ((p_pk _ 0 _ rfl).trans (List.Perm.cons _ ((p_pk _ 0 _ rfl).trans (List.Perm.cons _ ((p_pk _ 0 _ rfl).trans (List.Perm.cons _ ((p_pk _ 2 _ rfl).trans (List.Perm.cons _ ((p_pk _ 2 _ rfl).trans (List.Perm.cons _ ((p_pk _ 2 _ rfl).trans (List.Perm.cons _ ((p_pk _ 2 _ rfl).trans (List.Perm.cons _ ((p_pk _ 2 _ rfl).trans (List.Perm.cons _ (List.Perm.refl _)))))))))))))))))) hl.1 0 6 rfl rfl (c_X6_lend l E aG a0 a1 a2 a3 aH h0 h1 h2 h3 aS h) 4 gL_acts_X6_lend rfl ⟨rfl, rfl⟩ (by decide +kernel) ⟨Nat.le_of_ble_eq_true rfl, Nat.le_of_ble_eq_true rfl⟩ rfl rfl (Nat.le_of_ble_eq_true rfl) dL_acts_581 ⟨Nat.zero_le _, Nat.zero_le _⟩ (fun r_265 u_295 H locs h hw => ?_)
  obtain ⟨v_266, v_267, v_268, v_269, v_270, v_271, v_272, v_273⟩ := u_295
  replace hw : mw E A s.heap H locs (List.flatten [cG aG (a0 0) (a1 0) (a2 0) (a3 0) (aH 0) (aS 0) v_266, cM E a0 v_267, cM E a1 v_268, cM E a2 v3, cM E a3 v4, cH E aH (h0 0) (h1 0) (h2 0) (h3 0) v_269, cM E h0 v_270, cM E h1 v_271, cM E h2 v_272, cM E h3 v_273, cS E aS v_264]) := hw.perm (p_bk (ds := [cG aG (a0 0) (a1 0) (a2 0) (a3 0) (aH 0) (aS 0) v_266, cM E a0 v_267, cM E a1 v_268, cH E aH (h0 0) (h1 0) (h2 0) (h3 0) v_269, cM E h0 v_270, cM E h1 v_271, cM E h2 v_272, cM E h3 v_273]) ((p_pk _ 0 _ rfl).trans (List.Perm.cons _ ((p_pk _ 0 _ rfl).trans (List.Perm.cons _ ((p_pk _ 0 _ rfl).trans (List.Perm.cons _ ((p_pk _ 2 _ rfl).trans (List.Perm.cons _ ((p_pk _ 2 _ rfl).trans (List.Perm.cons _ ((p_pk _ 2 _ rfl).trans (List.Perm.cons _ ((p_pk _ 2 _ rfl).trans (List.Perm.cons _ ((p_pk _ 2 _ rfl).trans (List.Perm.cons _ (List.Perm.refl _))))))))))))))))))
  refine lv_istore (lv' := [(16, .int r_265), (15, .int r_260), (14, .int q0), (0, .ref (aG 0)), (6, .int x6), (7, .int x7), (11, .int x11), (12, .int x12), (13, .int x13)]) hx hb dL_acts_584 hl (by decide) rfl (fun ls hl => ?_)
  refine lv_iload hx hb dL_acts_586 (lv_at hl 0 rfl) ?_
  refine lv_iload hx hb dL_acts_588 (lv_at hl 8 rfl) ?_
  refine lv_if_ne (tgt := 598) hx hb dL_acts_590 (by decide) (fun c_294 => ?_) (fun c_294 => ?_)
  · replace h := h.1 c_294
    refine lv_iload hx hb dL_acts_598 (lv_at hl 2 rfl) ?_
    refine lv_if_ne (tgt := 608) hx hb dL_acts_600 (by decide) (fun c_293 => ?_) (fun c_293 => ?_)
    · replace h := h.1 c_293
      refine lv_iload hx hb dL_acts_608 (lv_at hl 1 rfl) ?_
      refine lv_bipush (v := 10) hx hb dL_acts_610 (by decide) ?_
      refine lv_icmp_ne (tgt := 620) hx hb dL_acts_612 (by decide) (fun c_292 => ?_) (fun c_292 => ?_)
      · replace h := h.1 c_292
        refine lv_iload hx hb dL_acts_620 (lv_at hl 1 rfl) ?_
        exact j_L_acts_622 C0 _ _ _ _ _ _ _ _ _ _ _ _ _ _ _ _ _ h _ _ _ hw (lv_sub hl [3, 5, 6, 7, 0] rfl)
      · replace h := h.2 c_292
        refine x_ldc (v := (-10000003)) C0 2 rfl dL_acts_615 ?_
        refine lv_goto (tgt := 622) hx hb dL_acts_617 (by decide) ?_
        exact j_L_acts_622 C0 _ _ _ _ _ _ _ _ _ _ _ _ _ _ _ _ _ h _ _ _ hw (lv_sub hl [3, 5, 6, 7, 0] rfl)
    · replace h := h.2 c_293
      refine x_ldc (v := (-10000002)) C0 3 rfl dL_acts_603 ?_
      refine lv_goto (tgt := 622) hx hb dL_acts_605 (by decide) ?_
      exact j_L_acts_622 C0 _ _ _ _ _ _ _ _ _ _ _ _ _ _ _ _ _ h _ _ _ hw (lv_sub hl [3, 5, 6, 7, 0] rfl)
  · replace h := h.2 c_294
    refine x_ldc (v := (-10000001)) C0 1 rfl dL_acts_593 ?_
    refine lv_goto (tgt := 622) hx hb dL_acts_595 (by decide) ?_
    exact j_L_acts_622 C0 _ _ _ _ _ _ _ _ _ _ _ _ _ _ _ _ _ h _ _ _ hw (lv_sub hl [3, 5, 6, 7, 0] rfl)
set_option maxRecDepth 100000 in
set_option maxHeartbeats 4000000 in
theorem j_L_acts_514 {p : Program} {l : Launch} {e : Env} {s : State} {m : MethodId} {below : List Frame} {meth : Method} {c : Code} {E : EE} {A : Nat → Prop} {aG : Nat → Nat} {a0 : Nat → Nat} {a1 : Nat → Nat} {a2 : Nat → Nat} {a3 : Nat → Nat} {aH : Nat → Nat} {h0 : Nat → Nat} {h1 : Nat → Nat} {h2 : Nat → Nat} {h3 : Nat → Nat} {aS : Nat → Nat} {args : Array Value} (C0 : Cx E p s m args meth c A cL_acts 17 RL wsL_acts (some .boolean)) {post : Int32 → V → V → V → V → V → V → V → V → V → V → V → Prop}  : ∀ (x6 : Int32) (x7 : Int32) (x11 : Int32) (x12 : Int32) (q0 : Int32) (v0 : V) (v1 : V) (v2 : V) (v3 : V) (v4 : V) (v5 : V) (v6 : V) (v7 : V) (v8 : V) (v9 : V) (v10 : V), sj_L_acts_514 post  x6 x7 x11 x12 q0 v0 v1 v2 v3 v4 v5 v6 v7 v8 v9 v10 → ∀ (H : Heap) (locs : List Loc) (ls : Array Slot), mw E A s.heap H locs (List.flatten [cG aG (a0 0) (a1 0) (a2 0) (a3 0) (aH 0) (aS 0) v0, cM E a0 v1, cM E a1 v2, cM E a2 v3, cM E a3 v4, cH E aH (h0 0) (h1 0) (h2 0) (h3 0) v5, cM E h0 v6, cM E h1 v7, cM E h2 v8, cM E h3 v9, cS E aS v10]) → lv_has ls 17 [(0, .ref (aG 0)), (6, .int x6), (7, .int x7), (11, .int x11), (12, .int x12)] → W p l e rmL_acts s m args below meth c H locs 0 0 (qI E A (fun r (u : V × V × V × V × V × V × V × V × V × V × V) => post r u.1 u.2.1 u.2.2.1 u.2.2.2.1 u.2.2.2.2.1 u.2.2.2.2.2.1 u.2.2.2.2.2.2.1 u.2.2.2.2.2.2.2.1 u.2.2.2.2.2.2.2.2.1 u.2.2.2.2.2.2.2.2.2.1 u.2.2.2.2.2.2.2.2.2.2) (fun (u : V × V × V × V × V × V × V × V × V × V × V) => (List.flatten [cG aG (a0 0) (a1 0) (a2 0) (a3 0) (aH 0) (aS 0) u.1, cM E a0 u.2.1, cM E a1 u.2.2.1, cM E a2 u.2.2.2.1, cM E a3 u.2.2.2.2.1, cH E aH (h0 0) (h1 0) (h2 0) (h3 0) u.2.2.2.2.2.1, cM E h0 u.2.2.2.2.2.2.1, cM E h1 u.2.2.2.2.2.2.2.1, cM E h2 u.2.2.2.2.2.2.2.2.1, cM E h3 u.2.2.2.2.2.2.2.2.2.1, cS E aS u.2.2.2.2.2.2.2.2.2.2])) below args s) (F0 m 514 ls [.int q0]) := by
  have hx := C0.1
  have hb := C0.2.1
  intro x6 x7 x11 x12 q0 v0 v1 v2 v3 v4 v5 v6 v7 v8 v9 v10 h H locs ls hw hl
  unfold sj_L_acts_514 at h
  refine lv_istore (lv' := [(13, .int q0), (0, .ref (aG 0)), (6, .int x6), (7, .int x7), (11, .int x11), (12, .int x12)]) hx hb dL_acts_514 hl (by decide) rfl (fun ls hl => ?_)
  refine lv_iload hx hb dL_acts_516 (lv_at hl 0 rfl) ?_
  refine lv_if_eq (tgt := 560) hx hb dL_acts_518 (by decide) (fun c_312 => ?_) (fun c_312 => ?_)
  · replace h := h.1 c_312
    refine lv_iconst (v := 0) hx hb dL_acts_560 (by decide) ?_
    exact j_L_acts_561 C0 _ _ _ _ _ _ _ _ _ _ _ _ _ _ _ _ _ h _ _ _ hw (lv_sub hl [1, 2, 3, 4, 5, 0] rfl)
  · replace h := h.2 c_312
    refine lv_aload_n hx hb dL_acts_521 rfl (lv_at hl 1 rfl) ?_
    refine lv_iload hx hb dL_acts_522 (lv_at hl 3 rfl) ?_
    refine lv_iconst (v := 4) hx hb dL_acts_524 (by decide) ?_
    refine x_cV (As := [.int x7, .int 4]) (rest := []) (F := (List.flatten [cM E a1 v2, cM E a2 v3, cM E a3 v4, cH E aH (h0 0) (h1 0) (h2 0) (h3 0) v5, cM E h0 v6, cM E h1 v7, cM E h2 v8, cM E h3 v9, cS E aS v10])) C0 hw (p_fl (ds := [cG aG (a0 0) (a1 0) (a2 0) (a3 0) (aH 0) (aS 0) v0, cM E a0 v1]) (List.Perm.refl _)) hl.1 0 6 rfl rfl (c_X6_stoneOf l E aG a0 a1 a2 a3 aH h0 h1 h2 h3 aS h) 2 gL_acts_X6_stoneOf rfl ⟨rfl, rfl⟩ (by decide +kernel) ⟨Nat.le_of_ble_eq_true rfl, Nat.le_of_ble_eq_true rfl⟩ rfl rfl (Nat.le_of_ble_eq_true rfl) dL_acts_525 ⟨Nat.zero_le _, Nat.zero_le _⟩ (fun r_297 u_311 H locs h hw => ?_)
    obtain ⟨v_298, v_299⟩ := u_311
    replace hw : mw E A s.heap H locs (List.flatten [cG aG (a0 0) (a1 0) (a2 0) (a3 0) (aH 0) (aS 0) v_298, cM E a0 v_299, cM E a1 v2, cM E a2 v3, cM E a3 v4, cH E aH (h0 0) (h1 0) (h2 0) (h3 0) v5, cM E h0 v6, cM E h1 v7, cM E h2 v8, cM E h3 v9, cS E aS v10]) := hw.perm (p_bk (ds := [cG aG (a0 0) (a1 0) (a2 0) (a3 0) (aH 0) (aS 0) v_298, cM E a0 v_299]) (List.Perm.refl _))
    refine lv_iload hx hb dL_acts_528 (lv_at hl 2 rfl) ?_
    refine lv_icmp_ne (tgt := 560) hx hb dL_acts_530 (by decide) (fun c_310 => ?_) (fun c_310 => ?_)
    · replace h := h.1 c_310
      refine lv_iconst (v := 0) hx hb dL_acts_560 (by decide) ?_
      exact j_L_acts_561 C0 _ _ _ _ _ _ _ _ _ _ _ _ _ _ _ _ _ h _ _ _ hw (lv_sub hl [1, 2, 3, 4, 5, 0] rfl)
    · replace h := h.2 c_310
      refine lv_aload_n hx hb dL_acts_533 rfl (lv_at hl 1 rfl) ?_
      refine lv_iload hx hb dL_acts_534 (lv_at hl 3 rfl) ?_
      refine lv_iconst (v := 5) hx hb dL_acts_536 (by decide) ?_
      refine x_cV (As := [.int x7, .int 5]) (rest := []) (F := (List.flatten [cM E a1 v2, cM E a2 v3, cM E a3 v4, cH E aH (h0 0) (h1 0) (h2 0) (h3 0) v5, cM E h0 v6, cM E h1 v7, cM E h2 v8, cM E h3 v9, cS E aS v10])) C0 hw (p_fl (ds := [cG aG (a0 0) (a1 0) (a2 0) (a3 0) (aH 0) (aS 0) v_298, cM E a0 v_299]) (List.Perm.refl _)) hl.1 0 6 rfl rfl (c_X6_stoneOf l E aG a0 a1 a2 a3 aH h0 h1 h2 h3 aS h) 2 gL_acts_X6_stoneOf rfl ⟨rfl, rfl⟩ (by decide +kernel) ⟨Nat.le_of_ble_eq_true rfl, Nat.le_of_ble_eq_true rfl⟩ rfl rfl (Nat.le_of_ble_eq_true rfl) dL_acts_537 ⟨Nat.zero_le _, Nat.zero_le _⟩ (fun r_300 u_309 H locs h hw => ?_)
      obtain ⟨v_301, v_302⟩ := u_309
      replace hw : mw E A s.heap H locs (List.flatten [cG aG (a0 0) (a1 0) (a2 0) (a3 0) (aH 0) (aS 0) v_301, cM E a0 v_302, cM E a1 v2, cM E a2 v3, cM E a3 v4, cH E aH (h0 0) (h1 0) (h2 0) (h3 0) v5, cM E h0 v6, cM E h1 v7, cM E h2 v8, cM E h3 v9, cS E aS v10]) := hw.perm (p_bk (ds := [cG aG (a0 0) (a1 0) (a2 0) (a3 0) (aH 0) (aS 0) v_301, cM E a0 v_302]) (List.Perm.refl _))
      refine lv_iload hx hb dL_acts_540 (lv_at hl 2 rfl) ?_
      refine lv_icmp_ne (tgt := 560) hx hb dL_acts_542 (by decide) (fun c_308 => ?_) (fun c_308 => ?_)
      · replace h := h.1 c_308
        refine lv_iconst (v := 0) hx hb dL_acts_560 (by decide) ?_
        exact j_L_acts_561 C0 _ _ _ _ _ _ _ _ _ _ _ _ _ _ _ _ _ h _ _ _ hw (lv_sub hl [1, 2, 3, 4, 5, 0] rfl)
      · replace h := h.2 c_308
        refine lv_aload_n hx hb dL_acts_545 rfl (lv_at hl 1 rfl) ?_
        refine lv_iload hx hb dL_acts_546 (lv_at hl 3 rfl) ?_
        refine lv_bipush (v := 6) hx hb dL_acts_548 (by decide) ?_
        refine x_cV (As := [.int x7, .int 6]) (rest := []) (F := (List.flatten [cM E a1 v2, cM E a2 v3, cM E a3 v4, cH E aH (h0 0) (h1 0) (h2 0) (h3 0) v5, cM E h0 v6, cM E h1 v7, cM E h2 v8, cM E h3 v9, cS E aS v10])) C0 hw (p_fl (ds := [cG aG (a0 0) (a1 0) (a2 0) (a3 0) (aH 0) (aS 0) v_301, cM E a0 v_302]) (List.Perm.refl _)) hl.1 0 6 rfl rfl (c_X6_stoneOf l E aG a0 a1 a2 a3 aH h0 h1 h2 h3 aS h) 2 gL_acts_X6_stoneOf rfl ⟨rfl, rfl⟩ (by decide +kernel) ⟨Nat.le_of_ble_eq_true rfl, Nat.le_of_ble_eq_true rfl⟩ rfl rfl (Nat.le_of_ble_eq_true rfl) dL_acts_550 ⟨Nat.zero_le _, Nat.zero_le _⟩ (fun r_303 u_307 H locs h hw => ?_)
        obtain ⟨v_304, v_305⟩ := u_307
        replace hw : mw E A s.heap H locs (List.flatten [cG aG (a0 0) (a1 0) (a2 0) (a3 0) (aH 0) (aS 0) v_304, cM E a0 v_305, cM E a1 v2, cM E a2 v3, cM E a3 v4, cH E aH (h0 0) (h1 0) (h2 0) (h3 0) v5, cM E h0 v6, cM E h1 v7, cM E h2 v8, cM E h3 v9, cS E aS v10]) := hw.perm (p_bk (ds := [cG aG (a0 0) (a1 0) (a2 0) (a3 0) (aH 0) (aS 0) v_304, cM E a0 v_305]) (List.Perm.refl _))
        refine lv_if_lt (tgt := 560) hx hb dL_acts_553 (by decide) (fun c_306 => ?_) (fun c_306 => ?_)
        · replace h := h.1 c_306
          refine lv_iconst (v := 0) hx hb dL_acts_560 (by decide) ?_
          exact j_L_acts_561 C0 _ _ _ _ _ _ _ _ _ _ _ _ _ _ _ _ _ h _ _ _ hw (lv_sub hl [1, 2, 3, 4, 5, 0] rfl)
        · replace h := h.2 c_306
          refine lv_iconst (v := 1) hx hb dL_acts_556 (by decide) ?_
          refine lv_goto (tgt := 561) hx hb dL_acts_557 (by decide) ?_
          exact j_L_acts_561 C0 _ _ _ _ _ _ _ _ _ _ _ _ _ _ _ _ _ h _ _ _ hw (lv_sub hl [1, 2, 3, 4, 5, 0] rfl)
set_option maxRecDepth 100000 in
set_option maxHeartbeats 4000000 in
theorem j_L_acts_443 {p : Program} {l : Launch} {e : Env} {s : State} {m : MethodId} {below : List Frame} {meth : Method} {c : Code} {E : EE} {A : Nat → Prop} {aG : Nat → Nat} {a0 : Nat → Nat} {a1 : Nat → Nat} {a2 : Nat → Nat} {a3 : Nat → Nat} {aH : Nat → Nat} {h0 : Nat → Nat} {h1 : Nat → Nat} {h2 : Nat → Nat} {h3 : Nat → Nat} {aS : Nat → Nat} {args : Array Value} (C0 : Cx E p s m args meth c A cL_acts 17 RL wsL_acts (some .boolean)) {post : Int32 → V → V → V → V → V → V → V → V → V → V → V → Prop}  : ∀ (q0 : Int32) (q1 : Int32) (v0 : V) (v1 : V) (v2 : V) (v3 : V) (v4 : V) (v5 : V) (v6 : V) (v7 : V) (v8 : V) (v9 : V) (v10 : V), sj_L_acts_443 post  q0 q1 v0 v1 v2 v3 v4 v5 v6 v7 v8 v9 v10 → ∀ (H : Heap) (locs : List Loc) (ls : Array Slot), mw E A s.heap H locs (List.flatten [cG aG (a0 0) (a1 0) (a2 0) (a3 0) (aH 0) (aS 0) v0, cM E a0 v1, cM E a1 v2, cM E a2 v3, cM E a3 v4, cH E aH (h0 0) (h1 0) (h2 0) (h3 0) v5, cM E h0 v6, cM E h1 v7, cM E h2 v8, cM E h3 v9, cS E aS v10]) → lv_has ls 17 [] → W p l e rmL_acts s m args below meth c H locs 0 0 (qI E A (fun r (u : V × V × V × V × V × V × V × V × V × V × V) => post r u.1 u.2.1 u.2.2.1 u.2.2.2.1 u.2.2.2.2.1 u.2.2.2.2.2.1 u.2.2.2.2.2.2.1 u.2.2.2.2.2.2.2.1 u.2.2.2.2.2.2.2.2.1 u.2.2.2.2.2.2.2.2.2.1 u.2.2.2.2.2.2.2.2.2.2) (fun (u : V × V × V × V × V × V × V × V × V × V × V) => (List.flatten [cG aG (a0 0) (a1 0) (a2 0) (a3 0) (aH 0) (aS 0) u.1, cM E a0 u.2.1, cM E a1 u.2.2.1, cM E a2 u.2.2.2.1, cM E a3 u.2.2.2.2.1, cH E aH (h0 0) (h1 0) (h2 0) (h3 0) u.2.2.2.2.2.1, cM E h0 u.2.2.2.2.2.2.1, cM E h1 u.2.2.2.2.2.2.2.1, cM E h2 u.2.2.2.2.2.2.2.2.1, cM E h3 u.2.2.2.2.2.2.2.2.2.1, cS E aS u.2.2.2.2.2.2.2.2.2.2])) below args s) (F0 m 443 ls [.int q1, .int q0]) := by
  have hx := C0.1
  have hb := C0.2.1
  intro q0 q1 v0 v1 v2 v3 v4 v5 v6 v7 v8 v9 v10 h H locs ls hw hl
  unfold sj_L_acts_443 at h
  refine lv_icmp_ne (tgt := 450) hx hb dL_acts_443 (by decide) (fun c_338 => ?_) (fun c_338 => ?_)
  · replace h := h.1 c_338
    refine lv_iconst (v := 0) hx hb dL_acts_450 (by decide) ?_
    exact x_retz C0 rfl ⟨v0, v1, v2, v3, v4, v5, v6, v7, v8, v9, v10⟩ hw h dL_acts_451
  · replace h := h.2 c_338
    refine lv_iconst (v := 1) hx hb dL_acts_446 (by decide) ?_
    refine lv_goto (tgt := 451) hx hb dL_acts_447 (by decide) ?_
    exact x_retz C0 rfl ⟨v0, v1, v2, v3, v4, v5, v6, v7, v8, v9, v10⟩ hw h dL_acts_451
set_option maxRecDepth 100000 in
set_option maxHeartbeats 4000000 in
theorem j_L_acts_417 {p : Program} {l : Launch} {e : Env} {s : State} {m : MethodId} {below : List Frame} {meth : Method} {c : Code} {E : EE} {A : Nat → Prop} {aG : Nat → Nat} {a0 : Nat → Nat} {a1 : Nat → Nat} {a2 : Nat → Nat} {a3 : Nat → Nat} {aH : Nat → Nat} {h0 : Nat → Nat} {h1 : Nat → Nat} {h2 : Nat → Nat} {h3 : Nat → Nat} {aS : Nat → Nat} {args : Array Value} (C0 : Cx E p s m args meth c A cL_acts 17 RL wsL_acts (some .boolean)) {post : Int32 → V → V → V → V → V → V → V → V → V → V → V → Prop}  : ∀ (q0 : Int32) (v0 : V) (v1 : V) (v2 : V) (v3 : V) (v4 : V) (v5 : V) (v6 : V) (v7 : V) (v8 : V) (v9 : V) (v10 : V), sj_L_acts_417 post  q0 v0 v1 v2 v3 v4 v5 v6 v7 v8 v9 v10 → ∀ (H : Heap) (locs : List Loc) (ls : Array Slot), mw E A s.heap H locs (List.flatten [cG aG (a0 0) (a1 0) (a2 0) (a3 0) (aH 0) (aS 0) v0, cM E a0 v1, cM E a1 v2, cM E a2 v3, cM E a3 v4, cH E aH (h0 0) (h1 0) (h2 0) (h3 0) v5, cM E h0 v6, cM E h1 v7, cM E h2 v8, cM E h3 v9, cS E aS v10]) → lv_has ls 17 [] → W p l e rmL_acts s m args below meth c H locs 0 0 (qI E A (fun r (u : V × V × V × V × V × V × V × V × V × V × V) => post r u.1 u.2.1 u.2.2.1 u.2.2.2.1 u.2.2.2.2.1 u.2.2.2.2.2.1 u.2.2.2.2.2.2.1 u.2.2.2.2.2.2.2.1 u.2.2.2.2.2.2.2.2.1 u.2.2.2.2.2.2.2.2.2.1 u.2.2.2.2.2.2.2.2.2.2) (fun (u : V × V × V × V × V × V × V × V × V × V × V) => (List.flatten [cG aG (a0 0) (a1 0) (a2 0) (a3 0) (aH 0) (aS 0) u.1, cM E a0 u.2.1, cM E a1 u.2.2.1, cM E a2 u.2.2.2.1, cM E a3 u.2.2.2.2.1, cH E aH (h0 0) (h1 0) (h2 0) (h3 0) u.2.2.2.2.2.1, cM E h0 u.2.2.2.2.2.2.1, cM E h1 u.2.2.2.2.2.2.2.1, cM E h2 u.2.2.2.2.2.2.2.2.1, cM E h3 u.2.2.2.2.2.2.2.2.2.1, cS E aS u.2.2.2.2.2.2.2.2.2.2])) below args s) (F0 m 417 ls [.int q0]) := by
  have hx := C0.1
  have hb := C0.2.1
  intro q0 v0 v1 v2 v3 v4 v5 v6 v7 v8 v9 v10 h H locs ls hw hl
  unfold sj_L_acts_417 at h
  refine x_ldc (v := (-10000001)) C0 1 rfl dL_acts_417 ?_
  refine lv_goto (tgt := 443) hx hb dL_acts_419 (by decide) ?_
  exact j_L_acts_443 C0 _ _ _ _ _ _ _ _ _ _ _ _ _ h _ _ _ hw (lv_sub hl [] rfl)
set_option maxRecDepth 100000 in
set_option maxHeartbeats 4000000 in
theorem j_L_acts_394 {p : Program} {l : Launch} {e : Env} {s : State} {m : MethodId} {below : List Frame} {meth : Method} {c : Code} {E : EE} {A : Nat → Prop} {aG : Nat → Nat} {a0 : Nat → Nat} {a1 : Nat → Nat} {a2 : Nat → Nat} {a3 : Nat → Nat} {aH : Nat → Nat} {h0 : Nat → Nat} {h1 : Nat → Nat} {h2 : Nat → Nat} {h3 : Nat → Nat} {aS : Nat → Nat} {args : Array Value} (C0 : Cx E p s m args meth c A cL_acts 17 RL wsL_acts (some .boolean)) {post : Int32 → V → V → V → V → V → V → V → V → V → V → V → Prop}  : ∀ (x11 : Int32) (x12 : Int32) (x13 : Int32) (x14 : Int32) (x15 : Int32) (x16 : Int32) (v0 : V) (v1 : V) (v2 : V) (v3 : V) (v4 : V) (v5 : V) (v6 : V) (v7 : V) (v8 : V) (v9 : V) (v10 : V), sj_L_acts_394 post  x11 x12 x13 x14 x15 x16 v0 v1 v2 v3 v4 v5 v6 v7 v8 v9 v10 → ∀ (H : Heap) (locs : List Loc) (ls : Array Slot), mw E A s.heap H locs (List.flatten [cG aG (a0 0) (a1 0) (a2 0) (a3 0) (aH 0) (aS 0) v0, cM E a0 v1, cM E a1 v2, cM E a2 v3, cM E a3 v4, cH E aH (h0 0) (h1 0) (h2 0) (h3 0) v5, cM E h0 v6, cM E h1 v7, cM E h2 v8, cM E h3 v9, cS E aS v10]) → lv_has ls 17 [(0, .ref (aG 0)), (11, .int x11), (12, .int x12), (13, .int x13), (14, .int x14), (15, .int x15), (16, .int x16)] → W p l e rmL_acts s m args below meth c H locs 0 0 (qI E A (fun r (u : V × V × V × V × V × V × V × V × V × V × V) => post r u.1 u.2.1 u.2.2.1 u.2.2.2.1 u.2.2.2.2.1 u.2.2.2.2.2.1 u.2.2.2.2.2.2.1 u.2.2.2.2.2.2.2.1 u.2.2.2.2.2.2.2.2.1 u.2.2.2.2.2.2.2.2.2.1 u.2.2.2.2.2.2.2.2.2.2) (fun (u : V × V × V × V × V × V × V × V × V × V × V) => (List.flatten [cG aG (a0 0) (a1 0) (a2 0) (a3 0) (aH 0) (aS 0) u.1, cM E a0 u.2.1, cM E a1 u.2.2.1, cM E a2 u.2.2.2.1, cM E a3 u.2.2.2.2.1, cH E aH (h0 0) (h1 0) (h2 0) (h3 0) u.2.2.2.2.2.1, cM E h0 u.2.2.2.2.2.2.1, cM E h1 u.2.2.2.2.2.2.2.1, cM E h2 u.2.2.2.2.2.2.2.2.1, cM E h3 u.2.2.2.2.2.2.2.2.2.1, cS E aS u.2.2.2.2.2.2.2.2.2.2])) below args s) (F0 m 394 ls []) := by
  have hx := C0.1
  have hb := C0.2.1
  intro x11 x12 x13 x14 x15 x16 v0 v1 v2 v3 v4 v5 v6 v7 v8 v9 v10 h H locs ls hw hl
  unfold sj_L_acts_394 at h
  refine lv_aload_n hx hb dL_acts_394 rfl (lv_at hl 0 rfl) ?_
  refine lv_iload hx hb dL_acts_395 (lv_at hl 1 rfl) ?_
  refine lv_iload hx hb dL_acts_397 (lv_at hl 2 rfl) ?_
  refine lv_iload hx hb dL_acts_399 (lv_at hl 3 rfl) ?_
  refine lv_iload hx hb dL_acts_401 (lv_at hl 4 rfl) ?_
  refine x_cV (As := [.int x11, .int x12, .int x13, .int x14]) (rest := []) (F := (List.flatten [cM E a2 v3, cM E a3 v4, cS E aS v10])) C0 hw (p_fl (ds := [cG aG (a0 0) (a1 0) (a2 0) (a3 0) (aH 0) (aS 0) v0, cM E a0 v1, cM E a1 v2, cH E aH (h0 0) (h1 0) (h2 0) (h3 0) v5, cM E h0 v6, cM E h1 v7, cM E h2 v8, cM E h3 v9]) ((p_pk _ 0 _ rfl).trans (List.Perm.cons _ ((p_pk _ 0 _ rfl).trans (List.Perm.cons _ ((p_pk _ 0 _ rfl).trans (List.Perm.cons _ ((p_pk _ 2 _ rfl).trans (List.Perm.cons _ ((p_pk _ 2 _ rfl).trans (List.Perm.cons _ ((p_pk _ 2 _ rfl).trans (List.Perm.cons _ ((p_pk _ 2 _ rfl).trans (List.Perm.cons _ ((p_pk _ 2 _ rfl).trans (List.Perm.cons _ (List.Perm.refl _)))))))))))))))))) hl.1 0 6 rfl rfl (c_X6_rate l E aG a0 a1 a2 a3 aH h0 h1 h2 h3 aS h) 4 gL_acts_X6_rate rfl ⟨rfl, rfl⟩ (by decide +kernel) ⟨Nat.le_of_ble_eq_true rfl, Nat.le_of_ble_eq_true rfl⟩ rfl rfl (Nat.le_of_ble_eq_true rfl) dL_acts_403 ⟨Nat.zero_le _, Nat.zero_le _⟩ (fun r_329 u_343 H locs h hw => ?_)
  obtain ⟨v_330, v_331, v_332, v_333, v_334, v_335, v_336, v_337⟩ := u_343
  replace hw : mw E A s.heap H locs (List.flatten [cG aG (a0 0) (a1 0) (a2 0) (a3 0) (aH 0) (aS 0) v_330, cM E a0 v_331, cM E a1 v_332, cM E a2 v3, cM E a3 v4, cH E aH (h0 0) (h1 0) (h2 0) (h3 0) v_333, cM E h0 v_334, cM E h1 v_335, cM E h2 v_336, cM E h3 v_337, cS E aS v10]) := hw.perm (p_bk (ds := [cG aG (a0 0) (a1 0) (a2 0) (a3 0) (aH 0) (aS 0) v_330, cM E a0 v_331, cM E a1 v_332, cH E aH (h0 0) (h1 0) (h2 0) (h3 0) v_333, cM E h0 v_334, cM E h1 v_335, cM E h2 v_336, cM E h3 v_337]) ((p_pk _ 0 _ rfl).trans (List.Perm.cons _ ((p_pk _ 0 _ rfl).trans (List.Perm.cons _ ((p_pk _ 0 _ rfl).trans (List.Perm.cons _ ((p_pk _ 2 _ rfl).trans (List.Perm.cons _ ((p_pk _ 2 _ rfl).trans (List.Perm.cons _ ((p_pk _ 2 _ rfl).trans (List.Perm.cons _ ((p_pk _ 2 _ rfl).trans (List.Perm.cons _ ((p_pk _ 2 _ rfl).trans (List.Perm.cons _ (List.Perm.refl _))))))))))))))))))
  refine lv_iload hx hb dL_acts_406 (lv_at hl 1 rfl) ?_
  refine lv_iconst (v := 5) hx hb dL_acts_408 (by decide) ?_
  refine lv_icmp_eq (tgt := 417) hx hb dL_acts_409 (by decide) (fun c_342 => ?_) (fun c_342 => ?_)
  · replace h := h.1 c_342
    exact j_L_acts_417 C0 _ _ _ _ _ _ _ _ _ _ _ _ h _ _ _ hw (lv_sub hl [] rfl)
  · replace h := h.2 c_342
    refine lv_iload hx hb dL_acts_412 (lv_at hl 4 rfl) ?_
    refine lv_if_ne (tgt := 422) hx hb dL_acts_414 (by decide) (fun c_341 => ?_) (fun c_341 => ?_)
    · replace h := h.1 c_341
      refine lv_iload hx hb dL_acts_422 (lv_at hl 6 rfl) ?_
      refine lv_if_eq (tgt := 432) hx hb dL_acts_424 (by decide) (fun c_340 => ?_) (fun c_340 => ?_)
      · replace h := h.1 c_340
        refine lv_iload hx hb dL_acts_432 (lv_at hl 5 rfl) ?_
        refine lv_if_ge (tgt := 441) hx hb dL_acts_434 (by decide) (fun c_339 => ?_) (fun c_339 => ?_)
        · replace h := h.1 c_339
          refine lv_iload hx hb dL_acts_441 (lv_at hl 5 rfl) ?_
          exact j_L_acts_443 C0 _ _ _ _ _ _ _ _ _ _ _ _ _ h _ _ _ hw (lv_sub hl [] rfl)
        · replace h := h.2 c_339
          refine lv_iconst (v := 0) hx hb dL_acts_437 (by decide) ?_
          refine lv_goto (tgt := 443) hx hb dL_acts_438 (by decide) ?_
          exact j_L_acts_443 C0 _ _ _ _ _ _ _ _ _ _ _ _ _ h _ _ _ hw (lv_sub hl [] rfl)
      · replace h := h.2 c_340
        refine x_ldc (v := (-10000003)) C0 2 rfl dL_acts_427 ?_
        refine lv_goto (tgt := 443) hx hb dL_acts_429 (by decide) ?_
        exact j_L_acts_443 C0 _ _ _ _ _ _ _ _ _ _ _ _ _ h _ _ _ hw (lv_sub hl [] rfl)
    · replace h := h.2 c_341
      exact j_L_acts_417 C0 _ _ _ _ _ _ _ _ _ _ _ _ h _ _ _ hw (lv_sub hl [] rfl)
set_option maxRecDepth 100000 in
set_option maxHeartbeats 4000000 in
theorem j_L_acts_385 {p : Program} {l : Launch} {e : Env} {s : State} {m : MethodId} {below : List Frame} {meth : Method} {c : Code} {E : EE} {A : Nat → Prop} {aG : Nat → Nat} {a0 : Nat → Nat} {a1 : Nat → Nat} {a2 : Nat → Nat} {a3 : Nat → Nat} {aH : Nat → Nat} {h0 : Nat → Nat} {h1 : Nat → Nat} {h2 : Nat → Nat} {h3 : Nat → Nat} {aS : Nat → Nat} {args : Array Value} (C0 : Cx E p s m args meth c A cL_acts 17 RL wsL_acts (some .boolean)) {post : Int32 → V → V → V → V → V → V → V → V → V → V → V → Prop}  : ∀ (q0 : Int32) (q1 : Int32) (v0 : V) (v1 : V) (v2 : V) (v3 : V) (v4 : V) (v5 : V) (v6 : V) (v7 : V) (v8 : V) (v9 : V) (v10 : V), sj_L_acts_385 post  q0 q1 v0 v1 v2 v3 v4 v5 v6 v7 v8 v9 v10 → ∀ (H : Heap) (locs : List Loc) (ls : Array Slot), mw E A s.heap H locs (List.flatten [cG aG (a0 0) (a1 0) (a2 0) (a3 0) (aH 0) (aS 0) v0, cM E a0 v1, cM E a1 v2, cM E a2 v3, cM E a3 v4, cH E aH (h0 0) (h1 0) (h2 0) (h3 0) v5, cM E h0 v6, cM E h1 v7, cM E h2 v8, cM E h3 v9, cS E aS v10]) → lv_has ls 17 [] → W p l e rmL_acts s m args below meth c H locs 0 0 (qI E A (fun r (u : V × V × V × V × V × V × V × V × V × V × V) => post r u.1 u.2.1 u.2.2.1 u.2.2.2.1 u.2.2.2.2.1 u.2.2.2.2.2.1 u.2.2.2.2.2.2.1 u.2.2.2.2.2.2.2.1 u.2.2.2.2.2.2.2.2.1 u.2.2.2.2.2.2.2.2.2.1 u.2.2.2.2.2.2.2.2.2.2) (fun (u : V × V × V × V × V × V × V × V × V × V × V) => (List.flatten [cG aG (a0 0) (a1 0) (a2 0) (a3 0) (aH 0) (aS 0) u.1, cM E a0 u.2.1, cM E a1 u.2.2.1, cM E a2 u.2.2.2.1, cM E a3 u.2.2.2.2.1, cH E aH (h0 0) (h1 0) (h2 0) (h3 0) u.2.2.2.2.2.1, cM E h0 u.2.2.2.2.2.2.1, cM E h1 u.2.2.2.2.2.2.2.1, cM E h2 u.2.2.2.2.2.2.2.2.1, cM E h3 u.2.2.2.2.2.2.2.2.2.1, cS E aS u.2.2.2.2.2.2.2.2.2.2])) below args s) (F0 m 385 ls [.int q1, .int q0]) := by
  have hx := C0.1
  have hb := C0.2.1
  intro q0 q1 v0 v1 v2 v3 v4 v5 v6 v7 v8 v9 v10 h H locs ls hw hl
  unfold sj_L_acts_385 at h
  refine lv_icmp_ne (tgt := 392) hx hb dL_acts_385 (by decide) (fun c_354 => ?_) (fun c_354 => ?_)
  · replace h := h.1 c_354
    refine lv_iconst (v := 0) hx hb dL_acts_392 (by decide) ?_
    exact x_retz C0 rfl ⟨v0, v1, v2, v3, v4, v5, v6, v7, v8, v9, v10⟩ hw h dL_acts_393
  · replace h := h.2 c_354
    refine lv_iconst (v := 1) hx hb dL_acts_388 (by decide) ?_
    refine lv_goto (tgt := 393) hx hb dL_acts_389 (by decide) ?_
    exact x_retz C0 rfl ⟨v0, v1, v2, v3, v4, v5, v6, v7, v8, v9, v10⟩ hw h dL_acts_393
set_option maxRecDepth 100000 in
set_option maxHeartbeats 4000000 in
theorem j_L_acts_333 {p : Program} {l : Launch} {e : Env} {s : State} {m : MethodId} {below : List Frame} {meth : Method} {c : Code} {E : EE} {A : Nat → Prop} {aG : Nat → Nat} {a0 : Nat → Nat} {a1 : Nat → Nat} {a2 : Nat → Nat} {a3 : Nat → Nat} {aH : Nat → Nat} {h0 : Nat → Nat} {h1 : Nat → Nat} {h2 : Nat → Nat} {h3 : Nat → Nat} {aS : Nat → Nat} {args : Array Value} (C0 : Cx E p s m args meth c A cL_acts 17 RL wsL_acts (some .boolean)) {post : Int32 → V → V → V → V → V → V → V → V → V → V → V → Prop}  : ∀ (x2 : Int32) (x3 : Int32) (x11 : Int32) (x12 : Int32) (x13 : Int32) (x14 : Int32) (x15 : Int32) (q0 : Int32) (v0 : V) (v1 : V) (v2 : V) (v3 : V) (v4 : V) (v5 : V) (v6 : V) (v7 : V) (v8 : V) (v9 : V) (v10 : V), sj_L_acts_333 post  x2 x3 x11 x12 x13 x14 x15 q0 v0 v1 v2 v3 v4 v5 v6 v7 v8 v9 v10 → ∀ (H : Heap) (locs : List Loc) (ls : Array Slot), mw E A s.heap H locs (List.flatten [cG aG (a0 0) (a1 0) (a2 0) (a3 0) (aH 0) (aS 0) v0, cM E a0 v1, cM E a1 v2, cM E a2 v3, cM E a3 v4, cH E aH (h0 0) (h1 0) (h2 0) (h3 0) v5, cM E h0 v6, cM E h1 v7, cM E h2 v8, cM E h3 v9, cS E aS v10]) → lv_has ls 17 [(0, .ref (aG 0)), (2, .int x2), (3, .int x3), (11, .int x11), (12, .int x12), (13, .int x13), (14, .int x14), (15, .int x15)] → W p l e rmL_acts s m args below meth c H locs 0 0 (qI E A (fun r (u : V × V × V × V × V × V × V × V × V × V × V) => post r u.1 u.2.1 u.2.2.1 u.2.2.2.1 u.2.2.2.2.1 u.2.2.2.2.2.1 u.2.2.2.2.2.2.1 u.2.2.2.2.2.2.2.1 u.2.2.2.2.2.2.2.2.1 u.2.2.2.2.2.2.2.2.2.1 u.2.2.2.2.2.2.2.2.2.2) (fun (u : V × V × V × V × V × V × V × V × V × V × V) => (List.flatten [cG aG (a0 0) (a1 0) (a2 0) (a3 0) (aH 0) (aS 0) u.1, cM E a0 u.2.1, cM E a1 u.2.2.1, cM E a2 u.2.2.2.1, cM E a3 u.2.2.2.2.1, cH E aH (h0 0) (h1 0) (h2 0) (h3 0) u.2.2.2.2.2.1, cM E h0 u.2.2.2.2.2.2.1, cM E h1 u.2.2.2.2.2.2.2.1, cM E h2 u.2.2.2.2.2.2.2.2.1, cM E h3 u.2.2.2.2.2.2.2.2.2.1, cS E aS u.2.2.2.2.2.2.2.2.2.2])) below args s) (F0 m 333 ls [.int q0]) := by
  have hx := C0.1
  have hb := C0.2.1
  intro x2 x3 x11 x12 x13 x14 x15 q0 v0 v1 v2 v3 v4 v5 v6 v7 v8 v9 v10 h H locs ls hw hl
  unfold sj_L_acts_333 at h
  refine lv_istore (lv' := [(16, .int q0), (0, .ref (aG 0)), (2, .int x2), (3, .int x3), (11, .int x11), (12, .int x12), (13, .int x13), (14, .int x14), (15, .int x15)]) hx hb dL_acts_333 hl (by decide) rfl (fun ls hl => ?_)
  refine lv_iload_n hx hb dL_acts_335 rfl (lv_at hl 3 rfl) ?_
  refine lv_bipush (v := 6) hx hb dL_acts_336 (by decide) ?_
  refine lv_icmp_ne (tgt := 394) hx hb dL_acts_338 (by decide) (fun c_360 => ?_) (fun c_360 => ?_)
  · replace h := h.1 c_360
    exact j_L_acts_394 C0 _ _ _ _ _ _ _ _ _ _ _ _ _ _ _ _ _ h _ _ _ hw (lv_sub hl [1, 4, 5, 6, 7, 8, 0] rfl)
  · replace h := h.2 c_360
    refine lv_iload_n hx hb dL_acts_341 rfl (lv_at hl 2 rfl) ?_
    refine lv_bipush (v := 20) hx hb dL_acts_342 (by decide) ?_
    refine lv_ishr hx hb dL_acts_344 ?_
    refine lv_iconst (v := 3) hx hb dL_acts_345 (by decide) ?_
    refine x_cS (As := [.int (x2 >>> (20 &&& 31)), .int 3]) (rest := []) (F := (List.flatten [cG aG (a0 0) (a1 0) (a2 0) (a3 0) (aH 0) (aS 0) v0, cM E a0 v1, cM E a1 v2, cM E a2 v3, cM E a3 v4, cH E aH (h0 0) (h1 0) (h2 0) (h3 0) v5, cM E h0 v6, cM E h1 v7, cM E h2 v8, cM E h3 v9, cS E aS v10])) C0 hw (p_non _) hl.1 (c_L_low l E  h) 2 gL_acts_L_low rfl ⟨rfl, rfl⟩ (by decide +kernel) ⟨Nat.le_of_ble_eq_true rfl, Nat.le_of_ble_eq_true rfl⟩ rfl rfl (Nat.le_of_ble_eq_true rfl) dL_acts_346 ⟨Nat.zero_le _, Nat.zero_le _⟩ (fun r_344 _u H locs h (hw : mw E A s.heap H locs (List.flatten [cG aG (a0 0) (a1 0) (a2 0) (a3 0) (aH 0) (aS 0) v0, cM E a0 v1, cM E a1 v2, cM E a2 v3, cM E a3 v4, cH E aH (h0 0) (h1 0) (h2 0) (h3 0) v5, cM E h0 v6, cM E h1 v7, cM E h2 v8, cM E h3 v9, cS E aS v10])) => ?_)
    refine lv_if_ne (tgt := 394) hx hb dL_acts_349 (by decide) (fun c_358 => ?_) (fun c_358 => ?_)
    · replace h := h.1 c_358
      exact j_L_acts_394 C0 _ _ _ _ _ _ _ _ _ _ _ _ _ _ _ _ _ h _ _ _ hw (lv_sub hl [1, 4, 5, 6, 7, 8, 0] rfl)
    · replace h := h.2 c_358
      refine lv_aload_n hx hb dL_acts_352 rfl (lv_at hl 1 rfl) ?_
      refine lv_iload hx hb dL_acts_353 (lv_at hl 4 rfl) ?_
      refine lv_iload hx hb dL_acts_355 (lv_at hl 5 rfl) ?_
      refine lv_iload hx hb dL_acts_357 (lv_at hl 6 rfl) ?_
      refine x_cV (As := [.int x11, .int x12, .int x13]) (rest := []) (F := (List.flatten [cM E a2 v3, cM E a3 v4, cS E aS v10])) C0 hw (p_fl (ds := [cG aG (a0 0) (a1 0) (a2 0) (a3 0) (aH 0) (aS 0) v0, cM E a0 v1, cM E a1 v2, cH E aH (h0 0) (h1 0) (h2 0) (h3 0) v5, cM E h0 v6, cM E h1 v7, cM E h2 v8, cM E h3 v9]) ((p_pk _ 0 _ rfl).trans (List.Perm.cons _ ((p_pk _ 0 _ rfl).trans (List.Perm.cons _ ((p_pk _ 0 _ rfl).trans (List.Perm.cons _ ((p_pk _ 2 _ rfl).trans (List.Perm.cons _ ((p_pk _ 2 _ rfl).trans (List.Perm.cons _ ((p_pk _ 2 _ rfl).trans (List.Perm.cons _ ((p_pk _ 2 _ rfl).trans (List.Perm.cons _ ((p_pk _ 2 _ rfl).trans (List.Perm.cons _ (List.Perm.refl _)))))))))))))))))) hl.1 0 6 rfl rfl (c_X6_unrate l E aG a0 a1 a2 a3 aH h0 h1 h2 h3 aS h) 3 gL_acts_X6_unrate rfl ⟨rfl, rfl⟩ (by decide +kernel) ⟨Nat.le_of_ble_eq_true rfl, Nat.le_of_ble_eq_true rfl⟩ rfl rfl (Nat.le_of_ble_eq_true rfl) dL_acts_359 ⟨Nat.zero_le _, Nat.zero_le _⟩ (fun r_345 u_357 H locs h hw => ?_)
      obtain ⟨v_346, v_347, v_348, v_349, v_350, v_351, v_352, v_353⟩ := u_357
      replace hw : mw E A s.heap H locs (List.flatten [cG aG (a0 0) (a1 0) (a2 0) (a3 0) (aH 0) (aS 0) v_346, cM E a0 v_347, cM E a1 v_348, cM E a2 v3, cM E a3 v4, cH E aH (h0 0) (h1 0) (h2 0) (h3 0) v_349, cM E h0 v_350, cM E h1 v_351, cM E h2 v_352, cM E h3 v_353, cS E aS v10]) := hw.perm (p_bk (ds := [cG aG (a0 0) (a1 0) (a2 0) (a3 0) (aH 0) (aS 0) v_346, cM E a0 v_347, cM E a1 v_348, cH E aH (h0 0) (h1 0) (h2 0) (h3 0) v_349, cM E h0 v_350, cM E h1 v_351, cM E h2 v_352, cM E h3 v_353]) ((p_pk _ 0 _ rfl).trans (List.Perm.cons _ ((p_pk _ 0 _ rfl).trans (List.Perm.cons _ ((p_pk _ 0 _ rfl).trans (List.Perm.cons _ ((p_pk _ 2 _ rfl).trans (List.Perm.cons _ ((p_pk _ 2 _ rfl).trans (List.Perm.cons _ ((p_pk _ 2 _ rfl).trans (List.Perm.cons _ ((p_pk _ 2 _ rfl).trans (List.Perm.cons _ ((p_pk _ 2 _ rfl).trans (List.Perm.cons _ (List.Perm.refl _))))))))))))))))))
      refine lv_iload hx hb dL_acts_362 (lv_at hl 4 rfl) ?_
      refine lv_iconst (v := 5) hx hb dL_acts_364 (by decide) ?_
      refine lv_icmp_ne (tgt := 373) hx hb dL_acts_365 (by decide) (fun c_356 => ?_) (fun c_356 => ?_)
      · replace h := h.1 c_356
        refine lv_iload hx hb dL_acts_373 (lv_at hl 8 rfl) ?_
        refine lv_if_ge (tgt := 383) hx hb dL_acts_375 (by decide) (fun c_355 => ?_) (fun c_355 => ?_)
        · replace h := h.1 c_355
          refine lv_iload hx hb dL_acts_383 (lv_at hl 8 rfl) ?_
          exact j_L_acts_385 C0 _ _ _ _ _ _ _ _ _ _ _ _ _ h _ _ _ hw (lv_sub hl [] rfl)
        · replace h := h.2 c_355
          refine x_ldc (v := (-10000002)) C0 3 rfl dL_acts_378 ?_
          refine lv_goto (tgt := 385) hx hb dL_acts_380 (by decide) ?_
          exact j_L_acts_385 C0 _ _ _ _ _ _ _ _ _ _ _ _ _ h _ _ _ hw (lv_sub hl [] rfl)
      · replace h := h.2 c_356
        refine x_ldc (v := (-10000001)) C0 1 rfl dL_acts_368 ?_
        refine lv_goto (tgt := 385) hx hb dL_acts_370 (by decide) ?_
        exact j_L_acts_385 C0 _ _ _ _ _ _ _ _ _ _ _ _ _ h _ _ _ hw (lv_sub hl [] rfl)
set_option maxRecDepth 100000 in
set_option maxHeartbeats 4000000 in
theorem j_L_acts_310 {p : Program} {l : Launch} {e : Env} {s : State} {m : MethodId} {below : List Frame} {meth : Method} {c : Code} {E : EE} {A : Nat → Prop} {aG : Nat → Nat} {a0 : Nat → Nat} {a1 : Nat → Nat} {a2 : Nat → Nat} {a3 : Nat → Nat} {aH : Nat → Nat} {h0 : Nat → Nat} {h1 : Nat → Nat} {h2 : Nat → Nat} {h3 : Nat → Nat} {aS : Nat → Nat} {args : Array Value} (C0 : Cx E p s m args meth c A cL_acts 17 RL wsL_acts (some .boolean)) {post : Int32 → V → V → V → V → V → V → V → V → V → V → V → Prop}  : ∀ (x2 : Int32) (x3 : Int32) (x11 : Int32) (x12 : Int32) (x13 : Int32) (x14 : Int32) (q0 : Int32) (v0 : V) (v1 : V) (v2 : V) (v3 : V) (v4 : V) (v5 : V) (v6 : V) (v7 : V) (v8 : V) (v9 : V) (v10 : V), sj_L_acts_310 post  x2 x3 x11 x12 x13 x14 q0 v0 v1 v2 v3 v4 v5 v6 v7 v8 v9 v10 → ∀ (H : Heap) (locs : List Loc) (ls : Array Slot), mw E A s.heap H locs (List.flatten [cG aG (a0 0) (a1 0) (a2 0) (a3 0) (aH 0) (aS 0) v0, cM E a0 v1, cM E a1 v2, cM E a2 v3, cM E a3 v4, cH E aH (h0 0) (h1 0) (h2 0) (h3 0) v5, cM E h0 v6, cM E h1 v7, cM E h2 v8, cM E h3 v9, cS E aS v10]) → lv_has ls 17 [(0, .ref (aG 0)), (2, .int x2), (3, .int x3), (11, .int x11), (12, .int x12), (13, .int x13), (14, .int x14)] → W p l e rmL_acts s m args below meth c H locs 0 0 (qI E A (fun r (u : V × V × V × V × V × V × V × V × V × V × V) => post r u.1 u.2.1 u.2.2.1 u.2.2.2.1 u.2.2.2.2.1 u.2.2.2.2.2.1 u.2.2.2.2.2.2.1 u.2.2.2.2.2.2.2.1 u.2.2.2.2.2.2.2.2.1 u.2.2.2.2.2.2.2.2.2.1 u.2.2.2.2.2.2.2.2.2.2) (fun (u : V × V × V × V × V × V × V × V × V × V × V) => (List.flatten [cG aG (a0 0) (a1 0) (a2 0) (a3 0) (aH 0) (aS 0) u.1, cM E a0 u.2.1, cM E a1 u.2.2.1, cM E a2 u.2.2.2.1, cM E a3 u.2.2.2.2.1, cH E aH (h0 0) (h1 0) (h2 0) (h3 0) u.2.2.2.2.2.1, cM E h0 u.2.2.2.2.2.2.1, cM E h1 u.2.2.2.2.2.2.2.1, cM E h2 u.2.2.2.2.2.2.2.2.1, cM E h3 u.2.2.2.2.2.2.2.2.2.1, cS E aS u.2.2.2.2.2.2.2.2.2.2])) below args s) (F0 m 310 ls [.int q0]) := by
  have hx := C0.1
  have hb := C0.2.1
  intro x2 x3 x11 x12 x13 x14 q0 v0 v1 v2 v3 v4 v5 v6 v7 v8 v9 v10 h H locs ls hw hl
  unfold sj_L_acts_310 at h
  refine lv_istore (lv' := [(15, .int q0), (0, .ref (aG 0)), (2, .int x2), (3, .int x3), (11, .int x11), (12, .int x12), (13, .int x13), (14, .int x14)]) hx hb dL_acts_310 hl (by decide) rfl (fun ls hl => ?_)
  refine lv_iload hx hb dL_acts_312 (lv_at hl 0 rfl) ?_
  refine lv_if_ge (tgt := 332) hx hb dL_acts_314 (by decide) (fun c_368 => ?_) (fun c_368 => ?_)
  · replace h := h.1 c_368
    refine lv_iconst (v := 0) hx hb dL_acts_332 (by decide) ?_
    exact j_L_acts_333 C0 _ _ _ _ _ _ _ _ _ _ _ _ _ _ _ _ _ _ _ h _ _ _ hw (lv_sub hl [1, 2, 3, 4, 5, 6, 7, 0] rfl)
  · replace h := h.2 c_368
    refine lv_aload_n hx hb dL_acts_317 rfl (lv_at hl 1 rfl) ?_
    refine lv_bipush (v := 6) hx hb dL_acts_318 (by decide) ?_
    refine x_cV (As := [.int 6]) (rest := []) (F := (List.flatten [cM E a1 v2, cM E a2 v3, cM E a3 v4, cM E h0 v6, cM E h1 v7, cM E h2 v8, cM E h3 v9])) C0 hw (p_fl (ds := [cG aG (a0 0) (a1 0) (a2 0) (a3 0) (aH 0) (aS 0) v0, cM E a0 v1, cH E aH (h0 0) (h1 0) (h2 0) (h3 0) v5, cS E aS v10]) ((p_pk _ 0 _ rfl).trans (List.Perm.cons _ ((p_pk _ 0 _ rfl).trans (List.Perm.cons _ ((p_pk _ 3 _ rfl).trans (List.Perm.cons _ ((p_pk _ 7 _ rfl).trans (List.Perm.cons _ (List.Perm.refl _)))))))))) hl.1 0 6 rfl rfl (c_X6_count l E aG a0 a1 a2 a3 aH h0 h1 h2 h3 aS h) 1 gL_acts_X6_count rfl ⟨rfl, rfl⟩ (by decide +kernel) ⟨Nat.le_of_ble_eq_true rfl, Nat.le_of_ble_eq_true rfl⟩ rfl rfl (Nat.le_of_ble_eq_true rfl) dL_acts_320 ⟨Nat.zero_le _, Nat.zero_le _⟩ (fun r_361 u_367 H locs h hw => ?_)
    obtain ⟨v_362, v_363, v_364, v_365⟩ := u_367
    replace hw : mw E A s.heap H locs (List.flatten [cG aG (a0 0) (a1 0) (a2 0) (a3 0) (aH 0) (aS 0) v_362, cM E a0 v_363, cM E a1 v2, cM E a2 v3, cM E a3 v4, cH E aH (h0 0) (h1 0) (h2 0) (h3 0) v_364, cM E h0 v6, cM E h1 v7, cM E h2 v8, cM E h3 v9, cS E aS v_365]) := hw.perm (p_bk (ds := [cG aG (a0 0) (a1 0) (a2 0) (a3 0) (aH 0) (aS 0) v_362, cM E a0 v_363, cH E aH (h0 0) (h1 0) (h2 0) (h3 0) v_364, cS E aS v_365]) ((p_pk _ 0 _ rfl).trans (List.Perm.cons _ ((p_pk _ 0 _ rfl).trans (List.Perm.cons _ ((p_pk _ 3 _ rfl).trans (List.Perm.cons _ ((p_pk _ 7 _ rfl).trans (List.Perm.cons _ (List.Perm.refl _))))))))))
    refine lv_bipush (v := 24) hx hb dL_acts_323 (by decide) ?_
    refine lv_icmp_ne (tgt := 332) hx hb dL_acts_325 (by decide) (fun c_366 => ?_) (fun c_366 => ?_)
    · replace h := h.1 c_366
      refine lv_iconst (v := 0) hx hb dL_acts_332 (by decide) ?_
      exact j_L_acts_333 C0 _ _ _ _ _ _ _ _ _ _ _ _ _ _ _ _ _ _ _ h _ _ _ hw (lv_sub hl [1, 2, 3, 4, 5, 6, 7, 0] rfl)
    · replace h := h.2 c_366
      refine lv_iconst (v := 1) hx hb dL_acts_328 (by decide) ?_
      refine lv_goto (tgt := 333) hx hb dL_acts_329 (by decide) ?_
      exact j_L_acts_333 C0 _ _ _ _ _ _ _ _ _ _ _ _ _ _ _ _ _ _ _ h _ _ _ hw (lv_sub hl [1, 2, 3, 4, 5, 6, 7, 0] rfl)
set_option maxRecDepth 100000 in
set_option maxHeartbeats 4000000 in
theorem j_L_acts_287 {p : Program} {l : Launch} {e : Env} {s : State} {m : MethodId} {below : List Frame} {meth : Method} {c : Code} {E : EE} {A : Nat → Prop} {aG : Nat → Nat} {a0 : Nat → Nat} {a1 : Nat → Nat} {a2 : Nat → Nat} {a3 : Nat → Nat} {aH : Nat → Nat} {h0 : Nat → Nat} {h1 : Nat → Nat} {h2 : Nat → Nat} {h3 : Nat → Nat} {aS : Nat → Nat} {args : Array Value} (C0 : Cx E p s m args meth c A cL_acts 17 RL wsL_acts (some .boolean)) {post : Int32 → V → V → V → V → V → V → V → V → V → V → V → Prop}  : ∀ (x2 : Int32) (x3 : Int32) (x11 : Int32) (x12 : Int32) (x13 : Int32) (q0 : Int32) (v0 : V) (v1 : V) (v2 : V) (v3 : V) (v4 : V) (v5 : V) (v6 : V) (v7 : V) (v8 : V) (v9 : V) (v10 : V), sj_L_acts_287 post  x2 x3 x11 x12 x13 q0 v0 v1 v2 v3 v4 v5 v6 v7 v8 v9 v10 → ∀ (H : Heap) (locs : List Loc) (ls : Array Slot), mw E A s.heap H locs (List.flatten [cG aG (a0 0) (a1 0) (a2 0) (a3 0) (aH 0) (aS 0) v0, cM E a0 v1, cM E a1 v2, cM E a2 v3, cM E a3 v4, cH E aH (h0 0) (h1 0) (h2 0) (h3 0) v5, cM E h0 v6, cM E h1 v7, cM E h2 v8, cM E h3 v9, cS E aS v10]) → lv_has ls 17 [(0, .ref (aG 0)), (2, .int x2), (3, .int x3), (11, .int x11), (12, .int x12), (13, .int x13)] → W p l e rmL_acts s m args below meth c H locs 0 0 (qI E A (fun r (u : V × V × V × V × V × V × V × V × V × V × V) => post r u.1 u.2.1 u.2.2.1 u.2.2.2.1 u.2.2.2.2.1 u.2.2.2.2.2.1 u.2.2.2.2.2.2.1 u.2.2.2.2.2.2.2.1 u.2.2.2.2.2.2.2.2.1 u.2.2.2.2.2.2.2.2.2.1 u.2.2.2.2.2.2.2.2.2.2) (fun (u : V × V × V × V × V × V × V × V × V × V × V) => (List.flatten [cG aG (a0 0) (a1 0) (a2 0) (a3 0) (aH 0) (aS 0) u.1, cM E a0 u.2.1, cM E a1 u.2.2.1, cM E a2 u.2.2.2.1, cM E a3 u.2.2.2.2.1, cH E aH (h0 0) (h1 0) (h2 0) (h3 0) u.2.2.2.2.2.1, cM E h0 u.2.2.2.2.2.2.1, cM E h1 u.2.2.2.2.2.2.2.1, cM E h2 u.2.2.2.2.2.2.2.2.1, cM E h3 u.2.2.2.2.2.2.2.2.2.1, cS E aS u.2.2.2.2.2.2.2.2.2.2])) below args s) (F0 m 287 ls [.int q0]) := by
  have hx := C0.1
  have hb := C0.2.1
  intro x2 x3 x11 x12 x13 q0 v0 v1 v2 v3 v4 v5 v6 v7 v8 v9 v10 h H locs ls hw hl
  unfold sj_L_acts_287 at h
  refine lv_istore (lv' := [(14, .int q0), (0, .ref (aG 0)), (2, .int x2), (3, .int x3), (11, .int x11), (12, .int x12), (13, .int x13)]) hx hb dL_acts_287 hl (by decide) rfl (fun ls hl => ?_)
  refine lv_iload hx hb dL_acts_289 (lv_at hl 4 rfl) ?_
  refine lv_iconst (v := 5) hx hb dL_acts_291 (by decide) ?_
  refine lv_icmp_ne (tgt := 299) hx hb dL_acts_292 (by decide) (fun c_370 => ?_) (fun c_370 => ?_)
  · replace h := h.1 c_370
    refine lv_aload_n hx hb dL_acts_299 rfl (lv_at hl 1 rfl) ?_
    refine lv_iload hx hb dL_acts_300 (lv_at hl 4 rfl) ?_
    refine lv_iload hx hb dL_acts_302 (lv_at hl 5 rfl) ?_
    refine lv_iload hx hb dL_acts_304 (lv_at hl 6 rfl) ?_
    refine lv_iconst (v := 1) hx hb dL_acts_306 (by decide) ?_
    refine x_cV (As := [.int x11, .int x12, .int x13, .int 1]) (rest := []) (F := (List.flatten [cM E a1 v2, cM E a2 v3, cM E a3 v4, cH E aH (h0 0) (h1 0) (h2 0) (h3 0) v5, cM E h0 v6, cM E h1 v7, cM E h2 v8, cM E h3 v9, cS E aS v10])) C0 hw (p_fl (ds := [cG aG (a0 0) (a1 0) (a2 0) (a3 0) (aH 0) (aS 0) v0, cM E a0 v1]) (List.Perm.refl _)) hl.1 0 6 rfl rfl (c_X6_rateOf l E aG a0 a1 a2 a3 aH h0 h1 h2 h3 aS h) 4 gL_acts_X6_rateOf rfl ⟨rfl, rfl⟩ (by decide +kernel) ⟨Nat.le_of_ble_eq_true rfl, Nat.le_of_ble_eq_true rfl⟩ rfl rfl (Nat.le_of_ble_eq_true rfl) dL_acts_307 ⟨Nat.zero_le _, Nat.zero_le _⟩ (fun r_326 u_369 H locs h hw => ?_)
    obtain ⟨v_327, v_328⟩ := u_369
    replace hw : mw E A s.heap H locs (List.flatten [cG aG (a0 0) (a1 0) (a2 0) (a3 0) (aH 0) (aS 0) v_327, cM E a0 v_328, cM E a1 v2, cM E a2 v3, cM E a3 v4, cH E aH (h0 0) (h1 0) (h2 0) (h3 0) v5, cM E h0 v6, cM E h1 v7, cM E h2 v8, cM E h3 v9, cS E aS v10]) := hw.perm (p_bk (ds := [cG aG (a0 0) (a1 0) (a2 0) (a3 0) (aH 0) (aS 0) v_327, cM E a0 v_328]) (List.Perm.refl _))
    exact j_L_acts_310 C0 _ _ _ _ _ _ _ _ _ _ _ _ _ _ _ _ _ _ h _ _ _ hw (lv_sub hl [1, 2, 3, 4, 5, 6, 0] rfl)
  · replace h := h.2 c_370
    refine lv_iconst (v := 0) hx hb dL_acts_295 (by decide) ?_
    refine lv_goto (tgt := 310) hx hb dL_acts_296 (by decide) ?_
    exact j_L_acts_310 C0 _ _ _ _ _ _ _ _ _ _ _ _ _ _ _ _ _ _ h _ _ _ hw (lv_sub hl [1, 2, 3, 4, 5, 6, 0] rfl)
set_option maxRecDepth 100000 in
set_option maxHeartbeats 4000000 in
theorem j_L_acts_215 {p : Program} {l : Launch} {e : Env} {s : State} {m : MethodId} {below : List Frame} {meth : Method} {c : Code} {E : EE} {A : Nat → Prop} {aG : Nat → Nat} {a0 : Nat → Nat} {a1 : Nat → Nat} {a2 : Nat → Nat} {a3 : Nat → Nat} {aH : Nat → Nat} {h0 : Nat → Nat} {h1 : Nat → Nat} {h2 : Nat → Nat} {h3 : Nat → Nat} {aS : Nat → Nat} {args : Array Value} (C0 : Cx E p s m args meth c A cL_acts 17 RL wsL_acts (some .boolean)) {post : Int32 → V → V → V → V → V → V → V → V → V → V → V → Prop}  : ∀ (q0 : Int32) (q1 : Int32) (v0 : V) (v1 : V) (v2 : V) (v3 : V) (v4 : V) (v5 : V) (v6 : V) (v7 : V) (v8 : V) (v9 : V) (v10 : V), sj_L_acts_215 post  q0 q1 v0 v1 v2 v3 v4 v5 v6 v7 v8 v9 v10 → ∀ (H : Heap) (locs : List Loc) (ls : Array Slot), mw E A s.heap H locs (List.flatten [cG aG (a0 0) (a1 0) (a2 0) (a3 0) (aH 0) (aS 0) v0, cM E a0 v1, cM E a1 v2, cM E a2 v3, cM E a3 v4, cH E aH (h0 0) (h1 0) (h2 0) (h3 0) v5, cM E h0 v6, cM E h1 v7, cM E h2 v8, cM E h3 v9, cS E aS v10]) → lv_has ls 17 [] → W p l e rmL_acts s m args below meth c H locs 0 0 (qI E A (fun r (u : V × V × V × V × V × V × V × V × V × V × V) => post r u.1 u.2.1 u.2.2.1 u.2.2.2.1 u.2.2.2.2.1 u.2.2.2.2.2.1 u.2.2.2.2.2.2.1 u.2.2.2.2.2.2.2.1 u.2.2.2.2.2.2.2.2.1 u.2.2.2.2.2.2.2.2.2.1 u.2.2.2.2.2.2.2.2.2.2) (fun (u : V × V × V × V × V × V × V × V × V × V × V) => (List.flatten [cG aG (a0 0) (a1 0) (a2 0) (a3 0) (aH 0) (aS 0) u.1, cM E a0 u.2.1, cM E a1 u.2.2.1, cM E a2 u.2.2.2.1, cM E a3 u.2.2.2.2.1, cH E aH (h0 0) (h1 0) (h2 0) (h3 0) u.2.2.2.2.2.1, cM E h0 u.2.2.2.2.2.2.1, cM E h1 u.2.2.2.2.2.2.2.1, cM E h2 u.2.2.2.2.2.2.2.2.1, cM E h3 u.2.2.2.2.2.2.2.2.2.1, cS E aS u.2.2.2.2.2.2.2.2.2.2])) below args s) (F0 m 215 ls [.int q1, .int q0]) := by
  have hx := C0.1
  have hb := C0.2.1
  intro q0 q1 v0 v1 v2 v3 v4 v5 v6 v7 v8 v9 v10 h H locs ls hw hl
  unfold sj_L_acts_215 at h
  refine lv_icmp_ne (tgt := 222) hx hb dL_acts_215 (by decide) (fun c_388 => ?_) (fun c_388 => ?_)
  · replace h := h.1 c_388
    refine lv_iconst (v := 0) hx hb dL_acts_222 (by decide) ?_
    exact x_retz C0 rfl ⟨v0, v1, v2, v3, v4, v5, v6, v7, v8, v9, v10⟩ hw h dL_acts_223
  · replace h := h.2 c_388
    refine lv_iconst (v := 1) hx hb dL_acts_218 (by decide) ?_
    refine lv_goto (tgt := 223) hx hb dL_acts_219 (by decide) ?_
    exact x_retz C0 rfl ⟨v0, v1, v2, v3, v4, v5, v6, v7, v8, v9, v10⟩ hw h dL_acts_223
set_option maxRecDepth 100000 in
set_option maxHeartbeats 4000000 in
theorem j_L_acts_175 {p : Program} {l : Launch} {e : Env} {s : State} {m : MethodId} {below : List Frame} {meth : Method} {c : Code} {E : EE} {A : Nat → Prop} {aG : Nat → Nat} {a0 : Nat → Nat} {a1 : Nat → Nat} {a2 : Nat → Nat} {a3 : Nat → Nat} {aH : Nat → Nat} {h0 : Nat → Nat} {h1 : Nat → Nat} {h2 : Nat → Nat} {h3 : Nat → Nat} {aS : Nat → Nat} {args : Array Value} (C0 : Cx E p s m args meth c A cL_acts 17 RL wsL_acts (some .boolean)) {post : Int32 → V → V → V → V → V → V → V → V → V → V → V → Prop}  : ∀ (q0 : Int32) (q1 : Int32) (v0 : V) (v1 : V) (v2 : V) (v3 : V) (v4 : V) (v5 : V) (v6 : V) (v7 : V) (v8 : V) (v9 : V) (v10 : V), sj_L_acts_175 post  q0 q1 v0 v1 v2 v3 v4 v5 v6 v7 v8 v9 v10 → ∀ (H : Heap) (locs : List Loc) (ls : Array Slot), mw E A s.heap H locs (List.flatten [cG aG (a0 0) (a1 0) (a2 0) (a3 0) (aH 0) (aS 0) v0, cM E a0 v1, cM E a1 v2, cM E a2 v3, cM E a3 v4, cH E aH (h0 0) (h1 0) (h2 0) (h3 0) v5, cM E h0 v6, cM E h1 v7, cM E h2 v8, cM E h3 v9, cS E aS v10]) → lv_has ls 17 [] → W p l e rmL_acts s m args below meth c H locs 0 0 (qI E A (fun r (u : V × V × V × V × V × V × V × V × V × V × V) => post r u.1 u.2.1 u.2.2.1 u.2.2.2.1 u.2.2.2.2.1 u.2.2.2.2.2.1 u.2.2.2.2.2.2.1 u.2.2.2.2.2.2.2.1 u.2.2.2.2.2.2.2.2.1 u.2.2.2.2.2.2.2.2.2.1 u.2.2.2.2.2.2.2.2.2.2) (fun (u : V × V × V × V × V × V × V × V × V × V × V) => (List.flatten [cG aG (a0 0) (a1 0) (a2 0) (a3 0) (aH 0) (aS 0) u.1, cM E a0 u.2.1, cM E a1 u.2.2.1, cM E a2 u.2.2.2.1, cM E a3 u.2.2.2.2.1, cH E aH (h0 0) (h1 0) (h2 0) (h3 0) u.2.2.2.2.2.1, cM E h0 u.2.2.2.2.2.2.1, cM E h1 u.2.2.2.2.2.2.2.1, cM E h2 u.2.2.2.2.2.2.2.2.1, cM E h3 u.2.2.2.2.2.2.2.2.2.1, cS E aS u.2.2.2.2.2.2.2.2.2.2])) below args s) (F0 m 175 ls [.int q1, .int q0]) := by
  have hx := C0.1
  have hb := C0.2.1
  intro q0 q1 v0 v1 v2 v3 v4 v5 v6 v7 v8 v9 v10 h H locs ls hw hl
  unfold sj_L_acts_175 at h
  refine lv_icmp_ne (tgt := 182) hx hb dL_acts_175 (by decide) (fun c_406 => ?_) (fun c_406 => ?_)
  · replace h := h.1 c_406
    refine lv_iconst (v := 0) hx hb dL_acts_182 (by decide) ?_
    exact x_retz C0 rfl ⟨v0, v1, v2, v3, v4, v5, v6, v7, v8, v9, v10⟩ hw h dL_acts_183
  · replace h := h.2 c_406
    refine lv_iconst (v := 1) hx hb dL_acts_178 (by decide) ?_
    refine lv_goto (tgt := 183) hx hb dL_acts_179 (by decide) ?_
    exact x_retz C0 rfl ⟨v0, v1, v2, v3, v4, v5, v6, v7, v8, v9, v10⟩ hw h dL_acts_183
set_option maxRecDepth 100000 in
set_option maxHeartbeats 4000000 in
theorem j_L_acts_156 {p : Program} {l : Launch} {e : Env} {s : State} {m : MethodId} {below : List Frame} {meth : Method} {c : Code} {E : EE} {A : Nat → Prop} {aG : Nat → Nat} {a0 : Nat → Nat} {a1 : Nat → Nat} {a2 : Nat → Nat} {a3 : Nat → Nat} {aH : Nat → Nat} {h0 : Nat → Nat} {h1 : Nat → Nat} {h2 : Nat → Nat} {h3 : Nat → Nat} {aS : Nat → Nat} {args : Array Value} (C0 : Cx E p s m args meth c A cL_acts 17 RL wsL_acts (some .boolean)) {post : Int32 → V → V → V → V → V → V → V → V → V → V → V → Prop}  : ∀ (q0 : Int32) (v0 : V) (v1 : V) (v2 : V) (v3 : V) (v4 : V) (v5 : V) (v6 : V) (v7 : V) (v8 : V) (v9 : V) (v10 : V), sj_L_acts_156 post  q0 v0 v1 v2 v3 v4 v5 v6 v7 v8 v9 v10 → ∀ (H : Heap) (locs : List Loc) (ls : Array Slot), mw E A s.heap H locs (List.flatten [cG aG (a0 0) (a1 0) (a2 0) (a3 0) (aH 0) (aS 0) v0, cM E a0 v1, cM E a1 v2, cM E a2 v3, cM E a3 v4, cH E aH (h0 0) (h1 0) (h2 0) (h3 0) v5, cM E h0 v6, cM E h1 v7, cM E h2 v8, cM E h3 v9, cS E aS v10]) → lv_has ls 17 [] → W p l e rmL_acts s m args below meth c H locs 0 0 (qI E A (fun r (u : V × V × V × V × V × V × V × V × V × V × V) => post r u.1 u.2.1 u.2.2.1 u.2.2.2.1 u.2.2.2.2.1 u.2.2.2.2.2.1 u.2.2.2.2.2.2.1 u.2.2.2.2.2.2.2.1 u.2.2.2.2.2.2.2.2.1 u.2.2.2.2.2.2.2.2.2.1 u.2.2.2.2.2.2.2.2.2.2) (fun (u : V × V × V × V × V × V × V × V × V × V × V) => (List.flatten [cG aG (a0 0) (a1 0) (a2 0) (a3 0) (aH 0) (aS 0) u.1, cM E a0 u.2.1, cM E a1 u.2.2.1, cM E a2 u.2.2.2.1, cM E a3 u.2.2.2.2.1, cH E aH (h0 0) (h1 0) (h2 0) (h3 0) u.2.2.2.2.2.1, cM E h0 u.2.2.2.2.2.2.1, cM E h1 u.2.2.2.2.2.2.2.1, cM E h2 u.2.2.2.2.2.2.2.2.1, cM E h3 u.2.2.2.2.2.2.2.2.2.1, cS E aS u.2.2.2.2.2.2.2.2.2.2])) below args s) (F0 m 156 ls [.int q0]) := by
  have hx := C0.1
  have hb := C0.2.1
  intro q0 v0 v1 v2 v3 v4 v5 v6 v7 v8 v9 v10 h H locs ls hw hl
  unfold sj_L_acts_156 at h
  refine x_ldc (v := (-10000001)) C0 1 rfl dL_acts_156 ?_
  refine lv_goto (tgt := 175) hx hb dL_acts_158 (by decide) ?_
  exact j_L_acts_175 C0 _ _ _ _ _ _ _ _ _ _ _ _ _ h _ _ _ hw (lv_sub hl [] rfl)
set_option maxRecDepth 100000 in
set_option maxHeartbeats 4000000 in
theorem j_L_acts_104 {p : Program} {l : Launch} {e : Env} {s : State} {m : MethodId} {below : List Frame} {meth : Method} {c : Code} {E : EE} {A : Nat → Prop} {aG : Nat → Nat} {a0 : Nat → Nat} {a1 : Nat → Nat} {a2 : Nat → Nat} {a3 : Nat → Nat} {aH : Nat → Nat} {h0 : Nat → Nat} {h1 : Nat → Nat} {h2 : Nat → Nat} {h3 : Nat → Nat} {aS : Nat → Nat} {args : Array Value} (C0 : Cx E p s m args meth c A cL_acts 17 RL wsL_acts (some .boolean)) {post : Int32 → V → V → V → V → V → V → V → V → V → V → V → Prop}  : ∀ (x2 : Int32) (x3 : Int32) (x4 : Int32) (x5 : Int32) (x6 : Int32) (x7 : Int32) (x8 : Int32) (x9 : Int32) (q0 : Int32) (v0 : V) (v1 : V) (v2 : V) (v3 : V) (v4 : V) (v5 : V) (v6 : V) (v7 : V) (v8 : V) (v9 : V) (v10 : V), sj_L_acts_104 post  x2 x3 x4 x5 x6 x7 x8 x9 q0 v0 v1 v2 v3 v4 v5 v6 v7 v8 v9 v10 → ∀ (H : Heap) (locs : List Loc) (ls : Array Slot), mw E A s.heap H locs (List.flatten [cG aG (a0 0) (a1 0) (a2 0) (a3 0) (aH 0) (aS 0) v0, cM E a0 v1, cM E a1 v2, cM E a2 v3, cM E a3 v4, cH E aH (h0 0) (h1 0) (h2 0) (h3 0) v5, cM E h0 v6, cM E h1 v7, cM E h2 v8, cM E h3 v9, cS E aS v10]) → lv_has ls 17 [(0, .ref (aG 0)), (2, .int x2), (3, .int x3), (4, .int x4), (5, .int x5), (6, .int x6), (7, .int x7), (8, .int x8), (9, .int x9)] → W p l e rmL_acts s m args below meth c H locs 0 0 (qI E A (fun r (u : V × V × V × V × V × V × V × V × V × V × V) => post r u.1 u.2.1 u.2.2.1 u.2.2.2.1 u.2.2.2.2.1 u.2.2.2.2.2.1 u.2.2.2.2.2.2.1 u.2.2.2.2.2.2.2.1 u.2.2.2.2.2.2.2.2.1 u.2.2.2.2.2.2.2.2.2.1 u.2.2.2.2.2.2.2.2.2.2) (fun (u : V × V × V × V × V × V × V × V × V × V × V) => (List.flatten [cG aG (a0 0) (a1 0) (a2 0) (a3 0) (aH 0) (aS 0) u.1, cM E a0 u.2.1, cM E a1 u.2.2.1, cM E a2 u.2.2.2.1, cM E a3 u.2.2.2.2.1, cH E aH (h0 0) (h1 0) (h2 0) (h3 0) u.2.2.2.2.2.1, cM E h0 u.2.2.2.2.2.2.1, cM E h1 u.2.2.2.2.2.2.2.1, cM E h2 u.2.2.2.2.2.2.2.2.1, cM E h3 u.2.2.2.2.2.2.2.2.2.1, cS E aS u.2.2.2.2.2.2.2.2.2.2])) below args s) (F0 m 104 ls [.int q0]) := by
  have hx := C0.1
  have hb := C0.2.1
  intro x2 x3 x4 x5 x6 x7 x8 x9 q0 v0 v1 v2 v3 v4 v5 v6 v7 v8 v9 v10 h H locs ls hw hl
  unfold sj_L_acts_104 at h
  refine lv_istore (lv' := [(10, .int q0), (0, .ref (aG 0)), (2, .int x2), (3, .int x3), (4, .int x4), (5, .int x5), (6, .int x6), (7, .int x7), (8, .int x8), (9, .int x9)]) hx hb dL_acts_104 hl (by decide) rfl (fun ls hl => ?_)
  refine lv_iload_n hx hb dL_acts_106 rfl (lv_at hl 3 rfl) ?_
  refine lv_iconst (v := 3) hx hb dL_acts_107 (by decide) ?_
  refine lv_icmp_ge (tgt := 184) hx hb dL_acts_108 (by decide) (fun c_414 => ?_) (fun c_414 => ?_)
  · replace h := h.1 c_414
    refine lv_iload_n hx hb dL_acts_184 rfl (lv_at hl 3 rfl) ?_
    refine lv_iconst (v := 3) hx hb dL_acts_185 (by decide) ?_
    refine lv_icmp_ne (tgt := 224) hx hb dL_acts_186 (by decide) (fun c_393 => ?_) (fun c_393 => ?_)
    · replace h := h.1 c_393
      refine lv_iload_n hx hb dL_acts_224 rfl (lv_at hl 3 rfl) ?_
      refine lv_bipush (v := 7) hx hb dL_acts_225 (by decide) ?_
      refine lv_icmp_ge (tgt := 452) hx hb dL_acts_227 (by decide) (fun c_377 => ?_) (fun c_377 => ?_)
      · replace h := h.1 c_377
        refine lv_iload_n hx hb dL_acts_452 rfl (lv_at hl 3 rfl) ?_
        refine lv_bipush (v := 11) hx hb dL_acts_453 (by decide) ?_
        refine lv_icmp_ge (tgt := 667) hx hb dL_acts_455 (by decide) (fun c_320 => ?_) (fun c_320 => ?_)
        · replace h := h.1 c_320
          refine lv_iload_n hx hb dL_acts_667 rfl (lv_at hl 3 rfl) ?_
          refine lv_bipush (v := 13) hx hb dL_acts_668 (by decide) ?_
          refine lv_icmp_ge (tgt := 781) hx hb dL_acts_670 (by decide) (fun c_257 => ?_) (fun c_257 => ?_)
          · replace h := h.1 c_257
            refine lv_iload_n hx hb dL_acts_781 rfl (lv_at hl 3 rfl) ?_
            refine lv_bipush (v := 13) hx hb dL_acts_782 (by decide) ?_
            refine lv_icmp_ne (tgt := 878) hx hb dL_acts_784 (by decide) (fun c_229 => ?_) (fun c_229 => ?_)
            · replace h := h.1 c_229
              refine lv_iload_n hx hb dL_acts_878 rfl (lv_at hl 3 rfl) ?_
              refine lv_bipush (v := 14) hx hb dL_acts_879 (by decide) ?_
              refine lv_icmp_ne (tgt := 992) hx hb dL_acts_881 (by decide) (fun c_199 => ?_) (fun c_199 => ?_)
              · replace h := h.1 c_199
                refine lv_iload_n hx hb dL_acts_992 rfl (lv_at hl 3 rfl) ?_
                refine lv_bipush (v := 15) hx hb dL_acts_993 (by decide) ?_
                refine lv_icmp_ne (tgt := 1089) hx hb dL_acts_995 (by decide) (fun c_167 => ?_) (fun c_167 => ?_)
                · replace h := h.1 c_167
                  refine lv_iload_n hx hb dL_acts_1089 rfl (lv_at hl 3 rfl) ?_
                  refine lv_bipush (v := 16) hx hb dL_acts_1090 (by decide) ?_
                  refine lv_icmp_ne (tgt := 1220) hx hb dL_acts_1092 (by decide) (fun c_139 => ?_) (fun c_139 => ?_)
                  · replace h := h.1 c_139
                    refine lv_iload_n hx hb dL_acts_1220 rfl (lv_at hl 3 rfl) ?_
                    refine lv_bipush (v := 17) hx hb dL_acts_1221 (by decide) ?_
                    refine lv_icmp_ne (tgt := 1306) hx hb dL_acts_1223 (by decide) (fun c_102 => ?_) (fun c_102 => ?_)
                    · replace h := h.1 c_102
                      refine lv_iload_n hx hb dL_acts_1306 rfl (lv_at hl 3 rfl) ?_
                      refine lv_bipush (v := 18) hx hb dL_acts_1307 (by decide) ?_
                      refine lv_icmp_ne (tgt := 1379) hx hb dL_acts_1309 (by decide) (fun c_76 => ?_) (fun c_76 => ?_)
                      · replace h := h.1 c_76
                        refine lv_aload_n hx hb dL_acts_1379 rfl (lv_at hl 1 rfl) ?_
                        refine lv_iload_n hx hb dL_acts_1380 rfl (lv_at hl 2 rfl) ?_
                        refine x_cS (As := [.ref (aG 0), .int x2]) (rest := []) (F := []) C0 hw (p_nil _) hl.1 (c_L_types l E aG a0 a1 a2 a3 aH h0 h1 h2 h3 aS h) 2 gL_acts_L_types rfl ⟨rfl, rfl⟩ (by decide +kernel) ⟨Nat.le_of_ble_eq_true rfl, Nat.le_of_ble_eq_true rfl⟩ rfl rfl (Nat.le_of_ble_eq_true rfl) dL_acts_1381 ⟨Nat.zero_le _, Nat.zero_le _⟩ (fun r_14 u_41 H locs h hw => ?_)
                        obtain ⟨v_15, v_16, v_17, v_18, v_19, v_20, v_21, v_22, v_23, v_24, v_25⟩ := u_41
                        replace hw : mw E A s.heap H locs (List.flatten [cG aG (a0 0) (a1 0) (a2 0) (a3 0) (aH 0) (aS 0) v_15, cM E a0 v_16, cM E a1 v_17, cM E a2 v_18, cM E a3 v_19, cH E aH (h0 0) (h1 0) (h2 0) (h3 0) v_20, cM E h0 v_21, cM E h1 v_22, cM E h2 v_23, cM E h3 v_24, cS E aS v_25]) := hw.perm (p_nil _).symm
                        refine lv_if_eq (tgt := 1398) hx hb dL_acts_1384 (by decide) (fun c_40 => ?_) (fun c_40 => ?_)
                        · replace h := h.1 c_40
                          refine lv_iconst (v := 0) hx hb dL_acts_1398 (by decide) ?_
                          exact x_retz C0 rfl ⟨v_15, v_16, v_17, v_18, v_19, v_20, v_21, v_22, v_23, v_24, v_25⟩ hw h dL_acts_1399
                        · replace h := h.2 c_40
                          refine lv_aload_n hx hb dL_acts_1387 rfl (lv_at hl 1 rfl) ?_
                          refine x_cS (As := [.ref (aG 0)]) (rest := []) (F := []) C0 hw (p_nil _) hl.1 (c_L_reads l E aG a0 a1 a2 a3 aH h0 h1 h2 h3 aS h) 1 gL_acts_L_reads rfl ⟨rfl, rfl⟩ (by decide +kernel) ⟨Nat.le_of_ble_eq_true rfl, Nat.le_of_ble_eq_true rfl⟩ rfl rfl (Nat.le_of_ble_eq_true rfl) dL_acts_1388 ⟨Nat.zero_le _, Nat.zero_le _⟩ (fun r_26 u_39 H locs h hw => ?_)
                          obtain ⟨v_27, v_28, v_29, v_30, v_31, v_32, v_33, v_34, v_35, v_36, v_37⟩ := u_39
                          replace hw : mw E A s.heap H locs (List.flatten [cG aG (a0 0) (a1 0) (a2 0) (a3 0) (aH 0) (aS 0) v_27, cM E a0 v_28, cM E a1 v_29, cM E a2 v_30, cM E a3 v_31, cH E aH (h0 0) (h1 0) (h2 0) (h3 0) v_32, cM E h0 v_33, cM E h1 v_34, cM E h2 v_35, cM E h3 v_36, cS E aS v_37]) := hw.perm (p_nil _).symm
                          refine lv_if_eq (tgt := 1398) hx hb dL_acts_1391 (by decide) (fun c_38 => ?_) (fun c_38 => ?_)
                          · replace h := h.1 c_38
                            refine lv_iconst (v := 0) hx hb dL_acts_1398 (by decide) ?_
                            exact x_retz C0 rfl ⟨v_27, v_28, v_29, v_30, v_31, v_32, v_33, v_34, v_35, v_36, v_37⟩ hw h dL_acts_1399
                          · replace h := h.2 c_38
                            refine lv_iconst (v := 1) hx hb dL_acts_1394 (by decide) ?_
                            refine lv_goto (tgt := 1399) hx hb dL_acts_1395 (by decide) ?_
                            exact x_retz C0 rfl ⟨v_27, v_28, v_29, v_30, v_31, v_32, v_33, v_34, v_35, v_36, v_37⟩ hw h dL_acts_1399
                      · replace h := h.2 c_76
                        refine lv_aload_n hx hb dL_acts_1312 rfl (lv_at hl 1 rfl) ?_
                        refine lv_bipush (v := 13) hx hb dL_acts_1313 (by decide) ?_
                        refine x_cV (As := [.int 13]) (rest := []) (F := (List.flatten [cM E a1 v2, cM E a2 v3, cM E a3 v4, cM E h0 v6, cM E h1 v7, cM E h2 v8, cM E h3 v9])) C0 hw (p_fl (ds := [cG aG (a0 0) (a1 0) (a2 0) (a3 0) (aH 0) (aS 0) v0, cM E a0 v1, cH E aH (h0 0) (h1 0) (h2 0) (h3 0) v5, cS E aS v10]) ((p_pk _ 0 _ rfl).trans (List.Perm.cons _ ((p_pk _ 0 _ rfl).trans (List.Perm.cons _ ((p_pk _ 3 _ rfl).trans (List.Perm.cons _ ((p_pk _ 7 _ rfl).trans (List.Perm.cons _ (List.Perm.refl _)))))))))) hl.1 0 6 rfl rfl (c_X6_count l E aG a0 a1 a2 a3 aH h0 h1 h2 h3 aS h) 1 gL_acts_X6_count rfl ⟨rfl, rfl⟩ (by decide +kernel) ⟨Nat.le_of_ble_eq_true rfl, Nat.le_of_ble_eq_true rfl⟩ rfl rfl (Nat.le_of_ble_eq_true rfl) dL_acts_1315 ⟨Nat.zero_le _, Nat.zero_le _⟩ (fun r_42 u_75 H locs h hw => ?_)
                        obtain ⟨v_43, v_44, v_45, v_46⟩ := u_75
                        replace hw : mw E A s.heap H locs (List.flatten [cG aG (a0 0) (a1 0) (a2 0) (a3 0) (aH 0) (aS 0) v_43, cM E a0 v_44, cM E a1 v2, cM E a2 v3, cM E a3 v4, cH E aH (h0 0) (h1 0) (h2 0) (h3 0) v_45, cM E h0 v6, cM E h1 v7, cM E h2 v8, cM E h3 v9, cS E aS v_46]) := hw.perm (p_bk (ds := [cG aG (a0 0) (a1 0) (a2 0) (a3 0) (aH 0) (aS 0) v_43, cM E a0 v_44, cH E aH (h0 0) (h1 0) (h2 0) (h3 0) v_45, cS E aS v_46]) ((p_pk _ 0 _ rfl).trans (List.Perm.cons _ ((p_pk _ 0 _ rfl).trans (List.Perm.cons _ ((p_pk _ 3 _ rfl).trans (List.Perm.cons _ ((p_pk _ 7 _ rfl).trans (List.Perm.cons _ (List.Perm.refl _))))))))))
                        refine lv_iconst (v := 1) hx hb dL_acts_1318 (by decide) ?_
                        refine lv_icmp_ne (tgt := 1326) hx hb dL_acts_1319 (by decide) (fun c_74 => ?_) (fun c_74 => ?_)
                        · replace h := h.1 c_74
                          refine lv_iconst (v := 0) hx hb dL_acts_1326 (by decide) ?_
                          exact j_L_acts_1327 C0 _ _ _ _ _ _ _ _ _ _ _ _ _ h _ _ _ hw (lv_sub hl [1, 2] rfl)
                        · replace h := h.2 c_74
                          refine lv_iconst (v := 1) hx hb dL_acts_1322 (by decide) ?_
                          refine lv_goto (tgt := 1327) hx hb dL_acts_1323 (by decide) ?_
                          exact j_L_acts_1327 C0 _ _ _ _ _ _ _ _ _ _ _ _ _ h _ _ _ hw (lv_sub hl [1, 2] rfl)
                    · replace h := h.2 c_102
                      refine lv_iload_n hx hb dL_acts_1226 rfl (lv_at hl 2 rfl) ?_
                      refine lv_iconst (v := 3) hx hb dL_acts_1227 (by decide) ?_
                      refine x_cS (As := [.int x2, .int 3]) (rest := []) (F := (List.flatten [cG aG (a0 0) (a1 0) (a2 0) (a3 0) (aH 0) (aS 0) v0, cM E a0 v1, cM E a1 v2, cM E a2 v3, cM E a3 v4, cH E aH (h0 0) (h1 0) (h2 0) (h3 0) v5, cM E h0 v6, cM E h1 v7, cM E h2 v8, cM E h3 v9, cS E aS v10])) C0 hw (p_non _) hl.1 (c_L_low l E  h) 2 gL_acts_L_low rfl ⟨rfl, rfl⟩ (by decide +kernel) ⟨Nat.le_of_ble_eq_true rfl, Nat.le_of_ble_eq_true rfl⟩ rfl rfl (Nat.le_of_ble_eq_true rfl) dL_acts_1228 ⟨Nat.zero_le _, Nat.zero_le _⟩ (fun r_77 _u H locs h (hw : mw E A s.heap H locs (List.flatten [cG aG (a0 0) (a1 0) (a2 0) (a3 0) (aH 0) (aS 0) v0, cM E a0 v1, cM E a1 v2, cM E a2 v3, cM E a3 v4, cH E aH (h0 0) (h1 0) (h2 0) (h3 0) v5, cM E h0 v6, cM E h1 v7, cM E h2 v8, cM E h3 v9, cS E aS v10])) => ?_)
                      refine lv_istore (lv' := [(11, .int r_77), (10, .int q0), (0, .ref (aG 0)), (2, .int x2), (3, .int x3), (4, .int x4), (5, .int x5), (6, .int x6), (7, .int x7), (8, .int x8), (9, .int x9)]) hx hb dL_acts_1231 hl (by decide) rfl (fun ls hl => ?_)
                      refine lv_iload_n hx hb dL_acts_1233 rfl (lv_at hl 3 rfl) ?_
                      refine lv_iconst (v := 2) hx hb dL_acts_1234 (by decide) ?_
                      refine lv_ishr hx hb dL_acts_1235 ?_
                      refine lv_bipush (v := 40) hx hb dL_acts_1236 (by decide) ?_
                      refine x_cS (As := [.int (x2 >>> (2 &&& 31)), .int 40]) (rest := []) (F := (List.flatten [cG aG (a0 0) (a1 0) (a2 0) (a3 0) (aH 0) (aS 0) v0, cM E a0 v1, cM E a1 v2, cM E a2 v3, cM E a3 v4, cH E aH (h0 0) (h1 0) (h2 0) (h3 0) v5, cM E h0 v6, cM E h1 v7, cM E h2 v8, cM E h3 v9, cS E aS v10])) C0 hw (p_non _) hl.1 (c_L_low l E  h) 2 gL_acts_L_low rfl ⟨rfl, rfl⟩ (by decide +kernel) ⟨Nat.le_of_ble_eq_true rfl, Nat.le_of_ble_eq_true rfl⟩ rfl rfl (Nat.le_of_ble_eq_true rfl) dL_acts_1238 ⟨Nat.zero_le _, Nat.zero_le _⟩ (fun r_78 _u H locs h (hw : mw E A s.heap H locs (List.flatten [cG aG (a0 0) (a1 0) (a2 0) (a3 0) (aH 0) (aS 0) v0, cM E a0 v1, cM E a1 v2, cM E a2 v3, cM E a3 v4, cH E aH (h0 0) (h1 0) (h2 0) (h3 0) v5, cM E h0 v6, cM E h1 v7, cM E h2 v8, cM E h3 v9, cS E aS v10])) => ?_)
                      refine lv_istore (lv' := [(12, .int r_78), (11, .int r_77), (10, .int q0), (0, .ref (aG 0)), (2, .int x2), (3, .int x3), (4, .int x4), (5, .int x5), (6, .int x6), (7, .int x7), (8, .int x8), (9, .int x9)]) hx hb dL_acts_1241 hl (by decide) rfl (fun ls hl => ?_)
                      refine lv_iload hx hb dL_acts_1243 (lv_at hl 1 rfl) ?_
                      refine lv_iconst (v := 2) hx hb dL_acts_1245 (by decide) ?_
                      refine lv_icmp_ne (tgt := 1253) hx hb dL_acts_1246 (by decide) (fun c_99 => ?_) (fun c_99 => ?_)
                      · replace h := h.1 c_99
                        refine lv_aload_n hx hb dL_acts_1253 rfl (lv_at hl 3 rfl) ?_
                        refine lv_bipush (v := 14) hx hb dL_acts_1254 (by decide) ?_
                        refine lv_iload hx hb dL_acts_1256 (lv_at hl 1 rfl) ?_
                        refine lv_iadd hx hb dL_acts_1258 ?_
                        refine x_cV (As := [.int (14 + r_77)]) (rest := []) (F := (List.flatten [cM E a1 v2, cM E a2 v3, cM E a3 v4, cM E h0 v6, cM E h1 v7, cM E h2 v8, cM E h3 v9])) C0 hw (p_fl (ds := [cG aG (a0 0) (a1 0) (a2 0) (a3 0) (aH 0) (aS 0) v0, cM E a0 v1, cH E aH (h0 0) (h1 0) (h2 0) (h3 0) v5, cS E aS v10]) ((p_pk _ 0 _ rfl).trans (List.Perm.cons _ ((p_pk _ 0 _ rfl).trans (List.Perm.cons _ ((p_pk _ 3 _ rfl).trans (List.Perm.cons _ ((p_pk _ 7 _ rfl).trans (List.Perm.cons _ (List.Perm.refl _)))))))))) hl.1 0 6 rfl rfl (c_X6_count l E aG a0 a1 a2 a3 aH h0 h1 h2 h3 aS h) 1 gL_acts_X6_count rfl ⟨rfl, rfl⟩ (by decide +kernel) ⟨Nat.le_of_ble_eq_true rfl, Nat.le_of_ble_eq_true rfl⟩ rfl rfl (Nat.le_of_ble_eq_true rfl) dL_acts_1259 ⟨Nat.zero_le _, Nat.zero_le _⟩ (fun r_79 u_98 H locs h hw => ?_)
                        obtain ⟨v_80, v_81, v_82, v_83⟩ := u_98
                        replace hw : mw E A s.heap H locs (List.flatten [cG aG (a0 0) (a1 0) (a2 0) (a3 0) (aH 0) (aS 0) v_80, cM E a0 v_81, cM E a1 v2, cM E a2 v3, cM E a3 v4, cH E aH (h0 0) (h1 0) (h2 0) (h3 0) v_82, cM E h0 v6, cM E h1 v7, cM E h2 v8, cM E h3 v9, cS E aS v_83]) := hw.perm (p_bk (ds := [cG aG (a0 0) (a1 0) (a2 0) (a3 0) (aH 0) (aS 0) v_80, cM E a0 v_81, cH E aH (h0 0) (h1 0) (h2 0) (h3 0) v_82, cS E aS v_83]) ((p_pk _ 0 _ rfl).trans (List.Perm.cons _ ((p_pk _ 0 _ rfl).trans (List.Perm.cons _ ((p_pk _ 3 _ rfl).trans (List.Perm.cons _ ((p_pk _ 7 _ rfl).trans (List.Perm.cons _ (List.Perm.refl _))))))))))
                        exact j_L_acts_1262 C0 _ _ _ _ _ _ _ _ _ _ _ _ _ _ h _ _ _ hw (lv_sub hl [3, 1, 0] rfl)
                      · replace h := h.2 c_99
                        refine lv_iconst (v := 0) hx hb dL_acts_1249 (by decide) ?_
                        refine lv_goto (tgt := 1262) hx hb dL_acts_1250 (by decide) ?_
                        exact j_L_acts_1262 C0 _ _ _ _ _ _ _ _ _ _ _ _ _ _ h _ _ _ hw (lv_sub hl [3, 1, 0] rfl)
                  · replace h := h.2 c_139
                    refine lv_iload_n hx hb dL_acts_1095 rfl (lv_at hl 2 rfl) ?_
                    refine lv_iconst (v := 4) hx hb dL_acts_1096 (by decide) ?_
                    refine x_cS (As := [.int x2, .int 4]) (rest := []) (F := (List.flatten [cG aG (a0 0) (a1 0) (a2 0) (a3 0) (aH 0) (aS 0) v0, cM E a0 v1, cM E a1 v2, cM E a2 v3, cM E a3 v4, cH E aH (h0 0) (h1 0) (h2 0) (h3 0) v5, cM E h0 v6, cM E h1 v7, cM E h2 v8, cM E h3 v9, cS E aS v10])) C0 hw (p_non _) hl.1 (c_L_low l E  h) 2 gL_acts_L_low rfl ⟨rfl, rfl⟩ (by decide +kernel) ⟨Nat.le_of_ble_eq_true rfl, Nat.le_of_ble_eq_true rfl⟩ rfl rfl (Nat.le_of_ble_eq_true rfl) dL_acts_1097 ⟨Nat.zero_le _, Nat.zero_le _⟩ (fun r_103 _u H locs h (hw : mw E A s.heap H locs (List.flatten [cG aG (a0 0) (a1 0) (a2 0) (a3 0) (aH 0) (aS 0) v0, cM E a0 v1, cM E a1 v2, cM E a2 v3, cM E a3 v4, cH E aH (h0 0) (h1 0) (h2 0) (h3 0) v5, cM E h0 v6, cM E h1 v7, cM E h2 v8, cM E h3 v9, cS E aS v10])) => ?_)
                    refine lv_if_ne (tgt := 1114) hx hb dL_acts_1100 (by decide) (fun c_137 => ?_) (fun c_137 => ?_)
                    · replace h := h.1 c_137
                      refine lv_iconst (v := 1) hx hb dL_acts_1114 (by decide) ?_
                      refine lv_iload_n hx hb dL_acts_1115 rfl (lv_at hl 2 rfl) ?_
                      refine lv_iconst (v := 2) hx hb dL_acts_1116 (by decide) ?_
                      refine lv_ishr hx hb dL_acts_1117 ?_
                      refine lv_bipush (v := 6) hx hb dL_acts_1118 (by decide) ?_
                      refine x_cS (As := [.int (x2 >>> (2 &&& 31)), .int 6]) (rest := [.int 1]) (F := (List.flatten [cG aG (a0 0) (a1 0) (a2 0) (a3 0) (aH 0) (aS 0) v0, cM E a0 v1, cM E a1 v2, cM E a2 v3, cM E a3 v4, cH E aH (h0 0) (h1 0) (h2 0) (h3 0) v5, cM E h0 v6, cM E h1 v7, cM E h2 v8, cM E h3 v9, cS E aS v10])) C0 hw (p_non _) hl.1 (c_L_low l E  h) 2 gL_acts_L_low rfl ⟨rfl, rfl⟩ (by decide +kernel) ⟨Nat.le_of_ble_eq_true rfl, Nat.le_of_ble_eq_true rfl⟩ rfl rfl (Nat.le_of_ble_eq_true rfl) dL_acts_1120 ⟨Nat.zero_le _, Nat.zero_le _⟩ (fun r_104 _u H locs h (hw : mw E A s.heap H locs (List.flatten [cG aG (a0 0) (a1 0) (a2 0) (a3 0) (aH 0) (aS 0) v0, cM E a0 v1, cM E a1 v2, cM E a2 v3, cM E a3 v4, cH E aH (h0 0) (h1 0) (h2 0) (h3 0) v5, cM E h0 v6, cM E h1 v7, cM E h2 v8, cM E h3 v9, cS E aS v10])) => ?_)
                      refine lv_iadd hx hb dL_acts_1123 ?_
                      exact j_L_acts_1124 C0 _ _ _ _ _ _ _ _ _ _ _ _ h _ _ _ hw (lv_sub hl [1] rfl)
                    · replace h := h.2 c_137
                      refine lv_iload_n hx hb dL_acts_1103 rfl (lv_at hl 2 rfl) ?_
                      refine lv_iconst (v := 2) hx hb dL_acts_1104 (by decide) ?_
                      refine lv_ishr hx hb dL_acts_1105 ?_
                      refine lv_bipush (v := 101) hx hb dL_acts_1106 (by decide) ?_
                      refine x_cS (As := [.int (x2 >>> (2 &&& 31)), .int 101]) (rest := []) (F := (List.flatten [cG aG (a0 0) (a1 0) (a2 0) (a3 0) (aH 0) (aS 0) v0, cM E a0 v1, cM E a1 v2, cM E a2 v3, cM E a3 v4, cH E aH (h0 0) (h1 0) (h2 0) (h3 0) v5, cM E h0 v6, cM E h1 v7, cM E h2 v8, cM E h3 v9, cS E aS v10])) C0 hw (p_non _) hl.1 (c_L_low l E  h) 2 gL_acts_L_low rfl ⟨rfl, rfl⟩ (by decide +kernel) ⟨Nat.le_of_ble_eq_true rfl, Nat.le_of_ble_eq_true rfl⟩ rfl rfl (Nat.le_of_ble_eq_true rfl) dL_acts_1108 ⟨Nat.zero_le _, Nat.zero_le _⟩ (fun r_135 _u H locs h (hw : mw E A s.heap H locs (List.flatten [cG aG (a0 0) (a1 0) (a2 0) (a3 0) (aH 0) (aS 0) v0, cM E a0 v1, cM E a1 v2, cM E a2 v3, cM E a3 v4, cH E aH (h0 0) (h1 0) (h2 0) (h3 0) v5, cM E h0 v6, cM E h1 v7, cM E h2 v8, cM E h3 v9, cS E aS v10])) => ?_)
                      refine lv_goto (tgt := 1124) hx hb dL_acts_1111 (by decide) ?_
                      exact j_L_acts_1124 C0 _ _ _ _ _ _ _ _ _ _ _ _ h _ _ _ hw (lv_sub hl [1] rfl)
                · replace h := h.2 c_167
                  refine lv_iload_n hx hb dL_acts_998 rfl (lv_at hl 2 rfl) ?_
                  refine lv_bipush (v := 11) hx hb dL_acts_999 (by decide) ?_
                  refine x_cS (As := [.int x2, .int 11]) (rest := []) (F := (List.flatten [cG aG (a0 0) (a1 0) (a2 0) (a3 0) (aH 0) (aS 0) v0, cM E a0 v1, cM E a1 v2, cM E a2 v3, cM E a3 v4, cH E aH (h0 0) (h1 0) (h2 0) (h3 0) v5, cM E h0 v6, cM E h1 v7, cM E h2 v8, cM E h3 v9, cS E aS v10])) C0 hw (p_non _) hl.1 (c_L_low l E  h) 2 gL_acts_L_low rfl ⟨rfl, rfl⟩ (by decide +kernel) ⟨Nat.le_of_ble_eq_true rfl, Nat.le_of_ble_eq_true rfl⟩ rfl rfl (Nat.le_of_ble_eq_true rfl) dL_acts_1001 ⟨Nat.zero_le _, Nat.zero_le _⟩ (fun r_140 _u H locs h (hw : mw E A s.heap H locs (List.flatten [cG aG (a0 0) (a1 0) (a2 0) (a3 0) (aH 0) (aS 0) v0, cM E a0 v1, cM E a1 v2, cM E a2 v3, cM E a3 v4, cH E aH (h0 0) (h1 0) (h2 0) (h3 0) v5, cM E h0 v6, cM E h1 v7, cM E h2 v8, cM E h3 v9, cS E aS v10])) => ?_)
                  refine lv_istore (lv' := [(11, .int r_140), (10, .int q0), (0, .ref (aG 0)), (2, .int x2), (3, .int x3), (4, .int x4), (5, .int x5), (6, .int x6), (7, .int x7), (8, .int x8), (9, .int x9)]) hx hb dL_acts_1004 hl (by decide) rfl (fun ls hl => ?_)
                  refine lv_iload hx hb dL_acts_1006 (lv_at hl 9 rfl) ?_
                  refine lv_if_eq (tgt := 1032) hx hb dL_acts_1008 (by decide) (fun c_165 => ?_) (fun c_165 => ?_)
                  · replace h := h.1 c_165
                    refine lv_iconst (v := 0) hx hb dL_acts_1032 (by decide) ?_
                    exact j_L_acts_1033 C0 _ _ _ _ _ _ _ _ _ _ _ _ _ _ _ _ _ h _ _ _ hw (lv_sub hl [2, 3, 8, 9, 1, 0] rfl)
                  · replace h := h.2 c_165
                    refine lv_bipush (v := 10) hx hb dL_acts_1011 (by decide) ?_
                    refine lv_aload_n hx hb dL_acts_1013 rfl (lv_at hl 2 rfl) ?_
                    refine lv_iload hx hb dL_acts_1014 (lv_at hl 8 rfl) ?_
                    refine lv_iconst (v := 1) hx hb dL_acts_1016 (by decide) ?_
                    refine x_cV (As := [.int x7, .int 1]) (rest := [.int 10]) (F := (List.flatten [cM E a1 v2, cM E a2 v3, cM E a3 v4, cH E aH (h0 0) (h1 0) (h2 0) (h3 0) v5, cM E h0 v6, cM E h1 v7, cM E h2 v8, cM E h3 v9, cS E aS v10])) C0 hw (p_fl (ds := [cG aG (a0 0) (a1 0) (a2 0) (a3 0) (aH 0) (aS 0) v0, cM E a0 v1]) (List.Perm.refl _)) hl.1 0 6 rfl rfl (c_X6_stoneOf l E aG a0 a1 a2 a3 aH h0 h1 h2 h3 aS h) 2 gL_acts_X6_stoneOf rfl ⟨rfl, rfl⟩ (by decide +kernel) ⟨Nat.le_of_ble_eq_true rfl, Nat.le_of_ble_eq_true rfl⟩ rfl rfl (Nat.le_of_ble_eq_true rfl) dL_acts_1017 ⟨Nat.zero_le _, Nat.zero_le _⟩ (fun r_157 u_164 H locs h hw => ?_)
                    obtain ⟨v_158, v_159⟩ := u_164
                    replace hw : mw E A s.heap H locs (List.flatten [cG aG (a0 0) (a1 0) (a2 0) (a3 0) (aH 0) (aS 0) v_158, cM E a0 v_159, cM E a1 v2, cM E a2 v3, cM E a3 v4, cH E aH (h0 0) (h1 0) (h2 0) (h3 0) v5, cM E h0 v6, cM E h1 v7, cM E h2 v8, cM E h3 v9, cS E aS v10]) := hw.perm (p_bk (ds := [cG aG (a0 0) (a1 0) (a2 0) (a3 0) (aH 0) (aS 0) v_158, cM E a0 v_159]) (List.Perm.refl _))
                    refine lv_imul hx hb dL_acts_1020 ?_
                    refine lv_aload_n hx hb dL_acts_1021 rfl (lv_at hl 2 rfl) ?_
                    refine lv_iload hx hb dL_acts_1022 (lv_at hl 8 rfl) ?_
                    refine lv_iconst (v := 2) hx hb dL_acts_1024 (by decide) ?_
                    refine x_cV (As := [.int x7, .int 2]) (rest := [.int (10 * r_157)]) (F := (List.flatten [cM E a1 v2, cM E a2 v3, cM E a3 v4, cH E aH (h0 0) (h1 0) (h2 0) (h3 0) v5, cM E h0 v6, cM E h1 v7, cM E h2 v8, cM E h3 v9, cS E aS v10])) C0 hw (p_fl (ds := [cG aG (a0 0) (a1 0) (a2 0) (a3 0) (aH 0) (aS 0) v_158, cM E a0 v_159]) (List.Perm.refl _)) hl.1 0 6 rfl rfl (c_X6_stoneOf l E aG a0 a1 a2 a3 aH h0 h1 h2 h3 aS h) 2 gL_acts_X6_stoneOf rfl ⟨rfl, rfl⟩ (by decide +kernel) ⟨Nat.le_of_ble_eq_true rfl, Nat.le_of_ble_eq_true rfl⟩ rfl rfl (Nat.le_of_ble_eq_true rfl) dL_acts_1025 ⟨Nat.zero_le _, Nat.zero_le _⟩ (fun r_160 u_163 H locs h hw => ?_)
                    obtain ⟨v_161, v_162⟩ := u_163
                    replace hw : mw E A s.heap H locs (List.flatten [cG aG (a0 0) (a1 0) (a2 0) (a3 0) (aH 0) (aS 0) v_161, cM E a0 v_162, cM E a1 v2, cM E a2 v3, cM E a3 v4, cH E aH (h0 0) (h1 0) (h2 0) (h3 0) v5, cM E h0 v6, cM E h1 v7, cM E h2 v8, cM E h3 v9, cS E aS v10]) := hw.perm (p_bk (ds := [cG aG (a0 0) (a1 0) (a2 0) (a3 0) (aH 0) (aS 0) v_161, cM E a0 v_162]) (List.Perm.refl _))
                    refine lv_iadd hx hb dL_acts_1028 ?_
                    refine lv_goto (tgt := 1033) hx hb dL_acts_1029 (by decide) ?_
                    exact j_L_acts_1033 C0 _ _ _ _ _ _ _ _ _ _ _ _ _ _ _ _ _ h _ _ _ hw (lv_sub hl [2, 3, 8, 9, 1, 0] rfl)
              · replace h := h.2 c_199
                refine lv_iload_n hx hb dL_acts_884 rfl (lv_at hl 2 rfl) ?_
                refine lv_sipush (v := 10001) hx hb dL_acts_885 (by decide) ?_
                refine x_cS (As := [.int x2, .int 10001]) (rest := []) (F := (List.flatten [cG aG (a0 0) (a1 0) (a2 0) (a3 0) (aH 0) (aS 0) v0, cM E a0 v1, cM E a1 v2, cM E a2 v3, cM E a3 v4, cH E aH (h0 0) (h1 0) (h2 0) (h3 0) v5, cM E h0 v6, cM E h1 v7, cM E h2 v8, cM E h3 v9, cS E aS v10])) C0 hw (p_non _) hl.1 (c_L_low l E  h) 2 gL_acts_L_low rfl ⟨rfl, rfl⟩ (by decide +kernel) ⟨Nat.le_of_ble_eq_true rfl, Nat.le_of_ble_eq_true rfl⟩ rfl rfl (Nat.le_of_ble_eq_true rfl) dL_acts_888 ⟨Nat.zero_le _, Nat.zero_le _⟩ (fun r_168 _u H locs h (hw : mw E A s.heap H locs (List.flatten [cG aG (a0 0) (a1 0) (a2 0) (a3 0) (aH 0) (aS 0) v0, cM E a0 v1, cM E a1 v2, cM E a2 v3, cM E a3 v4, cH E aH (h0 0) (h1 0) (h2 0) (h3 0) v5, cM E h0 v6, cM E h1 v7, cM E h2 v8, cM E h3 v9, cS E aS v10])) => ?_)
                refine lv_istore (lv' := [(11, .int r_168), (10, .int q0), (0, .ref (aG 0)), (2, .int x2), (3, .int x3), (4, .int x4), (5, .int x5), (6, .int x6), (7, .int x7), (8, .int x8), (9, .int x9)]) hx hb dL_acts_891 hl (by decide) rfl (fun ls hl => ?_)
                refine lv_iload hx hb dL_acts_893 (lv_at hl 9 rfl) ?_
                refine lv_if_eq (tgt := 918) hx hb dL_acts_895 (by decide) (fun c_197 => ?_) (fun c_197 => ?_)
                · replace h := h.1 c_197
                  refine lv_iconst (v := 0) hx hb dL_acts_918 (by decide) ?_
                  exact j_L_acts_919 C0 _ _ _ _ _ _ _ _ _ _ _ _ _ _ _ _ _ _ h _ _ _ hw (lv_sub hl [2, 3, 8, 9, 10, 1, 0] rfl)
                · replace h := h.2 c_197
                  refine lv_iload hx hb dL_acts_898 (lv_at hl 1 rfl) ?_
                  refine lv_if_ne (tgt := 918) hx hb dL_acts_900 (by decide) (fun c_196 => ?_) (fun c_196 => ?_)
                  · replace h := h.1 c_196
                    refine lv_iconst (v := 0) hx hb dL_acts_918 (by decide) ?_
                    exact j_L_acts_919 C0 _ _ _ _ _ _ _ _ _ _ _ _ _ _ _ _ _ _ h _ _ _ hw (lv_sub hl [2, 3, 8, 9, 10, 1, 0] rfl)
                  · replace h := h.2 c_196
                    refine lv_aload_n hx hb dL_acts_903 rfl (lv_at hl 2 rfl) ?_
                    refine lv_aload_n hx hb dL_acts_904 rfl (lv_at hl 2 rfl) ?_
                    refine lv_iload hx hb dL_acts_905 (lv_at hl 8 rfl) ?_
                    refine lv_iconst (v := 4) hx hb dL_acts_907 (by decide) ?_
                    refine x_cV (As := [.int x7, .int 4]) (rest := [.ref (aG 0)]) (F := (List.flatten [cM E a1 v2, cM E a2 v3, cM E a3 v4, cH E aH (h0 0) (h1 0) (h2 0) (h3 0) v5, cM E h0 v6, cM E h1 v7, cM E h2 v8, cM E h3 v9, cS E aS v10])) C0 hw (p_fl (ds := [cG aG (a0 0) (a1 0) (a2 0) (a3 0) (aH 0) (aS 0) v0, cM E a0 v1]) (List.Perm.refl _)) hl.1 0 6 rfl rfl (c_X6_stoneOf l E aG a0 a1 a2 a3 aH h0 h1 h2 h3 aS h) 2 gL_acts_X6_stoneOf rfl ⟨rfl, rfl⟩ (by decide +kernel) ⟨Nat.le_of_ble_eq_true rfl, Nat.le_of_ble_eq_true rfl⟩ rfl rfl (Nat.le_of_ble_eq_true rfl) dL_acts_908 ⟨Nat.zero_le _, Nat.zero_le _⟩ (fun r_188 u_195 H locs h hw => ?_)
                    obtain ⟨v_189, v_190⟩ := u_195
                    replace hw : mw E A s.heap H locs (List.flatten [cG aG (a0 0) (a1 0) (a2 0) (a3 0) (aH 0) (aS 0) v_189, cM E a0 v_190, cM E a1 v2, cM E a2 v3, cM E a3 v4, cH E aH (h0 0) (h1 0) (h2 0) (h3 0) v5, cM E h0 v6, cM E h1 v7, cM E h2 v8, cM E h3 v9, cS E aS v10]) := hw.perm (p_bk (ds := [cG aG (a0 0) (a1 0) (a2 0) (a3 0) (aH 0) (aS 0) v_189, cM E a0 v_190]) (List.Perm.refl _))
                    refine lv_iconst (v := 0) hx hb dL_acts_911 (by decide) ?_
                    refine x_cV (As := [.int r_188, .int 0]) (rest := []) (F := (List.flatten [cM E a1 v2, cM E a2 v3, cM E a3 v4, cH E aH (h0 0) (h1 0) (h2 0) (h3 0) v5, cM E h0 v6, cM E h1 v7, cM E h2 v8, cM E h3 v9, cS E aS v10])) C0 hw (p_fl (ds := [cG aG (a0 0) (a1 0) (a2 0) (a3 0) (aH 0) (aS 0) v_189, cM E a0 v_190]) (List.Perm.refl _)) hl.1 0 6 rfl rfl (c_X6_dealerOf l E aG a0 a1 a2 a3 aH h0 h1 h2 h3 aS h) 2 gL_acts_X6_dealerOf rfl ⟨rfl, rfl⟩ (by decide +kernel) ⟨Nat.le_of_ble_eq_true rfl, Nat.le_of_ble_eq_true rfl⟩ rfl rfl (Nat.le_of_ble_eq_true rfl) dL_acts_912 ⟨Nat.zero_le _, Nat.zero_le _⟩ (fun r_191 u_194 H locs h hw => ?_)
                    obtain ⟨v_192, v_193⟩ := u_194
                    replace hw : mw E A s.heap H locs (List.flatten [cG aG (a0 0) (a1 0) (a2 0) (a3 0) (aH 0) (aS 0) v_192, cM E a0 v_193, cM E a1 v2, cM E a2 v3, cM E a3 v4, cH E aH (h0 0) (h1 0) (h2 0) (h3 0) v5, cM E h0 v6, cM E h1 v7, cM E h2 v8, cM E h3 v9, cS E aS v10]) := hw.perm (p_bk (ds := [cG aG (a0 0) (a1 0) (a2 0) (a3 0) (aH 0) (aS 0) v_192, cM E a0 v_193]) (List.Perm.refl _))
                    refine lv_goto (tgt := 919) hx hb dL_acts_915 (by decide) ?_
                    exact j_L_acts_919 C0 _ _ _ _ _ _ _ _ _ _ _ _ _ _ _ _ _ _ h _ _ _ hw (lv_sub hl [2, 3, 8, 9, 10, 1, 0] rfl)
            · replace h := h.2 c_229
              refine lv_iload hx hb dL_acts_787 (lv_at hl 9 rfl) ?_
              refine lv_if_eq (tgt := 803) hx hb dL_acts_789 (by decide) (fun c_228 => ?_) (fun c_228 => ?_)
              · replace h := h.1 c_228
                refine lv_iconst (v := 0) hx hb dL_acts_803 (by decide) ?_
                exact j_L_acts_804 C0 _ _ _ _ _ _ _ _ _ _ _ _ _ _ _ h _ _ _ hw (lv_sub hl [1, 7, 8, 9] rfl)
              · replace h := h.2 c_228
                refine lv_aload_n hx hb dL_acts_792 rfl (lv_at hl 1 rfl) ?_
                refine lv_iload hx hb dL_acts_793 (lv_at hl 7 rfl) ?_
                refine lv_bipush (v := 8) hx hb dL_acts_795 (by decide) ?_
                refine x_cV (As := [.int x7, .int 8]) (rest := []) (F := (List.flatten [cM E a1 v2, cM E a2 v3, cM E a3 v4, cH E aH (h0 0) (h1 0) (h2 0) (h3 0) v5, cM E h0 v6, cM E h1 v7, cM E h2 v8, cM E h3 v9, cS E aS v10])) C0 hw (p_fl (ds := [cG aG (a0 0) (a1 0) (a2 0) (a3 0) (aH 0) (aS 0) v0, cM E a0 v1]) (List.Perm.refl _)) hl.1 0 6 rfl rfl (c_X6_stoneOf l E aG a0 a1 a2 a3 aH h0 h1 h2 h3 aS h) 2 gL_acts_X6_stoneOf rfl ⟨rfl, rfl⟩ (by decide +kernel) ⟨Nat.le_of_ble_eq_true rfl, Nat.le_of_ble_eq_true rfl⟩ rfl rfl (Nat.le_of_ble_eq_true rfl) dL_acts_797 ⟨Nat.zero_le _, Nat.zero_le _⟩ (fun r_224 u_227 H locs h hw => ?_)
                obtain ⟨v_225, v_226⟩ := u_227
                replace hw : mw E A s.heap H locs (List.flatten [cG aG (a0 0) (a1 0) (a2 0) (a3 0) (aH 0) (aS 0) v_225, cM E a0 v_226, cM E a1 v2, cM E a2 v3, cM E a3 v4, cH E aH (h0 0) (h1 0) (h2 0) (h3 0) v5, cM E h0 v6, cM E h1 v7, cM E h2 v8, cM E h3 v9, cS E aS v10]) := hw.perm (p_bk (ds := [cG aG (a0 0) (a1 0) (a2 0) (a3 0) (aH 0) (aS 0) v_225, cM E a0 v_226]) (List.Perm.refl _))
                refine lv_goto (tgt := 804) hx hb dL_acts_800 (by decide) ?_
                exact j_L_acts_804 C0 _ _ _ _ _ _ _ _ _ _ _ _ _ _ _ h _ _ _ hw (lv_sub hl [1, 7, 8, 9] rfl)
          · replace h := h.2 c_257
            refine lv_iload hx hb dL_acts_673 (lv_at hl 9 rfl) ?_
            refine lv_if_eq (tgt := 689) hx hb dL_acts_675 (by decide) (fun c_256 => ?_) (fun c_256 => ?_)
            · replace h := h.1 c_256
              refine lv_iconst (v := 0) hx hb dL_acts_689 (by decide) ?_
              exact j_L_acts_690 C0 _ _ _ _ _ _ _ _ _ _ _ _ _ _ _ h _ _ _ hw (lv_sub hl [1, 7, 8, 9] rfl)
            · replace h := h.2 c_256
              refine lv_aload_n hx hb dL_acts_678 rfl (lv_at hl 1 rfl) ?_
              refine lv_iload hx hb dL_acts_679 (lv_at hl 7 rfl) ?_
              refine lv_bipush (v := 7) hx hb dL_acts_681 (by decide) ?_
              refine x_cV (As := [.int x7, .int 7]) (rest := []) (F := (List.flatten [cM E a1 v2, cM E a2 v3, cM E a3 v4, cH E aH (h0 0) (h1 0) (h2 0) (h3 0) v5, cM E h0 v6, cM E h1 v7, cM E h2 v8, cM E h3 v9, cS E aS v10])) C0 hw (p_fl (ds := [cG aG (a0 0) (a1 0) (a2 0) (a3 0) (aH 0) (aS 0) v0, cM E a0 v1]) (List.Perm.refl _)) hl.1 0 6 rfl rfl (c_X6_stoneOf l E aG a0 a1 a2 a3 aH h0 h1 h2 h3 aS h) 2 gL_acts_X6_stoneOf rfl ⟨rfl, rfl⟩ (by decide +kernel) ⟨Nat.le_of_ble_eq_true rfl, Nat.le_of_ble_eq_true rfl⟩ rfl rfl (Nat.le_of_ble_eq_true rfl) dL_acts_683 ⟨Nat.zero_le _, Nat.zero_le _⟩ (fun r_252 u_255 H locs h hw => ?_)
              obtain ⟨v_253, v_254⟩ := u_255
              replace hw : mw E A s.heap H locs (List.flatten [cG aG (a0 0) (a1 0) (a2 0) (a3 0) (aH 0) (aS 0) v_253, cM E a0 v_254, cM E a1 v2, cM E a2 v3, cM E a3 v4, cH E aH (h0 0) (h1 0) (h2 0) (h3 0) v5, cM E h0 v6, cM E h1 v7, cM E h2 v8, cM E h3 v9, cS E aS v10]) := hw.perm (p_bk (ds := [cG aG (a0 0) (a1 0) (a2 0) (a3 0) (aH 0) (aS 0) v_253, cM E a0 v_254]) (List.Perm.refl _))
              refine lv_goto (tgt := 690) hx hb dL_acts_686 (by decide) ?_
              exact j_L_acts_690 C0 _ _ _ _ _ _ _ _ _ _ _ _ _ _ _ h _ _ _ hw (lv_sub hl [1, 7, 8, 9] rfl)
        · replace h := h.2 c_320
          refine lv_iload_n hx hb dL_acts_458 rfl (lv_at hl 2 rfl) ?_
          refine lv_iload hx hb dL_acts_459 (lv_at hl 4 rfl) ?_
          refine lv_iconst (v := 1) hx hb dL_acts_461 (by decide) ?_
          refine lv_iadd hx hb dL_acts_462 ?_
          refine x_cS (As := [.int x2, .int (x4 + 1)]) (rest := []) (F := (List.flatten [cG aG (a0 0) (a1 0) (a2 0) (a3 0) (aH 0) (aS 0) v0, cM E a0 v1, cM E a1 v2, cM E a2 v3, cM E a3 v4, cH E aH (h0 0) (h1 0) (h2 0) (h3 0) v5, cM E h0 v6, cM E h1 v7, cM E h2 v8, cM E h3 v9, cS E aS v10])) C0 hw (p_non _) hl.1 (c_L_low l E  h) 2 gL_acts_L_low rfl ⟨rfl, rfl⟩ (by decide +kernel) ⟨Nat.le_of_ble_eq_true rfl, Nat.le_of_ble_eq_true rfl⟩ rfl rfl (Nat.le_of_ble_eq_true rfl) dL_acts_463 ⟨Nat.zero_le _, Nat.zero_le _⟩ (fun r_258 _u H locs h (hw : mw E A s.heap H locs (List.flatten [cG aG (a0 0) (a1 0) (a2 0) (a3 0) (aH 0) (aS 0) v0, cM E a0 v1, cM E a1 v2, cM E a2 v3, cM E a3 v4, cH E aH (h0 0) (h1 0) (h2 0) (h3 0) v5, cM E h0 v6, cM E h1 v7, cM E h2 v8, cM E h3 v9, cS E aS v10])) => ?_)
          refine lv_istore (lv' := [(11, .int r_258), (10, .int q0), (0, .ref (aG 0)), (2, .int x2), (3, .int x3), (4, .int x4), (5, .int x5), (6, .int x6), (7, .int x7), (8, .int x8), (9, .int x9)]) hx hb dL_acts_466 hl (by decide) rfl (fun ls hl => ?_)
          refine lv_iload_n hx hb dL_acts_468 rfl (lv_at hl 3 rfl) ?_
          refine lv_iconst (v := 3) hx hb dL_acts_469 (by decide) ?_
          refine lv_ishr hx hb dL_acts_470 ?_
          refine lv_bipush (v := 30) hx hb dL_acts_471 (by decide) ?_
          refine x_cS (As := [.int (x2 >>> (3 &&& 31)), .int 30]) (rest := []) (F := (List.flatten [cG aG (a0 0) (a1 0) (a2 0) (a3 0) (aH 0) (aS 0) v0, cM E a0 v1, cM E a1 v2, cM E a2 v3, cM E a3 v4, cH E aH (h0 0) (h1 0) (h2 0) (h3 0) v5, cM E h0 v6, cM E h1 v7, cM E h2 v8, cM E h3 v9, cS E aS v10])) C0 hw (p_non _) hl.1 (c_L_low l E  h) 2 gL_acts_L_low rfl ⟨rfl, rfl⟩ (by decide +kernel) ⟨Nat.le_of_ble_eq_true rfl, Nat.le_of_ble_eq_true rfl⟩ rfl rfl (Nat.le_of_ble_eq_true rfl) dL_acts_473 ⟨Nat.zero_le _, Nat.zero_le _⟩ (fun r_259 _u H locs h (hw : mw E A s.heap H locs (List.flatten [cG aG (a0 0) (a1 0) (a2 0) (a3 0) (aH 0) (aS 0) v0, cM E a0 v1, cM E a1 v2, cM E a2 v3, cM E a3 v4, cH E aH (h0 0) (h1 0) (h2 0) (h3 0) v5, cM E h0 v6, cM E h1 v7, cM E h2 v8, cM E h3 v9, cS E aS v10])) => ?_)
          refine lv_istore (lv' := [(12, .int r_259), (11, .int r_258), (10, .int q0), (0, .ref (aG 0)), (2, .int x2), (3, .int x3), (4, .int x4), (5, .int x5), (6, .int x6), (7, .int x7), (8, .int x8), (9, .int x9)]) hx hb dL_acts_476 hl (by decide) rfl (fun ls hl => ?_)
          refine lv_iload hx hb dL_acts_478 (lv_at hl 8 rfl) ?_
          refine lv_iload hx hb dL_acts_480 (lv_at hl 6 rfl) ?_
          refine lv_icmp_ge (tgt := 513) hx hb dL_acts_482 (by decide) (fun c_317 => ?_) (fun c_317 => ?_)
          · replace h := h.1 c_317
            refine lv_iconst (v := 0) hx hb dL_acts_513 (by decide) ?_
            exact j_L_acts_514 C0 _ _ _ _ _ _ _ _ _ _ _ _ _ _ _ _ h _ _ _ hw (lv_sub hl [3, 8, 9, 1, 0] rfl)
          · replace h := h.2 c_317
            refine lv_iload hx hb dL_acts_485 (lv_at hl 1 rfl) ?_
            refine lv_iload hx hb dL_acts_487 (lv_at hl 6 rfl) ?_
            refine lv_icmp_ge (tgt := 513) hx hb dL_acts_489 (by decide) (fun c_316 => ?_) (fun c_316 => ?_)
            · replace h := h.1 c_316
              refine lv_iconst (v := 0) hx hb dL_acts_513 (by decide) ?_
              exact j_L_acts_514 C0 _ _ _ _ _ _ _ _ _ _ _ _ _ _ _ _ h _ _ _ hw (lv_sub hl [3, 8, 9, 1, 0] rfl)
            · replace h := h.2 c_316
              refine lv_iload hx hb dL_acts_492 (lv_at hl 8 rfl) ?_
              refine lv_iload hx hb dL_acts_494 (lv_at hl 1 rfl) ?_
              refine lv_icmp_eq (tgt := 513) hx hb dL_acts_496 (by decide) (fun c_315 => ?_) (fun c_315 => ?_)
              · replace h := h.1 c_315
                refine lv_iconst (v := 0) hx hb dL_acts_513 (by decide) ?_
                exact j_L_acts_514 C0 _ _ _ _ _ _ _ _ _ _ _ _ _ _ _ _ h _ _ _ hw (lv_sub hl [3, 8, 9, 1, 0] rfl)
              · replace h := h.2 c_315
                refine lv_iload hx hb dL_acts_499 (lv_at hl 10 rfl) ?_
                refine lv_if_eq (tgt := 513) hx hb dL_acts_501 (by decide) (fun c_314 => ?_) (fun c_314 => ?_)
                · replace h := h.1 c_314
                  refine lv_iconst (v := 0) hx hb dL_acts_513 (by decide) ?_
                  exact j_L_acts_514 C0 _ _ _ _ _ _ _ _ _ _ _ _ _ _ _ _ h _ _ _ hw (lv_sub hl [3, 8, 9, 1, 0] rfl)
                · replace h := h.2 c_314
                  refine lv_iload hx hb dL_acts_504 (lv_at hl 0 rfl) ?_
                  refine lv_if_le (tgt := 513) hx hb dL_acts_506 (by decide) (fun c_313 => ?_) (fun c_313 => ?_)
                  · replace h := h.1 c_313
                    refine lv_iconst (v := 0) hx hb dL_acts_513 (by decide) ?_
                    exact j_L_acts_514 C0 _ _ _ _ _ _ _ _ _ _ _ _ _ _ _ _ h _ _ _ hw (lv_sub hl [3, 8, 9, 1, 0] rfl)
                  · replace h := h.2 c_313
                    refine lv_iconst (v := 1) hx hb dL_acts_509 (by decide) ?_
                    refine lv_goto (tgt := 514) hx hb dL_acts_510 (by decide) ?_
                    exact j_L_acts_514 C0 _ _ _ _ _ _ _ _ _ _ _ _ _ _ _ _ h _ _ _ hw (lv_sub hl [3, 8, 9, 1, 0] rfl)
      · replace h := h.2 c_377
        refine lv_iload_n hx hb dL_acts_230 rfl (lv_at hl 2 rfl) ?_
        refine lv_bipush (v := 6) hx hb dL_acts_231 (by decide) ?_
        refine x_cS (As := [.int x2, .int 6]) (rest := []) (F := (List.flatten [cG aG (a0 0) (a1 0) (a2 0) (a3 0) (aH 0) (aS 0) v0, cM E a0 v1, cM E a1 v2, cM E a2 v3, cM E a3 v4, cH E aH (h0 0) (h1 0) (h2 0) (h3 0) v5, cM E h0 v6, cM E h1 v7, cM E h2 v8, cM E h3 v9, cS E aS v10])) C0 hw (p_non _) hl.1 (c_L_low l E  h) 2 gL_acts_L_low rfl ⟨rfl, rfl⟩ (by decide +kernel) ⟨Nat.le_of_ble_eq_true rfl, Nat.le_of_ble_eq_true rfl⟩ rfl rfl (Nat.le_of_ble_eq_true rfl) dL_acts_233 ⟨Nat.zero_le _, Nat.zero_le _⟩ (fun r_321 _u H locs h (hw : mw E A s.heap H locs (List.flatten [cG aG (a0 0) (a1 0) (a2 0) (a3 0) (aH 0) (aS 0) v0, cM E a0 v1, cM E a1 v2, cM E a2 v3, cM E a3 v4, cH E aH (h0 0) (h1 0) (h2 0) (h3 0) v5, cM E h0 v6, cM E h1 v7, cM E h2 v8, cM E h3 v9, cS E aS v10])) => ?_)
        refine lv_istore (lv' := [(11, .int r_321), (10, .int q0), (0, .ref (aG 0)), (2, .int x2), (3, .int x3), (4, .int x4), (5, .int x5), (6, .int x6), (7, .int x7), (8, .int x8), (9, .int x9)]) hx hb dL_acts_236 hl (by decide) rfl (fun ls hl => ?_)
        refine lv_iload_n hx hb dL_acts_238 rfl (lv_at hl 3 rfl) ?_
        refine lv_iconst (v := 3) hx hb dL_acts_239 (by decide) ?_
        refine lv_ishr hx hb dL_acts_240 ?_
        refine lv_bipush (v := 10) hx hb dL_acts_241 (by decide) ?_
        refine x_cS (As := [.int (x2 >>> (3 &&& 31)), .int 10]) (rest := []) (F := (List.flatten [cG aG (a0 0) (a1 0) (a2 0) (a3 0) (aH 0) (aS 0) v0, cM E a0 v1, cM E a1 v2, cM E a2 v3, cM E a3 v4, cH E aH (h0 0) (h1 0) (h2 0) (h3 0) v5, cM E h0 v6, cM E h1 v7, cM E h2 v8, cM E h3 v9, cS E aS v10])) C0 hw (p_non _) hl.1 (c_L_low l E  h) 2 gL_acts_L_low rfl ⟨rfl, rfl⟩ (by decide +kernel) ⟨Nat.le_of_ble_eq_true rfl, Nat.le_of_ble_eq_true rfl⟩ rfl rfl (Nat.le_of_ble_eq_true rfl) dL_acts_243 ⟨Nat.zero_le _, Nat.zero_le _⟩ (fun r_322 _u H locs h (hw : mw E A s.heap H locs (List.flatten [cG aG (a0 0) (a1 0) (a2 0) (a3 0) (aH 0) (aS 0) v0, cM E a0 v1, cM E a1 v2, cM E a2 v3, cM E a3 v4, cH E aH (h0 0) (h1 0) (h2 0) (h3 0) v5, cM E h0 v6, cM E h1 v7, cM E h2 v8, cM E h3 v9, cS E aS v10])) => ?_)
        refine lv_istore (lv' := [(12, .int r_322), (11, .int r_321), (10, .int q0), (0, .ref (aG 0)), (2, .int x2), (3, .int x3), (4, .int x4), (5, .int x5), (6, .int x6), (7, .int x7), (8, .int x8), (9, .int x9)]) hx hb dL_acts_246 hl (by decide) rfl (fun ls hl => ?_)
        refine lv_iload_n hx hb dL_acts_248 rfl (lv_at hl 4 rfl) ?_
        refine lv_bipush (v := 7) hx hb dL_acts_249 (by decide) ?_
        refine lv_ishr hx hb dL_acts_251 ?_
        refine lv_bipush (v := 8) hx hb dL_acts_252 (by decide) ?_
        refine x_cS (As := [.int (x2 >>> (7 &&& 31)), .int 8]) (rest := []) (F := (List.flatten [cG aG (a0 0) (a1 0) (a2 0) (a3 0) (aH 0) (aS 0) v0, cM E a0 v1, cM E a1 v2, cM E a2 v3, cM E a3 v4, cH E aH (h0 0) (h1 0) (h2 0) (h3 0) v5, cM E h0 v6, cM E h1 v7, cM E h2 v8, cM E h3 v9, cS E aS v10])) C0 hw (p_non _) hl.1 (c_L_low l E  h) 2 gL_acts_L_low rfl ⟨rfl, rfl⟩ (by decide +kernel) ⟨Nat.le_of_ble_eq_true rfl, Nat.le_of_ble_eq_true rfl⟩ rfl rfl (Nat.le_of_ble_eq_true rfl) dL_acts_254 ⟨Nat.zero_le _, Nat.zero_le _⟩ (fun r_323 _u H locs h (hw : mw E A s.heap H locs (List.flatten [cG aG (a0 0) (a1 0) (a2 0) (a3 0) (aH 0) (aS 0) v0, cM E a0 v1, cM E a1 v2, cM E a2 v3, cM E a3 v4, cH E aH (h0 0) (h1 0) (h2 0) (h3 0) v5, cM E h0 v6, cM E h1 v7, cM E h2 v8, cM E h3 v9, cS E aS v10])) => ?_)
        refine lv_istore (lv' := [(13, .int r_323), (12, .int r_322), (11, .int r_321), (10, .int q0), (0, .ref (aG 0)), (2, .int x2), (3, .int x3), (4, .int x4), (5, .int x5), (6, .int x6), (7, .int x7), (8, .int x8), (9, .int x9)]) hx hb dL_acts_257 hl (by decide) rfl (fun ls hl => ?_)
        refine lv_iload_n hx hb dL_acts_259 rfl (lv_at hl 5 rfl) ?_
        refine lv_bipush (v := 11) hx hb dL_acts_260 (by decide) ?_
        refine lv_ishr hx hb dL_acts_262 ?_
        refine lv_bipush (v := 6) hx hb dL_acts_263 (by decide) ?_
        refine x_cS (As := [.int (x2 >>> (11 &&& 31)), .int 6]) (rest := []) (F := (List.flatten [cG aG (a0 0) (a1 0) (a2 0) (a3 0) (aH 0) (aS 0) v0, cM E a0 v1, cM E a1 v2, cM E a2 v3, cM E a3 v4, cH E aH (h0 0) (h1 0) (h2 0) (h3 0) v5, cM E h0 v6, cM E h1 v7, cM E h2 v8, cM E h3 v9, cS E aS v10])) C0 hw (p_non _) hl.1 (c_L_low l E  h) 2 gL_acts_L_low rfl ⟨rfl, rfl⟩ (by decide +kernel) ⟨Nat.le_of_ble_eq_true rfl, Nat.le_of_ble_eq_true rfl⟩ rfl rfl (Nat.le_of_ble_eq_true rfl) dL_acts_265 ⟨Nat.zero_le _, Nat.zero_le _⟩ (fun r_324 _u H locs h (hw : mw E A s.heap H locs (List.flatten [cG aG (a0 0) (a1 0) (a2 0) (a3 0) (aH 0) (aS 0) v0, cM E a0 v1, cM E a1 v2, cM E a2 v3, cM E a3 v4, cH E aH (h0 0) (h1 0) (h2 0) (h3 0) v5, cM E h0 v6, cM E h1 v7, cM E h2 v8, cM E h3 v9, cS E aS v10])) => ?_)
        refine lv_if_ne (tgt := 275) hx hb dL_acts_268 (by decide) (fun c_372 => ?_) (fun c_372 => ?_)
        · replace h := h.1 c_372
          refine lv_iconst (v := 1) hx hb dL_acts_275 (by decide) ?_
          refine lv_iload_n hx hb dL_acts_276 rfl (lv_at hl 5 rfl) ?_
          refine lv_bipush (v := 12) hx hb dL_acts_277 (by decide) ?_
          refine lv_ishr hx hb dL_acts_279 ?_
          refine lv_sipush (v := 5000) hx hb dL_acts_280 (by decide) ?_
          refine x_cS (As := [.int (x2 >>> (12 &&& 31)), .int 5000]) (rest := [.int 1]) (F := (List.flatten [cG aG (a0 0) (a1 0) (a2 0) (a3 0) (aH 0) (aS 0) v0, cM E a0 v1, cM E a1 v2, cM E a2 v3, cM E a3 v4, cH E aH (h0 0) (h1 0) (h2 0) (h3 0) v5, cM E h0 v6, cM E h1 v7, cM E h2 v8, cM E h3 v9, cS E aS v10])) C0 hw (p_non _) hl.1 (c_L_low l E  h) 2 gL_acts_L_low rfl ⟨rfl, rfl⟩ (by decide +kernel) ⟨Nat.le_of_ble_eq_true rfl, Nat.le_of_ble_eq_true rfl⟩ rfl rfl (Nat.le_of_ble_eq_true rfl) dL_acts_283 ⟨Nat.zero_le _, Nat.zero_le _⟩ (fun r_325 _u H locs h (hw : mw E A s.heap H locs (List.flatten [cG aG (a0 0) (a1 0) (a2 0) (a3 0) (aH 0) (aS 0) v0, cM E a0 v1, cM E a1 v2, cM E a2 v3, cM E a3 v4, cH E aH (h0 0) (h1 0) (h2 0) (h3 0) v5, cM E h0 v6, cM E h1 v7, cM E h2 v8, cM E h3 v9, cS E aS v10])) => ?_)
          refine lv_iadd hx hb dL_acts_286 ?_
          exact j_L_acts_287 C0 _ _ _ _ _ _ _ _ _ _ _ _ _ _ _ _ _ h _ _ _ hw (lv_sub hl [4, 5, 6, 2, 1, 0] rfl)
        · replace h := h.2 c_372
          refine lv_iconst (v := 0) hx hb dL_acts_271 (by decide) ?_
          refine lv_goto (tgt := 287) hx hb dL_acts_272 (by decide) ?_
          exact j_L_acts_287 C0 _ _ _ _ _ _ _ _ _ _ _ _ _ _ _ _ _ h _ _ _ hw (lv_sub hl [4, 5, 6, 2, 1, 0] rfl)
    · replace h := h.2 c_393
      refine lv_iload_n hx hb dL_acts_189 rfl (lv_at hl 2 rfl) ?_
      refine lv_iconst (v := 3) hx hb dL_acts_190 (by decide) ?_
      refine x_cS (As := [.int x2, .int 3]) (rest := []) (F := (List.flatten [cG aG (a0 0) (a1 0) (a2 0) (a3 0) (aH 0) (aS 0) v0, cM E a0 v1, cM E a1 v2, cM E a2 v3, cM E a3 v4, cH E aH (h0 0) (h1 0) (h2 0) (h3 0) v5, cM E h0 v6, cM E h1 v7, cM E h2 v8, cM E h3 v9, cS E aS v10])) C0 hw (p_non _) hl.1 (c_L_low l E  h) 2 gL_acts_L_low rfl ⟨rfl, rfl⟩ (by decide +kernel) ⟨Nat.le_of_ble_eq_true rfl, Nat.le_of_ble_eq_true rfl⟩ rfl rfl (Nat.le_of_ble_eq_true rfl) dL_acts_191 ⟨Nat.zero_le _, Nat.zero_le _⟩ (fun r_378 _u H locs h (hw : mw E A s.heap H locs (List.flatten [cG aG (a0 0) (a1 0) (a2 0) (a3 0) (aH 0) (aS 0) v0, cM E a0 v1, cM E a1 v2, cM E a2 v3, cM E a3 v4, cH E aH (h0 0) (h1 0) (h2 0) (h3 0) v5, cM E h0 v6, cM E h1 v7, cM E h2 v8, cM E h3 v9, cS E aS v10])) => ?_)
      refine lv_if_gt (tgt := 218) hx hb dL_acts_194 (by decide) (fun c_391 => ?_) (fun c_391 => ?_)
      · replace h := h.1 c_391
        refine lv_iconst (v := 1) hx hb dL_acts_218 (by decide) ?_
        refine lv_goto (tgt := 223) hx hb dL_acts_219 (by decide) ?_
        exact x_retz C0 rfl ⟨v0, v1, v2, v3, v4, v5, v6, v7, v8, v9, v10⟩ hw h dL_acts_223
      · replace h := h.2 c_391
        refine lv_aload_n hx hb dL_acts_197 rfl (lv_at hl 1 rfl) ?_
        refine x_cV (As := []) (rest := []) (F := (List.flatten [cM E a2 v3, cM E a3 v4, cS E aS v10])) C0 hw (p_fl (ds := [cG aG (a0 0) (a1 0) (a2 0) (a3 0) (aH 0) (aS 0) v0, cM E a0 v1, cM E a1 v2, cH E aH (h0 0) (h1 0) (h2 0) (h3 0) v5, cM E h0 v6, cM E h1 v7, cM E h2 v8, cM E h3 v9]) ((p_pk _ 0 _ rfl).trans (List.Perm.cons _ ((p_pk _ 0 _ rfl).trans (List.Perm.cons _ ((p_pk _ 0 _ rfl).trans (List.Perm.cons _ ((p_pk _ 2 _ rfl).trans (List.Perm.cons _ ((p_pk _ 2 _ rfl).trans (List.Perm.cons _ ((p_pk _ 2 _ rfl).trans (List.Perm.cons _ ((p_pk _ 2 _ rfl).trans (List.Perm.cons _ ((p_pk _ 2 _ rfl).trans (List.Perm.cons _ (List.Perm.refl _)))))))))))))))))) hl.1 0 6 rfl rfl (c_X6_dealer l E aG a0 a1 a2 a3 aH h0 h1 h2 h3 aS h) 0 gL_acts_X6_dealer rfl ⟨rfl, rfl⟩ (by decide +kernel) ⟨Nat.le_of_ble_eq_true rfl, Nat.le_of_ble_eq_true rfl⟩ rfl rfl (Nat.le_of_ble_eq_true rfl) dL_acts_198 ⟨Nat.zero_le _, Nat.zero_le _⟩ (fun r_379 u_390 H locs h hw => ?_)
        obtain ⟨v_380, v_381, v_382, v_383, v_384, v_385, v_386, v_387⟩ := u_390
        replace hw : mw E A s.heap H locs (List.flatten [cG aG (a0 0) (a1 0) (a2 0) (a3 0) (aH 0) (aS 0) v_380, cM E a0 v_381, cM E a1 v_382, cM E a2 v3, cM E a3 v4, cH E aH (h0 0) (h1 0) (h2 0) (h3 0) v_383, cM E h0 v_384, cM E h1 v_385, cM E h2 v_386, cM E h3 v_387, cS E aS v10]) := hw.perm (p_bk (ds := [cG aG (a0 0) (a1 0) (a2 0) (a3 0) (aH 0) (aS 0) v_380, cM E a0 v_381, cM E a1 v_382, cH E aH (h0 0) (h1 0) (h2 0) (h3 0) v_383, cM E h0 v_384, cM E h1 v_385, cM E h2 v_386, cM E h3 v_387]) ((p_pk _ 0 _ rfl).trans (List.Perm.cons _ ((p_pk _ 0 _ rfl).trans (List.Perm.cons _ ((p_pk _ 0 _ rfl).trans (List.Perm.cons _ ((p_pk _ 2 _ rfl).trans (List.Perm.cons _ ((p_pk _ 2 _ rfl).trans (List.Perm.cons _ ((p_pk _ 2 _ rfl).trans (List.Perm.cons _ ((p_pk _ 2 _ rfl).trans (List.Perm.cons _ ((p_pk _ 2 _ rfl).trans (List.Perm.cons _ (List.Perm.refl _))))))))))))))))))
        refine lv_iload hx hb dL_acts_201 (lv_at hl 4 rfl) ?_
        refine lv_bipush (v := 6) hx hb dL_acts_203 (by decide) ?_
        refine lv_icmp_ne (tgt := 213) hx hb dL_acts_205 (by decide) (fun c_389 => ?_) (fun c_389 => ?_)
        · replace h := h.1 c_389
          refine lv_iload hx hb dL_acts_213 (lv_at hl 4 rfl) ?_
          exact j_L_acts_215 C0 _ _ _ _ _ _ _ _ _ _ _ _ _ h _ _ _ hw (lv_sub hl [] rfl)
        · replace h := h.2 c_389
          refine x_ldc (v := (-10000003)) C0 2 rfl dL_acts_208 ?_
          refine lv_goto (tgt := 215) hx hb dL_acts_210 (by decide) ?_
          exact j_L_acts_215 C0 _ _ _ _ _ _ _ _ _ _ _ _ _ h _ _ _ hw (lv_sub hl [] rfl)
  · replace h := h.2 c_414
    refine lv_iload_n hx hb dL_acts_111 rfl (lv_at hl 2 rfl) ?_
    refine lv_sipush (v := 1000) hx hb dL_acts_112 (by decide) ?_
    refine x_cS (As := [.int x2, .int 1000]) (rest := []) (F := (List.flatten [cG aG (a0 0) (a1 0) (a2 0) (a3 0) (aH 0) (aS 0) v0, cM E a0 v1, cM E a1 v2, cM E a2 v3, cM E a3 v4, cH E aH (h0 0) (h1 0) (h2 0) (h3 0) v5, cM E h0 v6, cM E h1 v7, cM E h2 v8, cM E h3 v9, cS E aS v10])) C0 hw (p_non _) hl.1 (c_L_low l E  h) 2 gL_acts_L_low rfl ⟨rfl, rfl⟩ (by decide +kernel) ⟨Nat.le_of_ble_eq_true rfl, Nat.le_of_ble_eq_true rfl⟩ rfl rfl (Nat.le_of_ble_eq_true rfl) dL_acts_115 ⟨Nat.zero_le _, Nat.zero_le _⟩ (fun r_394 _u H locs h (hw : mw E A s.heap H locs (List.flatten [cG aG (a0 0) (a1 0) (a2 0) (a3 0) (aH 0) (aS 0) v0, cM E a0 v1, cM E a1 v2, cM E a2 v3, cM E a3 v4, cH E aH (h0 0) (h1 0) (h2 0) (h3 0) v5, cM E h0 v6, cM E h1 v7, cM E h2 v8, cM E h3 v9, cS E aS v10])) => ?_)
    refine lv_istore (lv' := [(11, .int r_394), (10, .int q0), (0, .ref (aG 0)), (2, .int x2), (3, .int x3), (4, .int x4), (5, .int x5), (6, .int x6), (7, .int x7), (8, .int x8), (9, .int x9)]) hx hb dL_acts_118 hl (by decide) rfl (fun ls hl => ?_)
    refine lv_aload_n hx hb dL_acts_120 rfl (lv_at hl 2 rfl) ?_
    refine lv_iload hx hb dL_acts_121 (lv_at hl 7 rfl) ?_
    refine lv_iload hx hb dL_acts_123 (lv_at hl 0 rfl) ?_
    refine lv_iload_n hx hb dL_acts_125 rfl (lv_at hl 3 rfl) ?_
    refine lv_bipush (v := 10) hx hb dL_acts_126 (by decide) ?_
    refine lv_ishr hx hb dL_acts_128 ?_
    refine lv_iconst (v := 5) hx hb dL_acts_129 (by decide) ?_
    refine x_cS (As := [.int (x2 >>> (10 &&& 31)), .int 5]) (rest := [.int r_394, .int x6, .ref (aG 0)]) (F := (List.flatten [cG aG (a0 0) (a1 0) (a2 0) (a3 0) (aH 0) (aS 0) v0, cM E a0 v1, cM E a1 v2, cM E a2 v3, cM E a3 v4, cH E aH (h0 0) (h1 0) (h2 0) (h3 0) v5, cM E h0 v6, cM E h1 v7, cM E h2 v8, cM E h3 v9, cS E aS v10])) C0 hw (p_non _) hl.1 (c_L_low l E  h) 2 gL_acts_L_low rfl ⟨rfl, rfl⟩ (by decide +kernel) ⟨Nat.le_of_ble_eq_true rfl, Nat.le_of_ble_eq_true rfl⟩ rfl rfl (Nat.le_of_ble_eq_true rfl) dL_acts_130 ⟨Nat.zero_le _, Nat.zero_le _⟩ (fun r_395 _u H locs h (hw : mw E A s.heap H locs (List.flatten [cG aG (a0 0) (a1 0) (a2 0) (a3 0) (aH 0) (aS 0) v0, cM E a0 v1, cM E a1 v2, cM E a2 v3, cM E a3 v4, cH E aH (h0 0) (h1 0) (h2 0) (h3 0) v5, cM E h0 v6, cM E h1 v7, cM E h2 v8, cM E h3 v9, cS E aS v10])) => ?_)
    refine lv_iload_n hx hb dL_acts_133 rfl (lv_at hl 3 rfl) ?_
    refine lv_bipush (v := 13) hx hb dL_acts_134 (by decide) ?_
    refine lv_ishr hx hb dL_acts_136 ?_
    refine lv_iconst (v := 4) hx hb dL_acts_137 (by decide) ?_
    refine x_cS (As := [.int (x2 >>> (13 &&& 31)), .int 4]) (rest := [.int r_395, .int r_394, .int x6, .ref (aG 0)]) (F := (List.flatten [cG aG (a0 0) (a1 0) (a2 0) (a3 0) (aH 0) (aS 0) v0, cM E a0 v1, cM E a1 v2, cM E a2 v3, cM E a3 v4, cH E aH (h0 0) (h1 0) (h2 0) (h3 0) v5, cM E h0 v6, cM E h1 v7, cM E h2 v8, cM E h3 v9, cS E aS v10])) C0 hw (p_non _) hl.1 (c_L_low l E  h) 2 gL_acts_L_low rfl ⟨rfl, rfl⟩ (by decide +kernel) ⟨Nat.le_of_ble_eq_true rfl, Nat.le_of_ble_eq_true rfl⟩ rfl rfl (Nat.le_of_ble_eq_true rfl) dL_acts_138 ⟨Nat.zero_le _, Nat.zero_le _⟩ (fun r_396 _u H locs h (hw : mw E A s.heap H locs (List.flatten [cG aG (a0 0) (a1 0) (a2 0) (a3 0) (aH 0) (aS 0) v0, cM E a0 v1, cM E a1 v2, cM E a2 v3, cM E a3 v4, cH E aH (h0 0) (h1 0) (h2 0) (h3 0) v5, cM E h0 v6, cM E h1 v7, cM E h2 v8, cM E h3 v9, cS E aS v10])) => ?_)
    refine x_cV (As := [.int x6, .int r_394, .int r_395, .int r_396]) (rest := []) (F := (List.flatten [cM E a2 v3, cM E a3 v4, cS E aS v10])) C0 hw (p_fl (ds := [cG aG (a0 0) (a1 0) (a2 0) (a3 0) (aH 0) (aS 0) v0, cM E a0 v1, cM E a1 v2, cH E aH (h0 0) (h1 0) (h2 0) (h3 0) v5, cM E h0 v6, cM E h1 v7, cM E h2 v8, cM E h3 v9]) ((p_pk _ 0 _ rfl).trans (List.Perm.cons _ ((p_pk _ 0 _ rfl).trans (List.Perm.cons _ ((p_pk _ 0 _ rfl).trans (List.Perm.cons _ ((p_pk _ 2 _ rfl).trans (List.Perm.cons _ ((p_pk _ 2 _ rfl).trans (List.Perm.cons _ ((p_pk _ 2 _ rfl).trans (List.Perm.cons _ ((p_pk _ 2 _ rfl).trans (List.Perm.cons _ ((p_pk _ 2 _ rfl).trans (List.Perm.cons _ (List.Perm.refl _)))))))))))))))))) hl.1 0 6 rfl rfl (c_X6_stone l E aG a0 a1 a2 a3 aH h0 h1 h2 h3 aS h) 4 gL_acts_X6_stone rfl ⟨rfl, rfl⟩ (by decide +kernel) ⟨Nat.le_of_ble_eq_true rfl, Nat.le_of_ble_eq_true rfl⟩ rfl rfl (Nat.le_of_ble_eq_true rfl) dL_acts_141 ⟨Nat.zero_le _, Nat.zero_le _⟩ (fun r_397 u_410 H locs h hw => ?_)
    obtain ⟨v_398, v_399, v_400, v_401, v_402, v_403, v_404, v_405⟩ := u_410
    replace hw : mw E A s.heap H locs (List.flatten [cG aG (a0 0) (a1 0) (a2 0) (a3 0) (aH 0) (aS 0) v_398, cM E a0 v_399, cM E a1 v_400, cM E a2 v3, cM E a3 v4, cH E aH (h0 0) (h1 0) (h2 0) (h3 0) v_401, cM E h0 v_402, cM E h1 v_403, cM E h2 v_404, cM E h3 v_405, cS E aS v10]) := hw.perm (p_bk (ds := [cG aG (a0 0) (a1 0) (a2 0) (a3 0) (aH 0) (aS 0) v_398, cM E a0 v_399, cM E a1 v_400, cH E aH (h0 0) (h1 0) (h2 0) (h3 0) v_401, cM E h0 v_402, cM E h1 v_403, cM E h2 v_404, cM E h3 v_405]) ((p_pk _ 0 _ rfl).trans (List.Perm.cons _ ((p_pk _ 0 _ rfl).trans (List.Perm.cons _ ((p_pk _ 0 _ rfl).trans (List.Perm.cons _ ((p_pk _ 2 _ rfl).trans (List.Perm.cons _ ((p_pk _ 2 _ rfl).trans (List.Perm.cons _ ((p_pk _ 2 _ rfl).trans (List.Perm.cons _ ((p_pk _ 2 _ rfl).trans (List.Perm.cons _ ((p_pk _ 2 _ rfl).trans (List.Perm.cons _ (List.Perm.refl _))))))))))))))))))
    refine lv_iload hx hb dL_acts_144 (lv_at hl 7 rfl) ?_
    refine lv_iload hx hb dL_acts_146 (lv_at hl 5 rfl) ?_
    refine lv_icmp_eq (tgt := 156) hx hb dL_acts_148 (by decide) (fun c_409 => ?_) (fun c_409 => ?_)
    · replace h := h.1 c_409
      exact j_L_acts_156 C0 _ _ _ _ _ _ _ _ _ _ _ _ h _ _ _ hw (lv_sub hl [] rfl)
    · replace h := h.2 c_409
      refine lv_iload hx hb dL_acts_151 (lv_at hl 0 rfl) ?_
      refine lv_if_ne (tgt := 161) hx hb dL_acts_153 (by decide) (fun c_408 => ?_) (fun c_408 => ?_)
      · replace h := h.1 c_408
        refine lv_iload hx hb dL_acts_161 (lv_at hl 6 rfl) ?_
        refine lv_bipush (v := 20) hx hb dL_acts_163 (by decide) ?_
        refine lv_icmp_ne (tgt := 173) hx hb dL_acts_165 (by decide) (fun c_407 => ?_) (fun c_407 => ?_)
        · replace h := h.1 c_407
          refine lv_iload hx hb dL_acts_173 (lv_at hl 6 rfl) ?_
          exact j_L_acts_175 C0 _ _ _ _ _ _ _ _ _ _ _ _ _ h _ _ _ hw (lv_sub hl [] rfl)
        · replace h := h.2 c_407
          refine x_ldc (v := (-10000003)) C0 2 rfl dL_acts_168 ?_
          refine lv_goto (tgt := 175) hx hb dL_acts_170 (by decide) ?_
          exact j_L_acts_175 C0 _ _ _ _ _ _ _ _ _ _ _ _ _ h _ _ _ hw (lv_sub hl [] rfl)
      · replace h := h.2 c_408
        exact j_L_acts_156 C0 _ _ _ _ _ _ _ _ _ _ _ _ h _ _ _ hw (lv_sub hl [] rfl)
