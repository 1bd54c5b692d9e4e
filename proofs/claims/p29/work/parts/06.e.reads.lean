abbrev rmL_reads : Room := { frames := 8, cells := 0, slots := 0, locals := 176 }
set_option maxRecDepth 100000 in
set_option maxHeartbeats 4000000 in
theorem j_L_reads_134 {p : Program} {l : Launch} {e : Env} {s : State} {m : MethodId} {below : List Frame} {meth : Method} {c : Code} {E : EE} {A : Nat → Prop} {aG : Nat → Nat} {a0 : Nat → Nat} {a1 : Nat → Nat} {a2 : Nat → Nat} {a3 : Nat → Nat} {aH : Nat → Nat} {h0 : Nat → Nat} {h1 : Nat → Nat} {h2 : Nat → Nat} {h3 : Nat → Nat} {aS : Nat → Nat} {args : Array Value} (C0 : Cx E p s m args meth c A cL_reads 8 RL wsL_reads (some .boolean)) {post : Int32 → V → V → V → V → V → V → V → V → V → V → V → Prop}  : ∀ (x4 : Int32) (v0 : V) (v1 : V) (v2 : V) (v3 : V) (v4 : V) (v5 : V) (v6 : V) (v7 : V) (v8 : V) (v9 : V) (v10 : V), sj_L_reads_134 post  x4 v0 v1 v2 v3 v4 v5 v6 v7 v8 v9 v10 → ∀ (H : Heap) (locs : List Loc) (ls : Array Slot), mw E A s.heap H locs (List.flatten [cG aG (a0 0) (a1 0) (a2 0) (a3 0) (aH 0) (aS 0) v0, cM E a0 v1, cM E a1 v2, cM E a2 v3, cM E a3 v4, cH E aH (h0 0) (h1 0) (h2 0) (h3 0) v5, cM E h0 v6, cM E h1 v7, cM E h2 v8, cM E h3 v9, cS E aS v10]) → lv_has ls 8 [(0, .ref (aG 0)), (4, .int x4)] → W p l e rmL_reads s m args below meth c H locs 0 0 (qI E A (fun r (u : V × V × V × V × V × V × V × V × V × V × V) => post r u.1 u.2.1 u.2.2.1 u.2.2.2.1 u.2.2.2.2.1 u.2.2.2.2.2.1 u.2.2.2.2.2.2.1 u.2.2.2.2.2.2.2.1 u.2.2.2.2.2.2.2.2.1 u.2.2.2.2.2.2.2.2.2.1 u.2.2.2.2.2.2.2.2.2.2) (fun (u : V × V × V × V × V × V × V × V × V × V × V) => (List.flatten [cG aG (a0 0) (a1 0) (a2 0) (a3 0) (aH 0) (aS 0) u.1, cM E a0 u.2.1, cM E a1 u.2.2.1, cM E a2 u.2.2.2.1, cM E a3 u.2.2.2.2.1, cH E aH (h0 0) (h1 0) (h2 0) (h3 0) u.2.2.2.2.2.1, cM E h0 u.2.2.2.2.2.2.1, cM E h1 u.2.2.2.2.2.2.2.1, cM E h2 u.2.2.2.2.2.2.2.2.1, cM E h3 u.2.2.2.2.2.2.2.2.2.1, cS E aS u.2.2.2.2.2.2.2.2.2.2])) below args s) (F0 m 134 ls []) := by
  have hx := C0.1
  have hb := C0.2.1
  intro x4 v0 v1 v2 v3 v4 v5 v6 v7 v8 v9 v10 h H locs ls hw hl
  unfold sj_L_reads_134 at h
  refine lv_aload_n hx hb dL_reads_134 rfl (lv_at hl 0 rfl) ?_
  refine lv_bipush (v := 12) hx hb dL_reads_135 (by decide) ?_
  refine x_cV (As := [.int 12]) (rest := []) (F := (List.flatten [cM E a1 v2, cM E a2 v3, cM E a3 v4, cM E h0 v6, cM E h1 v7, cM E h2 v8, cM E h3 v9])) C0 hw (p_fl (ds := [cG aG (a0 0) (a1 0) (a2 0) (a3 0) (aH 0) (aS 0) v0, cM E a0 v1, cH E aH (h0 0) (h1 0) (h2 0) (h3 0) v5, cS E aS v10]) ((p_pk _ 0 _ rfl).trans (List.Perm.cons _ ((p_pk _ 0 _ rfl).trans (List.Perm.cons _ ((p_pk _ 3 _ rfl).trans (List.Perm.cons _ ((p_pk _ 7 _ rfl).trans (List.Perm.cons _ (List.Perm.refl _)))))))))) hl.1 0 6 rfl rfl (c_X6_count l E aG a0 a1 a2 a3 aH h0 h1 h2 h3 aS h) 1 gL_reads_X6_count rfl ⟨rfl, rfl⟩ (by decide +kernel) ⟨Nat.le_of_ble_eq_true rfl, Nat.le_of_ble_eq_true rfl⟩ rfl rfl (Nat.le_of_ble_eq_true rfl) dL_reads_137 ⟨Nat.zero_le _, Nat.zero_le _⟩ (fun r_31 u_37 H locs h hw => ?_)
  obtain ⟨v_32, v_33, v_34, v_35⟩ := u_37
  replace hw : mw E A s.heap H locs (List.flatten [cG aG (a0 0) (a1 0) (a2 0) (a3 0) (aH 0) (aS 0) v_32, cM E a0 v_33, cM E a1 v2, cM E a2 v3, cM E a3 v4, cH E aH (h0 0) (h1 0) (h2 0) (h3 0) v_34, cM E h0 v6, cM E h1 v7, cM E h2 v8, cM E h3 v9, cS E aS v_35]) := hw.perm (p_bk (ds := [cG aG (a0 0) (a1 0) (a2 0) (a3 0) (aH 0) (aS 0) v_32, cM E a0 v_33, cH E aH (h0 0) (h1 0) (h2 0) (h3 0) v_34, cS E aS v_35]) ((p_pk _ 0 _ rfl).trans (List.Perm.cons _ ((p_pk _ 0 _ rfl).trans (List.Perm.cons _ ((p_pk _ 3 _ rfl).trans (List.Perm.cons _ ((p_pk _ 7 _ rfl).trans (List.Perm.cons _ (List.Perm.refl _))))))))))
  refine lv_iload hx hb dL_reads_140 (lv_at hl 1 rfl) ?_
  refine lv_icmp_ne (tgt := 149) hx hb dL_reads_142 (by decide) (fun c_36 => ?_) (fun c_36 => ?_)
  · replace h := h.1 c_36
    refine lv_iconst (v := 0) hx hb dL_reads_149 (by decide) ?_
    exact x_retz C0 rfl ⟨v_32, v_33, v2, v3, v4, v_34, v6, v7, v8, v9, v_35⟩ hw h dL_reads_150
  · replace h := h.2 c_36
    refine lv_iconst (v := 1) hx hb dL_reads_145 (by decide) ?_
    refine lv_goto (tgt := 150) hx hb dL_reads_146 (by decide) ?_
    exact x_retz C0 rfl ⟨v_32, v_33, v2, v3, v4, v_34, v6, v7, v8, v9, v_35⟩ hw h dL_reads_150
set_option maxRecDepth 100000 in
set_option maxHeartbeats 4000000 in
theorem j_L_reads_122 {p : Program} {l : Launch} {e : Env} {s : State} {m : MethodId} {below : List Frame} {meth : Method} {c : Code} {E : EE} {A : Nat → Prop} {aG : Nat → Nat} {a0 : Nat → Nat} {a1 : Nat → Nat} {a2 : Nat → Nat} {a3 : Nat → Nat} {aH : Nat → Nat} {h0 : Nat → Nat} {h1 : Nat → Nat} {h2 : Nat → Nat} {h3 : Nat → Nat} {aS : Nat → Nat} {args : Array Value} (C0 : Cx E p s m args meth c A cL_reads 8 RL wsL_reads (some .boolean)) {post : Int32 → V → V → V → V → V → V → V → V → V → V → V → Prop}  : ∀ (x4 : Int32) (x6 : Int32) (q0 : Int32) (v0 : V) (v1 : V) (v2 : V) (v3 : V) (v4 : V) (v5 : V) (v6 : V) (v7 : V) (v8 : V) (v9 : V) (v10 : V), sj_L_reads_122 post  x4 x6 q0 v0 v1 v2 v3 v4 v5 v6 v7 v8 v9 v10 → ∀ (H : Heap) (locs : List Loc) (ls : Array Slot), mw E A s.heap H locs (List.flatten [cG aG (a0 0) (a1 0) (a2 0) (a3 0) (aH 0) (aS 0) v0, cM E a0 v1, cM E a1 v2, cM E a2 v3, cM E a3 v4, cH E aH (h0 0) (h1 0) (h2 0) (h3 0) v5, cM E h0 v6, cM E h1 v7, cM E h2 v8, cM E h3 v9, cS E aS v10]) → lv_has ls 8 [(0, .ref (aG 0)), (4, .int x4), (6, .int x6)] → W p l e rmL_reads s m args below meth c H locs 0 0 (qI E A (fun r (u : V × V × V × V × V × V × V × V × V × V × V) => post r u.1 u.2.1 u.2.2.1 u.2.2.2.1 u.2.2.2.2.1 u.2.2.2.2.2.1 u.2.2.2.2.2.2.1 u.2.2.2.2.2.2.2.1 u.2.2.2.2.2.2.2.2.1 u.2.2.2.2.2.2.2.2.2.1 u.2.2.2.2.2.2.2.2.2.2) (fun (u : V × V × V × V × V × V × V × V × V × V × V) => (List.flatten [cG aG (a0 0) (a1 0) (a2 0) (a3 0) (aH 0) (aS 0) u.1, cM E a0 u.2.1, cM E a1 u.2.2.1, cM E a2 u.2.2.2.1, cM E a3 u.2.2.2.2.1, cH E aH (h0 0) (h1 0) (h2 0) (h3 0) u.2.2.2.2.2.1, cM E h0 u.2.2.2.2.2.2.1, cM E h1 u.2.2.2.2.2.2.2.1, cM E h2 u.2.2.2.2.2.2.2.2.1, cM E h3 u.2.2.2.2.2.2.2.2.2.1, cS E aS u.2.2.2.2.2.2.2.2.2.2])) below args s) (F0 m 122 ls [.int q0]) := by
  have hx := C0.1
  have hb := C0.2.1
  intro x4 x6 q0 v0 v1 v2 v3 v4 v5 v6 v7 v8 v9 v10 h H locs ls hw hl
  unfold sj_L_reads_122 at h
  refine lv_istore (lv' := [(7, .int q0), (0, .ref (aG 0)), (4, .int x4), (6, .int x6)]) hx hb dL_reads_122 hl (by decide) rfl (fun ls hl => ?_)
  refine lv_iload hx hb dL_reads_124 (lv_at hl 3 rfl) ?_
  refine lv_if_ne (tgt := 134) hx hb dL_reads_126 (by decide) (fun c_39 => ?_) (fun c_39 => ?_)
  · replace h := h.1 c_39
    exact j_L_reads_134 C0 _ _ _ _ _ _ _ _ _ _ _ _ h _ _ _ hw (lv_sub hl [1, 2] rfl)
  · replace h := h.2 c_39
    refine lv_iload hx hb dL_reads_129 (lv_at hl 0 rfl) ?_
    refine lv_if_eq (tgt := 149) hx hb dL_reads_131 (by decide) (fun c_38 => ?_) (fun c_38 => ?_)
    · replace h := h.1 c_38
      refine lv_iconst (v := 0) hx hb dL_reads_149 (by decide) ?_
      exact x_retz C0 rfl ⟨v0, v1, v2, v3, v4, v5, v6, v7, v8, v9, v10⟩ hw h dL_reads_150
    · replace h := h.2 c_38
      exact j_L_reads_134 C0 _ _ _ _ _ _ _ _ _ _ _ _ h _ _ _ hw (lv_sub hl [1, 2] rfl)
set_option maxRecDepth 100000 in
set_option maxHeartbeats 4000000 in
theorem j_L_reads_100 {p : Program} {l : Launch} {e : Env} {s : State} {m : MethodId} {below : List Frame} {meth : Method} {c : Code} {E : EE} {A : Nat → Prop} {aG : Nat → Nat} {a0 : Nat → Nat} {a1 : Nat → Nat} {a2 : Nat → Nat} {a3 : Nat → Nat} {aH : Nat → Nat} {h0 : Nat → Nat} {h1 : Nat → Nat} {h2 : Nat → Nat} {h3 : Nat → Nat} {aS : Nat → Nat} {args : Array Value} (C0 : Cx E p s m args meth c A cL_reads 8 RL wsL_reads (some .boolean)) {post : Int32 → V → V → V → V → V → V → V → V → V → V → V → Prop}  : ∀ (x2 : Int32) (x3 : Int32) (x4 : Int32) (x6 : Int32) (v0 : V) (v1 : V) (v2 : V) (v3 : V) (v4 : V) (v5 : V) (v6 : V) (v7 : V) (v8 : V) (v9 : V) (v10 : V), sj_L_reads_100 post  x2 x3 x4 x6 v0 v1 v2 v3 v4 v5 v6 v7 v8 v9 v10 → ∀ (H : Heap) (locs : List Loc) (ls : Array Slot), mw E A s.heap H locs (List.flatten [cG aG (a0 0) (a1 0) (a2 0) (a3 0) (aH 0) (aS 0) v0, cM E a0 v1, cM E a1 v2, cM E a2 v3, cM E a3 v4, cH E aH (h0 0) (h1 0) (h2 0) (h3 0) v5, cM E h0 v6, cM E h1 v7, cM E h2 v8, cM E h3 v9, cS E aS v10]) → lv_has ls 8 [(0, .ref (aG 0)), (2, .int x2), (3, .int x3), (4, .int x4), (6, .int x6)] → W p l e rmL_reads s m args below meth c H locs 0 0 (qI E A (fun r (u : V × V × V × V × V × V × V × V × V × V × V) => post r u.1 u.2.1 u.2.2.1 u.2.2.2.1 u.2.2.2.2.1 u.2.2.2.2.2.1 u.2.2.2.2.2.2.1 u.2.2.2.2.2.2.2.1 u.2.2.2.2.2.2.2.2.1 u.2.2.2.2.2.2.2.2.2.1 u.2.2.2.2.2.2.2.2.2.2) (fun (u : V × V × V × V × V × V × V × V × V × V × V) => (List.flatten [cG aG (a0 0) (a1 0) (a2 0) (a3 0) (aH 0) (aS 0) u.1, cM E a0 u.2.1, cM E a1 u.2.2.1, cM E a2 u.2.2.2.1, cM E a3 u.2.2.2.2.1, cH E aH (h0 0) (h1 0) (h2 0) (h3 0) u.2.2.2.2.2.1, cM E h0 u.2.2.2.2.2.2.1, cM E h1 u.2.2.2.2.2.2.2.1, cM E h2 u.2.2.2.2.2.2.2.2.1, cM E h3 u.2.2.2.2.2.2.2.2.2.1, cS E aS u.2.2.2.2.2.2.2.2.2.2])) below args s) (F0 m 100 ls []) := by
  have hx := C0.1
  have hb := C0.2.1
  intro x2 x3 x4 x6 v0 v1 v2 v3 v4 v5 v6 v7 v8 v9 v10 h H locs ls hw hl
  unfold sj_L_reads_100 at h
  refine lv_iload_n hx hb dL_reads_100 rfl (lv_at hl 1 rfl) ?_
  refine lv_iconst (v := 2) hx hb dL_reads_101 (by decide) ?_
  refine lv_icmp_ne (tgt := 121) hx hb dL_reads_102 (by decide) (fun c_42 => ?_) (fun c_42 => ?_)
  · replace h := h.1 c_42
    refine lv_iconst (v := 0) hx hb dL_reads_121 (by decide) ?_
    exact j_L_reads_122 C0 _ _ _ _ _ _ _ _ _ _ _ _ _ _ h _ _ _ hw (lv_sub hl [0, 3, 4] rfl)
  · replace h := h.2 c_42
    refine lv_iload_n hx hb dL_reads_105 rfl (lv_at hl 2 rfl) ?_
    refine x_ldc (v := (-10000001)) C0 3 rfl dL_reads_106 ?_
    refine lv_icmp_gt (tgt := 121) hx hb dL_reads_108 (by decide) (fun c_41 => ?_) (fun c_41 => ?_)
    · replace h := h.1 c_41
      refine lv_iconst (v := 0) hx hb dL_reads_121 (by decide) ?_
      exact j_L_reads_122 C0 _ _ _ _ _ _ _ _ _ _ _ _ _ _ h _ _ _ hw (lv_sub hl [0, 3, 4] rfl)
    · replace h := h.2 c_41
      refine lv_iload_n hx hb dL_reads_111 rfl (lv_at hl 2 rfl) ?_
      refine x_ldc (v := (-10000004)) C0 1 rfl dL_reads_112 ?_
      refine lv_icmp_le (tgt := 121) hx hb dL_reads_114 (by decide) (fun c_40 => ?_) (fun c_40 => ?_)
      · replace h := h.1 c_40
        refine lv_iconst (v := 0) hx hb dL_reads_121 (by decide) ?_
        exact j_L_reads_122 C0 _ _ _ _ _ _ _ _ _ _ _ _ _ _ h _ _ _ hw (lv_sub hl [0, 3, 4] rfl)
      · replace h := h.2 c_40
        refine lv_iconst (v := 1) hx hb dL_reads_117 (by decide) ?_
        refine lv_goto (tgt := 122) hx hb dL_reads_118 (by decide) ?_
        exact j_L_reads_122 C0 _ _ _ _ _ _ _ _ _ _ _ _ _ _ h _ _ _ hw (lv_sub hl [0, 3, 4] rfl)
set_option maxRecDepth 100000 in
set_option maxHeartbeats 4000000 in
theorem j_L_reads_70 {p : Program} {l : Launch} {e : Env} {s : State} {m : MethodId} {below : List Frame} {meth : Method} {c : Code} {E : EE} {A : Nat → Prop} {aG : Nat → Nat} {a0 : Nat → Nat} {a1 : Nat → Nat} {a2 : Nat → Nat} {a3 : Nat → Nat} {aH : Nat → Nat} {h0 : Nat → Nat} {h1 : Nat → Nat} {h2 : Nat → Nat} {h3 : Nat → Nat} {aS : Nat → Nat} {args : Array Value} (C0 : Cx E p s m args meth c A cL_reads 8 RL wsL_reads (some .boolean)) {post : Int32 → V → V → V → V → V → V → V → V → V → V → V → Prop}  : ∀ (x1 : Int32) (x2 : Int32) (x3 : Int32) (x4 : Int32) (x5 : Int32) (q0 : Int32) (v0 : V) (v1 : V) (v2 : V) (v3 : V) (v4 : V) (v5 : V) (v6 : V) (v7 : V) (v8 : V) (v9 : V) (v10 : V), sj_L_reads_70 post  x1 x2 x3 x4 x5 q0 v0 v1 v2 v3 v4 v5 v6 v7 v8 v9 v10 → ∀ (H : Heap) (locs : List Loc) (ls : Array Slot), mw E A s.heap H locs (List.flatten [cG aG (a0 0) (a1 0) (a2 0) (a3 0) (aH 0) (aS 0) v0, cM E a0 v1, cM E a1 v2, cM E a2 v3, cM E a3 v4, cH E aH (h0 0) (h1 0) (h2 0) (h3 0) v5, cM E h0 v6, cM E h1 v7, cM E h2 v8, cM E h3 v9, cS E aS v10]) → lv_has ls 8 [(0, .ref (aG 0)), (1, .int x1), (2, .int x2), (3, .int x3), (4, .int x4), (5, .int x5)] → W p l e rmL_reads s m args below meth c H locs 0 0 (qI E A (fun r (u : V × V × V × V × V × V × V × V × V × V × V) => post r u.1 u.2.1 u.2.2.1 u.2.2.2.1 u.2.2.2.2.1 u.2.2.2.2.2.1 u.2.2.2.2.2.2.1 u.2.2.2.2.2.2.2.1 u.2.2.2.2.2.2.2.2.1 u.2.2.2.2.2.2.2.2.2.1 u.2.2.2.2.2.2.2.2.2.2) (fun (u : V × V × V × V × V × V × V × V × V × V × V) => (List.flatten [cG aG (a0 0) (a1 0) (a2 0) (a3 0) (aH 0) (aS 0) u.1, cM E a0 u.2.1, cM E a1 u.2.2.1, cM E a2 u.2.2.2.1, cM E a3 u.2.2.2.2.1, cH E aH (h0 0) (h1 0) (h2 0) (h3 0) u.2.2.2.2.2.1, cM E h0 u.2.2.2.2.2.2.1, cM E h1 u.2.2.2.2.2.2.2.1, cM E h2 u.2.2.2.2.2.2.2.2.1, cM E h3 u.2.2.2.2.2.2.2.2.2.1, cS E aS u.2.2.2.2.2.2.2.2.2.2])) below args s) (F0 m 70 ls [.int q0]) := by
  have hx := C0.1
  have hb := C0.2.1
  intro x1 x2 x3 x4 x5 q0 v0 v1 v2 v3 v4 v5 v6 v7 v8 v9 v10 h H locs ls hw hl
  unfold sj_L_reads_70 at h
  refine lv_istore (lv' := [(6, .int q0), (0, .ref (aG 0)), (1, .int x1), (2, .int x2), (3, .int x3), (4, .int x4), (5, .int x5)]) hx hb dL_reads_70 hl (by decide) rfl (fun ls hl => ?_)
  refine lv_iload_n hx hb dL_reads_72 rfl (lv_at hl 2 rfl) ?_
  refine lv_if_lt (tgt := 121) hx hb dL_reads_73 (by decide) (fun c_47 => ?_) (fun c_47 => ?_)
  · replace h := h.1 c_47
    refine lv_iconst (v := 0) hx hb dL_reads_121 (by decide) ?_
    exact j_L_reads_122 C0 _ _ _ _ _ _ _ _ _ _ _ _ _ _ h _ _ _ hw (lv_sub hl [1, 5, 0] rfl)
  · replace h := h.2 c_47
    refine lv_iload_n hx hb dL_reads_76 rfl (lv_at hl 2 rfl) ?_
    refine lv_iload hx hb dL_reads_77 (lv_at hl 5 rfl) ?_
    refine lv_icmp_ge (tgt := 121) hx hb dL_reads_79 (by decide) (fun c_46 => ?_) (fun c_46 => ?_)
    · replace h := h.1 c_46
      refine lv_iconst (v := 0) hx hb dL_reads_121 (by decide) ?_
      exact j_L_reads_122 C0 _ _ _ _ _ _ _ _ _ _ _ _ _ _ h _ _ _ hw (lv_sub hl [1, 5, 0] rfl)
    · replace h := h.2 c_46
      refine lv_iload hx hb dL_reads_82 (lv_at hl 6 rfl) ?_
      refine x_ldc (v := (-10000002)) C0 2 rfl dL_reads_84 ?_
      refine lv_icmp_ne (tgt := 121) hx hb dL_reads_86 (by decide) (fun c_45 => ?_) (fun c_45 => ?_)
      · replace h := h.1 c_45
        refine lv_iconst (v := 0) hx hb dL_reads_121 (by decide) ?_
        exact j_L_reads_122 C0 _ _ _ _ _ _ _ _ _ _ _ _ _ _ h _ _ _ hw (lv_sub hl [1, 5, 0] rfl)
      · replace h := h.2 c_45
        refine lv_iload_n hx hb dL_reads_89 rfl (lv_at hl 3 rfl) ?_
        refine lv_iconst (v := 1) hx hb dL_reads_90 (by decide) ?_
        refine lv_icmp_ne (tgt := 100) hx hb dL_reads_91 (by decide) (fun c_44 => ?_) (fun c_44 => ?_)
        · replace h := h.1 c_44
          exact j_L_reads_100 C0 _ _ _ _ _ _ _ _ _ _ _ _ _ _ _ h _ _ _ hw (lv_sub hl [1, 3, 4, 5, 0] rfl)
        · replace h := h.2 c_44
          refine lv_iload_n hx hb dL_reads_94 rfl (lv_at hl 4 rfl) ?_
          refine x_ldc (v := (-10000004)) C0 1 rfl dL_reads_95 ?_
          refine lv_icmp_eq (tgt := 117) hx hb dL_reads_97 (by decide) (fun c_43 => ?_) (fun c_43 => ?_)
          · replace h := h.1 c_43
            refine lv_iconst (v := 1) hx hb dL_reads_117 (by decide) ?_
            refine lv_goto (tgt := 122) hx hb dL_reads_118 (by decide) ?_
            exact j_L_reads_122 C0 _ _ _ _ _ _ _ _ _ _ _ _ _ _ h _ _ _ hw (lv_sub hl [1, 5, 0] rfl)
          · replace h := h.2 c_43
            exact j_L_reads_100 C0 _ _ _ _ _ _ _ _ _ _ _ _ _ _ _ h _ _ _ hw (lv_sub hl [1, 3, 4, 5, 0] rfl)
set_option maxRecDepth 100000 in
set_option maxHeartbeats 4000000 in
theorem c_L_reads (l : Launch) (E : EE) (aG : Nat → Nat) (a0 : Nat → Nat) (a1 : Nat → Nat) (a2 : Nat → Nat) (a3 : Nat → Nat) (aH : Nat → Nat) (h0 : Nat → Nat) (h1 : Nat → Nat) (h2 : Nat → Nat) (h3 : Nat → Nat) (aS : Nat → Nat) {v0 : V} {v1 : V} {v2 : V} {v3 : V} {v4 : V} {v5 : V} {v6 : V} {v7 : V} {v8 : V} {v9 : V} {v10 : V}  {post : Int32 → V → V → V → V → V → V → V → V → V → V → V → Prop} (h : s_L_reads v0 v1 v2 v3 v4 v5 v6 v7 v8 v9 v10 post) : KI l E yL_reads wsL_reads rmL_reads [.ref (aG 0)] (List.flatten [cG aG (a0 0) (a1 0) (a2 0) (a3 0) (aH 0) (aS 0) v0, cM E a0 v1, cM E a1 v2, cM E a2 v3, cM E a3 v4, cH E aH (h0 0) (h1 0) (h2 0) (h3 0) v5, cM E h0 v6, cM E h1 v7, cM E h2 v8, cM E h3 v9, cS E aS v10]) (S := V × V × V × V × V × V × V × V × V × V × V) (fun r (u : V × V × V × V × V × V × V × V × V × V × V) => post r u.1 u.2.1 u.2.2.1 u.2.2.2.1 u.2.2.2.2.1 u.2.2.2.2.2.1 u.2.2.2.2.2.2.1 u.2.2.2.2.2.2.2.1 u.2.2.2.2.2.2.2.2.1 u.2.2.2.2.2.2.2.2.2.1 u.2.2.2.2.2.2.2.2.2.2) (fun (u : V × V × V × V × V × V × V × V × V × V × V) => (List.flatten [cG aG (a0 0) (a1 0) (a2 0) (a3 0) (aH 0) (aS 0) u.1, cM E a0 u.2.1, cM E a1 u.2.2.1, cM E a2 u.2.2.2.1, cM E a3 u.2.2.2.2.1, cH E aH (h0 0) (h1 0) (h2 0) (h3 0) u.2.2.2.2.2.1, cM E h0 u.2.2.2.2.2.2.1, cM E h1 u.2.2.2.2.2.2.2.1, cM E h2 u.2.2.2.2.2.2.2.2.1, cM E h3 u.2.2.2.2.2.2.2.2.2.1, cS E aS u.2.2.2.2.2.2.2.2.2.2])) := by
  unfold s_L_reads at h
  refine KI.go (cc := cL_reads) (ret := (some .boolean)) (maxL := 8) (own := RL) (by decide) rfl (Nat.le_of_ble_eq_true rfl) rfl (fun p e s m below meth c A ls C0 hw hl => ?_)
  have hx := C0.1
  have hb := C0.2.1
  replace hl : lv_has ls 8 [(0, .ref (aG 0))] := hl
  refine lv_aload_n hx hb dL_reads_0 rfl (lv_at hl 0 rfl) ?_
  refine lv_iconst (v := 0) hx hb dL_reads_1 (by decide) ?_
  refine x_cV (As := [.int 0]) (rest := []) (F := (List.flatten [cM E a1 v2, cM E a3 v4, cH E aH (h0 0) (h1 0) (h2 0) (h3 0) v5, cM E h0 v6, cM E h1 v7, cM E h2 v8, cM E h3 v9])) C0 hw (p_fl (ds := [cG aG (a0 0) (a1 0) (a2 0) (a3 0) (aH 0) (aS 0) v0, cM E a0 v1, cM E a2 v3, cS E aS v10]) ((p_pk _ 0 _ rfl).trans (List.Perm.cons _ ((p_pk _ 0 _ rfl).trans (List.Perm.cons _ ((p_pk _ 1 _ rfl).trans (List.Perm.cons _ ((p_pk _ 7 _ rfl).trans (List.Perm.cons _ (List.Perm.refl _)))))))))) hl.1 0 6 rfl rfl (c_X6_fault l E aG a0 a1 a2 a3 aH h0 h1 h2 h3 aS h) 1 gL_reads_X6_fault rfl ⟨rfl, rfl⟩ (by decide +kernel) ⟨Nat.le_of_ble_eq_true rfl, Nat.le_of_ble_eq_true rfl⟩ rfl rfl (Nat.le_of_ble_eq_true rfl) dL_reads_2 ⟨Nat.zero_le _, Nat.zero_le _⟩ (fun r_1 u_57 H locs h hw => ?_)
  obtain ⟨v_2, v_3, v_4, v_5⟩ := u_57
  replace hw : mw E A s.heap H locs (List.flatten [cG aG (a0 0) (a1 0) (a2 0) (a3 0) (aH 0) (aS 0) v_2, cM E a0 v_3, cM E a1 v2, cM E a2 v_4, cM E a3 v4, cH E aH (h0 0) (h1 0) (h2 0) (h3 0) v5, cM E h0 v6, cM E h1 v7, cM E h2 v8, cM E h3 v9, cS E aS v_5]) := hw.perm (p_bk (ds := [cG aG (a0 0) (a1 0) (a2 0) (a3 0) (aH 0) (aS 0) v_2, cM E a0 v_3, cM E a2 v_4, cS E aS v_5]) ((p_pk _ 0 _ rfl).trans (List.Perm.cons _ ((p_pk _ 0 _ rfl).trans (List.Perm.cons _ ((p_pk _ 1 _ rfl).trans (List.Perm.cons _ ((p_pk _ 7 _ rfl).trans (List.Perm.cons _ (List.Perm.refl _))))))))))
  refine lv_istore_n (lv' := [(1, .int r_1), (0, .ref (aG 0))]) hx hb dL_reads_5 rfl hl (by decide) rfl (fun ls hl => ?_)
  refine lv_aload_n hx hb dL_reads_6 rfl (lv_at hl 1 rfl) ?_
  refine lv_iconst (v := 1) hx hb dL_reads_7 (by decide) ?_
  refine x_cV (As := [.int 1]) (rest := []) (F := (List.flatten [cM E a1 v2, cM E a3 v4, cH E aH (h0 0) (h1 0) (h2 0) (h3 0) v5, cM E h0 v6, cM E h1 v7, cM E h2 v8, cM E h3 v9])) C0 hw (p_fl (ds := [cG aG (a0 0) (a1 0) (a2 0) (a3 0) (aH 0) (aS 0) v_2, cM E a0 v_3, cM E a2 v_4, cS E aS v_5]) ((p_pk _ 0 _ rfl).trans (List.Perm.cons _ ((p_pk _ 0 _ rfl).trans (List.Perm.cons _ ((p_pk _ 1 _ rfl).trans (List.Perm.cons _ ((p_pk _ 7 _ rfl).trans (List.Perm.cons _ (List.Perm.refl _)))))))))) hl.1 0 6 rfl rfl (c_X6_fault l E aG a0 a1 a2 a3 aH h0 h1 h2 h3 aS h) 1 gL_reads_X6_fault rfl ⟨rfl, rfl⟩ (by decide +kernel) ⟨Nat.le_of_ble_eq_true rfl, Nat.le_of_ble_eq_true rfl⟩ rfl rfl (Nat.le_of_ble_eq_true rfl) dL_reads_8 ⟨Nat.zero_le _, Nat.zero_le _⟩ (fun r_6 u_56 H locs h hw => ?_)
  obtain ⟨v_7, v_8, v_9, v_10⟩ := u_56
  replace hw : mw E A s.heap H locs (List.flatten [cG aG (a0 0) (a1 0) (a2 0) (a3 0) (aH 0) (aS 0) v_7, cM E a0 v_8, cM E a1 v2, cM E a2 v_9, cM E a3 v4, cH E aH (h0 0) (h1 0) (h2 0) (h3 0) v5, cM E h0 v6, cM E h1 v7, cM E h2 v8, cM E h3 v9, cS E aS v_10]) := hw.perm (p_bk (ds := [cG aG (a0 0) (a1 0) (a2 0) (a3 0) (aH 0) (aS 0) v_7, cM E a0 v_8, cM E a2 v_9, cS E aS v_10]) ((p_pk _ 0 _ rfl).trans (List.Perm.cons _ ((p_pk _ 0 _ rfl).trans (List.Perm.cons _ ((p_pk _ 1 _ rfl).trans (List.Perm.cons _ ((p_pk _ 7 _ rfl).trans (List.Perm.cons _ (List.Perm.refl _))))))))))
  refine lv_istore_n (lv' := [(2, .int r_6), (1, .int r_1), (0, .ref (aG 0))]) hx hb dL_reads_11 rfl hl (by decide) rfl (fun ls hl => ?_)
  refine lv_aload_n hx hb dL_reads_12 rfl (lv_at hl 2 rfl) ?_
  refine lv_iconst (v := 2) hx hb dL_reads_13 (by decide) ?_
  refine x_cV (As := [.int 2]) (rest := []) (F := (List.flatten [cM E a1 v2, cM E a3 v4, cH E aH (h0 0) (h1 0) (h2 0) (h3 0) v5, cM E h0 v6, cM E h1 v7, cM E h2 v8, cM E h3 v9])) C0 hw (p_fl (ds := [cG aG (a0 0) (a1 0) (a2 0) (a3 0) (aH 0) (aS 0) v_7, cM E a0 v_8, cM E a2 v_9, cS E aS v_10]) ((p_pk _ 0 _ rfl).trans (List.Perm.cons _ ((p_pk _ 0 _ rfl).trans (List.Perm.cons _ ((p_pk _ 1 _ rfl).trans (List.Perm.cons _ ((p_pk _ 7 _ rfl).trans (List.Perm.cons _ (List.Perm.refl _)))))))))) hl.1 0 6 rfl rfl (c_X6_fault l E aG a0 a1 a2 a3 aH h0 h1 h2 h3 aS h) 1 gL_reads_X6_fault rfl ⟨rfl, rfl⟩ (by decide +kernel) ⟨Nat.le_of_ble_eq_true rfl, Nat.le_of_ble_eq_true rfl⟩ rfl rfl (Nat.le_of_ble_eq_true rfl) dL_reads_14 ⟨Nat.zero_le _, Nat.zero_le _⟩ (fun r_11 u_55 H locs h hw => ?_)
  obtain ⟨v_12, v_13, v_14, v_15⟩ := u_55
  replace hw : mw E A s.heap H locs (List.flatten [cG aG (a0 0) (a1 0) (a2 0) (a3 0) (aH 0) (aS 0) v_12, cM E a0 v_13, cM E a1 v2, cM E a2 v_14, cM E a3 v4, cH E aH (h0 0) (h1 0) (h2 0) (h3 0) v5, cM E h0 v6, cM E h1 v7, cM E h2 v8, cM E h3 v9, cS E aS v_15]) := hw.perm (p_bk (ds := [cG aG (a0 0) (a1 0) (a2 0) (a3 0) (aH 0) (aS 0) v_12, cM E a0 v_13, cM E a2 v_14, cS E aS v_15]) ((p_pk _ 0 _ rfl).trans (List.Perm.cons _ ((p_pk _ 0 _ rfl).trans (List.Perm.cons _ ((p_pk _ 1 _ rfl).trans (List.Perm.cons _ ((p_pk _ 7 _ rfl).trans (List.Perm.cons _ (List.Perm.refl _))))))))))
  refine lv_istore_n (lv' := [(3, .int r_11), (2, .int r_6), (1, .int r_1), (0, .ref (aG 0))]) hx hb dL_reads_17 rfl hl (by decide) rfl (fun ls hl => ?_)
  refine lv_aload_n hx hb dL_reads_18 rfl (lv_at hl 3 rfl) ?_
  refine lv_bipush (v := 12) hx hb dL_reads_19 (by decide) ?_
  refine x_cV (As := [.int 12]) (rest := []) (F := (List.flatten [cM E a1 v2, cM E a2 v_14, cM E a3 v4, cM E h0 v6, cM E h1 v7, cM E h2 v8, cM E h3 v9])) C0 hw (p_fl (ds := [cG aG (a0 0) (a1 0) (a2 0) (a3 0) (aH 0) (aS 0) v_12, cM E a0 v_13, cH E aH (h0 0) (h1 0) (h2 0) (h3 0) v5, cS E aS v_15]) ((p_pk _ 0 _ rfl).trans (List.Perm.cons _ ((p_pk _ 0 _ rfl).trans (List.Perm.cons _ ((p_pk _ 3 _ rfl).trans (List.Perm.cons _ ((p_pk _ 7 _ rfl).trans (List.Perm.cons _ (List.Perm.refl _)))))))))) hl.1 0 6 rfl rfl (c_X6_count l E aG a0 a1 a2 a3 aH h0 h1 h2 h3 aS h) 1 gL_reads_X6_count rfl ⟨rfl, rfl⟩ (by decide +kernel) ⟨Nat.le_of_ble_eq_true rfl, Nat.le_of_ble_eq_true rfl⟩ rfl rfl (Nat.le_of_ble_eq_true rfl) dL_reads_21 ⟨Nat.zero_le _, Nat.zero_le _⟩ (fun r_16 u_54 H locs h hw => ?_)
  obtain ⟨v_17, v_18, v_19, v_20⟩ := u_54
  replace hw : mw E A s.heap H locs (List.flatten [cG aG (a0 0) (a1 0) (a2 0) (a3 0) (aH 0) (aS 0) v_17, cM E a0 v_18, cM E a1 v2, cM E a2 v_14, cM E a3 v4, cH E aH (h0 0) (h1 0) (h2 0) (h3 0) v_19, cM E h0 v6, cM E h1 v7, cM E h2 v8, cM E h3 v9, cS E aS v_20]) := hw.perm (p_bk (ds := [cG aG (a0 0) (a1 0) (a2 0) (a3 0) (aH 0) (aS 0) v_17, cM E a0 v_18, cH E aH (h0 0) (h1 0) (h2 0) (h3 0) v_19, cS E aS v_20]) ((p_pk _ 0 _ rfl).trans (List.Perm.cons _ ((p_pk _ 0 _ rfl).trans (List.Perm.cons _ ((p_pk _ 3 _ rfl).trans (List.Perm.cons _ ((p_pk _ 7 _ rfl).trans (List.Perm.cons _ (List.Perm.refl _))))))))))
  refine lv_istore (lv' := [(4, .int r_16), (3, .int r_11), (2, .int r_6), (1, .int r_1), (0, .ref (aG 0))]) hx hb dL_reads_24 hl (by decide) rfl (fun ls hl => ?_)
  refine lv_aload_n hx hb dL_reads_26 rfl (lv_at hl 4 rfl) ?_
  refine x_cV (As := []) (rest := []) (F := (List.flatten [cM E a1 v2, cM E a3 v4])) C0 hw (p_fl (ds := [cG aG (a0 0) (a1 0) (a2 0) (a3 0) (aH 0) (aS 0) v_17, cM E a0 v_18, cM E a2 v_14, cH E aH (h0 0) (h1 0) (h2 0) (h3 0) v_19, cM E h0 v6, cM E h1 v7, cM E h2 v8, cM E h3 v9, cS E aS v_20]) ((p_pk _ 0 _ rfl).trans (List.Perm.cons _ ((p_pk _ 0 _ rfl).trans (List.Perm.cons _ ((p_pk _ 1 _ rfl).trans (List.Perm.cons _ ((p_pk _ 2 _ rfl).trans (List.Perm.cons _ ((p_pk _ 2 _ rfl).trans (List.Perm.cons _ ((p_pk _ 2 _ rfl).trans (List.Perm.cons _ ((p_pk _ 2 _ rfl).trans (List.Perm.cons _ ((p_pk _ 2 _ rfl).trans (List.Perm.cons _ ((p_pk _ 2 _ rfl).trans (List.Perm.cons _ (List.Perm.refl _)))))))))))))))))))) hl.1 0 6 rfl rfl (c_X6_play l E aG a0 a1 a2 a3 aH h0 h1 h2 h3 aS h) 0 gL_reads_X6_play rfl ⟨rfl, rfl⟩ (by decide +kernel) ⟨Nat.le_of_ble_eq_true rfl, Nat.le_of_ble_eq_true rfl⟩ rfl rfl (Nat.le_of_ble_eq_true rfl) dL_reads_27 ⟨Nat.zero_le _, Nat.zero_le _⟩ (fun r_21 u_53 H locs h hw => ?_)
  obtain ⟨v_22, v_23, v_24, v_25, v_26, v_27, v_28, v_29, v_30⟩ := u_53
  replace hw : mw E A s.heap H locs (List.flatten [cG aG (a0 0) (a1 0) (a2 0) (a3 0) (aH 0) (aS 0) v_22, cM E a0 v_23, cM E a1 v2, cM E a2 v_24, cM E a3 v4, cH E aH (h0 0) (h1 0) (h2 0) (h3 0) v_25, cM E h0 v_26, cM E h1 v_27, cM E h2 v_28, cM E h3 v_29, cS E aS v_30]) := hw.perm (p_bk (ds := [cG aG (a0 0) (a1 0) (a2 0) (a3 0) (aH 0) (aS 0) v_22, cM E a0 v_23, cM E a2 v_24, cH E aH (h0 0) (h1 0) (h2 0) (h3 0) v_25, cM E h0 v_26, cM E h1 v_27, cM E h2 v_28, cM E h3 v_29, cS E aS v_30]) ((p_pk _ 0 _ rfl).trans (List.Perm.cons _ ((p_pk _ 0 _ rfl).trans (List.Perm.cons _ ((p_pk _ 1 _ rfl).trans (List.Perm.cons _ ((p_pk _ 2 _ rfl).trans (List.Perm.cons _ ((p_pk _ 2 _ rfl).trans (List.Perm.cons _ ((p_pk _ 2 _ rfl).trans (List.Perm.cons _ ((p_pk _ 2 _ rfl).trans (List.Perm.cons _ ((p_pk _ 2 _ rfl).trans (List.Perm.cons _ ((p_pk _ 2 _ rfl).trans (List.Perm.cons _ (List.Perm.refl _))))))))))))))))))))
  refine lv_istore (lv' := [(5, .int r_21), (4, .int r_16), (3, .int r_11), (2, .int r_6), (1, .int r_1), (0, .ref (aG 0))]) hx hb dL_reads_30 hl (by decide) rfl (fun ls hl => ?_)
  refine lv_iload_n hx hb dL_reads_32 rfl (lv_at hl 4 rfl) ?_
  refine x_ldc (v := (-10000004)) C0 1 rfl dL_reads_33 ?_
  refine lv_icmp_ne (tgt := 69) hx hb dL_reads_35 (by decide) (fun c_52 => ?_) (fun c_52 => ?_)
  · replace h := h.1 c_52
    refine lv_iconst (v := 0) hx hb dL_reads_69 (by decide) ?_
    exact j_L_reads_70 C0 _ _ _ _ _ _ _ _ _ _ _ _ _ _ _ _ _ h _ _ _ hw (lv_sub hl [5, 4, 3, 2, 1, 0] rfl)
  · replace h := h.2 c_52
    refine lv_iload_n hx hb dL_reads_38 rfl (lv_at hl 3 rfl) ?_
    refine x_ldc (v := (-10000004)) C0 1 rfl dL_reads_39 ?_
    refine lv_icmp_ne (tgt := 69) hx hb dL_reads_41 (by decide) (fun c_51 => ?_) (fun c_51 => ?_)
    · replace h := h.1 c_51
      refine lv_iconst (v := 0) hx hb dL_reads_69 (by decide) ?_
      exact j_L_reads_70 C0 _ _ _ _ _ _ _ _ _ _ _ _ _ _ _ _ _ h _ _ _ hw (lv_sub hl [5, 4, 3, 2, 1, 0] rfl)
    · replace h := h.2 c_51
      refine lv_iload_n hx hb dL_reads_44 rfl (lv_at hl 2 rfl) ?_
      refine x_ldc (v := (-10000004)) C0 1 rfl dL_reads_45 ?_
      refine lv_icmp_ne (tgt := 69) hx hb dL_reads_47 (by decide) (fun c_50 => ?_) (fun c_50 => ?_)
      · replace h := h.1 c_50
        refine lv_iconst (v := 0) hx hb dL_reads_69 (by decide) ?_
        exact j_L_reads_70 C0 _ _ _ _ _ _ _ _ _ _ _ _ _ _ _ _ _ h _ _ _ hw (lv_sub hl [5, 4, 3, 2, 1, 0] rfl)
      · replace h := h.2 c_50
        refine lv_iload hx hb dL_reads_50 (lv_at hl 0 rfl) ?_
        refine lv_if_lt (tgt := 69) hx hb dL_reads_52 (by decide) (fun c_49 => ?_) (fun c_49 => ?_)
        · replace h := h.1 c_49
          refine lv_iconst (v := 0) hx hb dL_reads_69 (by decide) ?_
          exact j_L_reads_70 C0 _ _ _ _ _ _ _ _ _ _ _ _ _ _ _ _ _ h _ _ _ hw (lv_sub hl [5, 4, 3, 2, 1, 0] rfl)
        · replace h := h.2 c_49
          refine lv_bipush (v := 7) hx hb dL_reads_55 (by decide) ?_
          refine lv_iload hx hb dL_reads_57 (lv_at hl 0 rfl) ?_
          refine lv_imul hx hb dL_reads_59 ?_
          refine lv_iload hx hb dL_reads_60 (lv_at hl 1 rfl) ?_
          refine lv_icmp_gt (tgt := 69) hx hb dL_reads_62 (by decide) (fun c_48 => ?_) (fun c_48 => ?_)
          · replace h := h.1 c_48
            refine lv_iconst (v := 0) hx hb dL_reads_69 (by decide) ?_
            exact j_L_reads_70 C0 _ _ _ _ _ _ _ _ _ _ _ _ _ _ _ _ _ h _ _ _ hw (lv_sub hl [5, 4, 3, 2, 1, 0] rfl)
          · replace h := h.2 c_48
            refine lv_iconst (v := 1) hx hb dL_reads_65 (by decide) ?_
            refine lv_goto (tgt := 70) hx hb dL_reads_66 (by decide) ?_
            exact j_L_reads_70 C0 _ _ _ _ _ _ _ _ _ _ _ _ _ _ _ _ _ h _ _ _ hw (lv_sub hl [5, 4, 3, 2, 1, 0] rfl)
