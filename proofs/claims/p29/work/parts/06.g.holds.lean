abbrev rmL_holds : Room := { frames := 5, cells := 0, slots := 0, locals := 111 }
set_option maxRecDepth 100000 in
set_option maxHeartbeats 4000000 in
theorem j_L_holds_44 {p : Program} {l : Launch} {e : Env} {s : State} {m : MethodId} {below : List Frame} {meth : Method} {c : Code} {E : EE} {A : Nat → Prop} {aG : Nat → Nat} {a0 : Nat → Nat} {a1 : Nat → Nat} {a2 : Nat → Nat} {a3 : Nat → Nat} {aH : Nat → Nat} {h0 : Nat → Nat} {h1 : Nat → Nat} {h2 : Nat → Nat} {h3 : Nat → Nat} {aS : Nat → Nat} {args : Array Value} (C0 : Cx E p s m args meth c A cL_holds 7 RL wsL_holds (some .boolean)) {post : Int32 → V → V → V → V → V → V → V → V → V → V → V → Prop} {f1 : Int32} {rec : Int32 → Int32 → V → V → V → V → V → V → V → V → V → V → V → Prop} {k0 : Int32 → Int32 → V → V → V → V → V → V → V → V → V → V → V → Prop} (hrec : ∀ (x2 : Int32) (x3 : Int32) (v0 : V) (v1 : V) (v2 : V) (v3 : V) (v4 : V) (v5 : V) (v6 : V) (v7 : V) (v8 : V) (v9 : V) (v10 : V), rec x2 x3 v0 v1 v2 v3 v4 v5 v6 v7 v8 v9 v10 → ∀ (H : Heap) (locs : List Loc) (ls : Array Slot), mw E A s.heap H locs (List.flatten [cG aG (a0 0) (a1 0) (a2 0) (a3 0) (aH 0) (aS 0) v0, cM E a0 v1, cM E a1 v2, cM E a2 v3, cM E a3 v4, cH E aH (h0 0) (h1 0) (h2 0) (h3 0) v5, cM E h0 v6, cM E h1 v7, cM E h2 v8, cM E h3 v9, cS E aS v10]) → lv_has ls 7 [(0, .ref (aG 0)), (1, .int f1), (2, .int x2), (3, .int x3)] → W p l e rmL_holds s m args below meth c H locs 0 0 (qI E A (fun r (u : V × V × V × V × V × V × V × V × V × V × V) => post r u.1 u.2.1 u.2.2.1 u.2.2.2.1 u.2.2.2.2.1 u.2.2.2.2.2.1 u.2.2.2.2.2.2.1 u.2.2.2.2.2.2.2.1 u.2.2.2.2.2.2.2.2.1 u.2.2.2.2.2.2.2.2.2.1 u.2.2.2.2.2.2.2.2.2.2) (fun (u : V × V × V × V × V × V × V × V × V × V × V) => (List.flatten [cG aG (a0 0) (a1 0) (a2 0) (a3 0) (aH 0) (aS 0) u.1, cM E a0 u.2.1, cM E a1 u.2.2.1, cM E a2 u.2.2.2.1, cM E a3 u.2.2.2.2.1, cH E aH (h0 0) (h1 0) (h2 0) (h3 0) u.2.2.2.2.2.1, cM E h0 u.2.2.2.2.2.2.1, cM E h1 u.2.2.2.2.2.2.2.1, cM E h2 u.2.2.2.2.2.2.2.2.1, cM E h3 u.2.2.2.2.2.2.2.2.2.1, cS E aS u.2.2.2.2.2.2.2.2.2.2])) below args s) (F0 m 4 ls [])) (hk0 : ∀ (x2 : Int32) (x3 : Int32) (v0 : V) (v1 : V) (v2 : V) (v3 : V) (v4 : V) (v5 : V) (v6 : V) (v7 : V) (v8 : V) (v9 : V) (v10 : V), k0 x2 x3 v0 v1 v2 v3 v4 v5 v6 v7 v8 v9 v10 → ∀ (H : Heap) (locs : List Loc) (ls : Array Slot), mw E A s.heap H locs (List.flatten [cG aG (a0 0) (a1 0) (a2 0) (a3 0) (aH 0) (aS 0) v0, cM E a0 v1, cM E a1 v2, cM E a2 v3, cM E a3 v4, cH E aH (h0 0) (h1 0) (h2 0) (h3 0) v5, cM E h0 v6, cM E h1 v7, cM E h2 v8, cM E h3 v9, cS E aS v10]) → lv_has ls 7 [(0, .ref (aG 0)), (1, .int f1), (2, .int x2), (3, .int x3)] → W p l e rmL_holds s m args below meth c H locs 0 0 (qI E A (fun r (u : V × V × V × V × V × V × V × V × V × V × V) => post r u.1 u.2.1 u.2.2.1 u.2.2.2.1 u.2.2.2.2.1 u.2.2.2.2.2.1 u.2.2.2.2.2.2.1 u.2.2.2.2.2.2.2.1 u.2.2.2.2.2.2.2.2.1 u.2.2.2.2.2.2.2.2.2.1 u.2.2.2.2.2.2.2.2.2.2) (fun (u : V × V × V × V × V × V × V × V × V × V × V) => (List.flatten [cG aG (a0 0) (a1 0) (a2 0) (a3 0) (aH 0) (aS 0) u.1, cM E a0 u.2.1, cM E a1 u.2.2.1, cM E a2 u.2.2.2.1, cM E a3 u.2.2.2.2.1, cH E aH (h0 0) (h1 0) (h2 0) (h3 0) u.2.2.2.2.2.1, cM E h0 u.2.2.2.2.2.2.1, cM E h1 u.2.2.2.2.2.2.2.1, cM E h2 u.2.2.2.2.2.2.2.2.1, cM E h3 u.2.2.2.2.2.2.2.2.2.1, cS E aS u.2.2.2.2.2.2.2.2.2.2])) below args s) (F0 m 84 ls [])) : ∀ (x2 : Int32) (x3 : Int32) (x4 : Int32) (q0 : Int32) (q1 : Int32) (v0 : V) (v1 : V) (v2 : V) (v3 : V) (v4 : V) (v5 : V) (v6 : V) (v7 : V) (v8 : V) (v9 : V) (v10 : V), sj_L_holds_44 post f1 rec k0 x2 x3 x4 q0 q1 v0 v1 v2 v3 v4 v5 v6 v7 v8 v9 v10 → ∀ (H : Heap) (locs : List Loc) (ls : Array Slot), mw E A s.heap H locs (List.flatten [cG aG (a0 0) (a1 0) (a2 0) (a3 0) (aH 0) (aS 0) v0, cM E a0 v1, cM E a1 v2, cM E a2 v3, cM E a3 v4, cH E aH (h0 0) (h1 0) (h2 0) (h3 0) v5, cM E h0 v6, cM E h1 v7, cM E h2 v8, cM E h3 v9, cS E aS v10]) → lv_has ls 7 [(0, .ref (aG 0)), (1, .int f1), (2, .int x2), (3, .int x3), (4, .int x4)] → W p l e rmL_holds s m args below meth c H locs 0 0 (qI E A (fun r (u : V × V × V × V × V × V × V × V × V × V × V) => post r u.1 u.2.1 u.2.2.1 u.2.2.2.1 u.2.2.2.2.1 u.2.2.2.2.2.1 u.2.2.2.2.2.2.1 u.2.2.2.2.2.2.2.1 u.2.2.2.2.2.2.2.2.1 u.2.2.2.2.2.2.2.2.2.1 u.2.2.2.2.2.2.2.2.2.2) (fun (u : V × V × V × V × V × V × V × V × V × V × V) => (List.flatten [cG aG (a0 0) (a1 0) (a2 0) (a3 0) (aH 0) (aS 0) u.1, cM E a0 u.2.1, cM E a1 u.2.2.1, cM E a2 u.2.2.2.1, cM E a3 u.2.2.2.2.1, cH E aH (h0 0) (h1 0) (h2 0) (h3 0) u.2.2.2.2.2.1, cM E h0 u.2.2.2.2.2.2.1, cM E h1 u.2.2.2.2.2.2.2.1, cM E h2 u.2.2.2.2.2.2.2.2.1, cM E h3 u.2.2.2.2.2.2.2.2.2.1, cS E aS u.2.2.2.2.2.2.2.2.2.2])) below args s) (F0 m 44 ls [.int q1, .int q0]) := by
  have hx := C0.1
  have hb := C0.2.1
  intro x2 x3 x4 q0 q1 v0 v1 v2 v3 v4 v5 v6 v7 v8 v9 v10 h H locs ls hw hl
  unfold sj_L_holds_44 at h
  refine lv_iadd hx hb dL_holds_44 ?_
  refine lv_istore_n (lv' := [(2, .int (q0 + q1)), (0, .ref (aG 0)), (1, .int f1), (3, .int x3), (4, .int x4)]) hx hb dL_holds_45 rfl hl (by decide) rfl (fun ls hl => ?_)
  refine lv_iload hx hb dL_holds_46 (lv_at hl 4 rfl) ?_
  refine lv_if_le (tgt := 78) hx hb dL_holds_48 (by decide) (fun c_9 => ?_) (fun c_9 => ?_)
  · replace h := h.1 c_9
    refine lv_iinc (v := (x3 + 1)) (lv' := [(3, .int (x3 + 1)), (2, .int (q0 + q1)), (0, .ref (aG 0)), (1, .int f1), (4, .int x4)]) hx hb dL_holds_78 hl (k := 3) rfl rfl (by decide) rfl (fun ls hl => ?_)
    refine lv_goto (tgt := 4) hx hb dL_holds_81 (by decide) ?_
    exact hrec _ _ _ _ _ _ _ _ _ _ _ _ _ h _ _ _ hw (lv_sub hl [2, 3, 1, 0] rfl)
  · replace h := h.2 c_9
    refine lv_aload_n hx hb dL_holds_51 rfl (lv_at hl 1 rfl) ?_
    refine lv_iload_n hx hb dL_holds_52 rfl (lv_at hl 3 rfl) ?_
    refine lv_bipush (v := 80) hx hb dL_holds_53 (by decide) ?_
    refine lv_idiv hx hb dL_holds_55 (by decide) ?_
    refine lv_iload_n hx hb dL_holds_56 rfl (lv_at hl 3 rfl) ?_
    refine lv_bipush (v := 8) hx hb dL_holds_57 (by decide) ?_
    refine lv_idiv hx hb dL_holds_59 (by decide) ?_
    refine lv_bipush (v := 10) hx hb dL_holds_60 (by decide) ?_
    refine lv_irem hx hb dL_holds_62 (by decide) ?_
    refine lv_iload_n hx hb dL_holds_63 rfl (lv_at hl 3 rfl) ?_
    refine lv_bipush (v := 8) hx hb dL_holds_64 (by decide) ?_
    refine lv_irem hx hb dL_holds_66 (by decide) ?_
    refine lv_iconst (v := 0) hx hb dL_holds_67 (by decide) ?_
    refine x_cV (As := [.int (x3 / 80), .int ((x3 / 8) - (x3 / 8) / 10 * 10), .int (x3 - x3 / 8 * 8), .int 0]) (rest := []) (F := (List.flatten [cM E a1 v2, cM E a2 v3, cM E a3 v4, cH E aH (h0 0) (h1 0) (h2 0) (h3 0) v5, cM E h0 v6, cM E h1 v7, cM E h2 v8, cM E h3 v9, cS E aS v10])) C0 hw (p_fl (ds := [cG aG (a0 0) (a1 0) (a2 0) (a3 0) (aH 0) (aS 0) v0, cM E a0 v1]) (List.Perm.refl _)) hl.1 0 6 rfl rfl (c_X6_rateOf l E aG a0 a1 a2 a3 aH h0 h1 h2 h3 aS h) 4 gL_holds_X6_rateOf rfl ⟨rfl, rfl⟩ (by decide +kernel) ⟨Nat.le_of_ble_eq_true rfl, Nat.le_of_ble_eq_true rfl⟩ rfl rfl (Nat.le_of_ble_eq_true rfl) dL_holds_68 ⟨Nat.zero_le _, Nat.zero_le _⟩ (fun r_4 u_8 H locs h hw => ?_)
    obtain ⟨v_5, v_6⟩ := u_8
    replace hw : mw E A s.heap H locs (List.flatten [cG aG (a0 0) (a1 0) (a2 0) (a3 0) (aH 0) (aS 0) v_5, cM E a0 v_6, cM E a1 v2, cM E a2 v3, cM E a3 v4, cH E aH (h0 0) (h1 0) (h2 0) (h3 0) v5, cM E h0 v6, cM E h1 v7, cM E h2 v8, cM E h3 v9, cS E aS v10]) := hw.perm (p_bk (ds := [cG aG (a0 0) (a1 0) (a2 0) (a3 0) (aH 0) (aS 0) v_5, cM E a0 v_6]) (List.Perm.refl _))
    refine lv_iload hx hb dL_holds_71 (lv_at hl 4 rfl) ?_
    refine lv_icmp_eq (tgt := 78) hx hb dL_holds_73 (by decide) (fun c_7 => ?_) (fun c_7 => ?_)
    · replace h := h.1 c_7
      refine lv_iinc (v := (x3 + 1)) (lv' := [(3, .int (x3 + 1)), (2, .int (q0 + q1)), (0, .ref (aG 0)), (1, .int f1), (4, .int x4)]) hx hb dL_holds_78 hl (k := 3) rfl rfl (by decide) rfl (fun ls hl => ?_)
      refine lv_goto (tgt := 4) hx hb dL_holds_81 (by decide) ?_
      exact hrec _ _ _ _ _ _ _ _ _ _ _ _ _ h _ _ _ hw (lv_sub hl [2, 3, 1, 0] rfl)
    · replace h := h.2 c_7
      refine lv_iconst (v := 0) hx hb dL_holds_76 (by decide) ?_
      exact x_retz C0 rfl ⟨v_5, v_6, v2, v3, v4, v5, v6, v7, v8, v9, v10⟩ hw h dL_holds_77
set_option maxRecDepth 100000 in
set_option maxHeartbeats 4000000 in
theorem w_L_holds_4 {p : Program} {l : Launch} {e : Env} {s : State} {m : MethodId} {below : List Frame} {meth : Method} {c : Code} {E : EE} {A : Nat → Prop} {aG : Nat → Nat} {a0 : Nat → Nat} {a1 : Nat → Nat} {a2 : Nat → Nat} {a3 : Nat → Nat} {aH : Nat → Nat} {h0 : Nat → Nat} {h1 : Nat → Nat} {h2 : Nat → Nat} {h3 : Nat → Nat} {aS : Nat → Nat} {args : Array Value} (C0 : Cx E p s m args meth c A cL_holds 7 RL wsL_holds (some .boolean)) {post : Int32 → V → V → V → V → V → V → V → V → V → V → V → Prop} {f1 : Int32} {k0 : Int32 → Int32 → V → V → V → V → V → V → V → V → V → V → V → Prop} : ∀ (n : Nat) (x2 : Int32) (x3 : Int32) (v0 : V) (v1 : V) (v2 : V) (v3 : V) (v4 : V) (v5 : V) (v6 : V) (v7 : V) (v8 : V) (v9 : V) (v10 : V), sl_L_holds_4 post f1 k0 n x2 x3 v0 v1 v2 v3 v4 v5 v6 v7 v8 v9 v10 → ∀ (H : Heap) (locs : List Loc) (ls : Array Slot), mw E A s.heap H locs (List.flatten [cG aG (a0 0) (a1 0) (a2 0) (a3 0) (aH 0) (aS 0) v0, cM E a0 v1, cM E a1 v2, cM E a2 v3, cM E a3 v4, cH E aH (h0 0) (h1 0) (h2 0) (h3 0) v5, cM E h0 v6, cM E h1 v7, cM E h2 v8, cM E h3 v9, cS E aS v10]) → lv_has ls 7 [(0, .ref (aG 0)), (1, .int f1), (2, .int x2), (3, .int x3)] → (∀ (x2 : Int32) (x3 : Int32) (v0 : V) (v1 : V) (v2 : V) (v3 : V) (v4 : V) (v5 : V) (v6 : V) (v7 : V) (v8 : V) (v9 : V) (v10 : V), k0 x2 x3 v0 v1 v2 v3 v4 v5 v6 v7 v8 v9 v10 → ∀ (H : Heap) (locs : List Loc) (ls : Array Slot), mw E A s.heap H locs (List.flatten [cG aG (a0 0) (a1 0) (a2 0) (a3 0) (aH 0) (aS 0) v0, cM E a0 v1, cM E a1 v2, cM E a2 v3, cM E a3 v4, cH E aH (h0 0) (h1 0) (h2 0) (h3 0) v5, cM E h0 v6, cM E h1 v7, cM E h2 v8, cM E h3 v9, cS E aS v10]) → lv_has ls 7 [(0, .ref (aG 0)), (1, .int f1), (2, .int x2), (3, .int x3)] → W p l e rmL_holds s m args below meth c H locs 0 0 (qI E A (fun r (u : V × V × V × V × V × V × V × V × V × V × V) => post r u.1 u.2.1 u.2.2.1 u.2.2.2.1 u.2.2.2.2.1 u.2.2.2.2.2.1 u.2.2.2.2.2.2.1 u.2.2.2.2.2.2.2.1 u.2.2.2.2.2.2.2.2.1 u.2.2.2.2.2.2.2.2.2.1 u.2.2.2.2.2.2.2.2.2.2) (fun (u : V × V × V × V × V × V × V × V × V × V × V) => (List.flatten [cG aG (a0 0) (a1 0) (a2 0) (a3 0) (aH 0) (aS 0) u.1, cM E a0 u.2.1, cM E a1 u.2.2.1, cM E a2 u.2.2.2.1, cM E a3 u.2.2.2.2.1, cH E aH (h0 0) (h1 0) (h2 0) (h3 0) u.2.2.2.2.2.1, cM E h0 u.2.2.2.2.2.2.1, cM E h1 u.2.2.2.2.2.2.2.1, cM E h2 u.2.2.2.2.2.2.2.2.1, cM E h3 u.2.2.2.2.2.2.2.2.2.1, cS E aS u.2.2.2.2.2.2.2.2.2.2])) below args s) (F0 m 84 ls [])) → W p l e rmL_holds s m args below meth c H locs 0 0 (qI E A (fun r (u : V × V × V × V × V × V × V × V × V × V × V) => post r u.1 u.2.1 u.2.2.1 u.2.2.2.1 u.2.2.2.2.1 u.2.2.2.2.2.1 u.2.2.2.2.2.2.1 u.2.2.2.2.2.2.2.1 u.2.2.2.2.2.2.2.2.1 u.2.2.2.2.2.2.2.2.2.1 u.2.2.2.2.2.2.2.2.2.2) (fun (u : V × V × V × V × V × V × V × V × V × V × V) => (List.flatten [cG aG (a0 0) (a1 0) (a2 0) (a3 0) (aH 0) (aS 0) u.1, cM E a0 u.2.1, cM E a1 u.2.2.1, cM E a2 u.2.2.2.1, cM E a3 u.2.2.2.2.1, cH E aH (h0 0) (h1 0) (h2 0) (h3 0) u.2.2.2.2.2.1, cM E h0 u.2.2.2.2.2.2.1, cM E h1 u.2.2.2.2.2.2.2.1, cM E h2 u.2.2.2.2.2.2.2.2.1, cM E h3 u.2.2.2.2.2.2.2.2.2.1, cS E aS u.2.2.2.2.2.2.2.2.2.2])) below args s) (F0 m 4 ls []) := by
  have hx := C0.1
  have hb := C0.2.1
  intro n
  induction n with
  | zero => intro x2 x3 v0 v1 v2 v3 v4 v5 v6 v7 v8 v9 v10 h; exact False.elim h
  | succ n ih =>
    intro x2 x3 v0 v1 v2 v3 v4 v5 v6 v7 v8 v9 v10 h H locs ls hw hl hk0
    have hrec : ∀ (x2 : Int32) (x3 : Int32) (v0 : V) (v1 : V) (v2 : V) (v3 : V) (v4 : V) (v5 : V) (v6 : V) (v7 : V) (v8 : V) (v9 : V) (v10 : V), (sl_L_holds_4 post f1 k0 n) x2 x3 v0 v1 v2 v3 v4 v5 v6 v7 v8 v9 v10 → ∀ (H : Heap) (locs : List Loc) (ls : Array Slot), mw E A s.heap H locs (List.flatten [cG aG (a0 0) (a1 0) (a2 0) (a3 0) (aH 0) (aS 0) v0, cM E a0 v1, cM E a1 v2, cM E a2 v3, cM E a3 v4, cH E aH (h0 0) (h1 0) (h2 0) (h3 0) v5, cM E h0 v6, cM E h1 v7, cM E h2 v8, cM E h3 v9, cS E aS v10]) → lv_has ls 7 [(0, .ref (aG 0)), (1, .int f1), (2, .int x2), (3, .int x3)] → W p l e rmL_holds s m args below meth c H locs 0 0 (qI E A (fun r (u : V × V × V × V × V × V × V × V × V × V × V) => post r u.1 u.2.1 u.2.2.1 u.2.2.2.1 u.2.2.2.2.1 u.2.2.2.2.2.1 u.2.2.2.2.2.2.1 u.2.2.2.2.2.2.2.1 u.2.2.2.2.2.2.2.2.1 u.2.2.2.2.2.2.2.2.2.1 u.2.2.2.2.2.2.2.2.2.2) (fun (u : V × V × V × V × V × V × V × V × V × V × V) => (List.flatten [cG aG (a0 0) (a1 0) (a2 0) (a3 0) (aH 0) (aS 0) u.1, cM E a0 u.2.1, cM E a1 u.2.2.1, cM E a2 u.2.2.2.1, cM E a3 u.2.2.2.2.1, cH E aH (h0 0) (h1 0) (h2 0) (h3 0) u.2.2.2.2.2.1, cM E h0 u.2.2.2.2.2.2.1, cM E h1 u.2.2.2.2.2.2.2.1, cM E h2 u.2.2.2.2.2.2.2.2.1, cM E h3 u.2.2.2.2.2.2.2.2.2.1, cS E aS u.2.2.2.2.2.2.2.2.2.2])) below args s) (F0 m 4 ls []) := fun x2 x3 v0 v1 v2 v3 v4 v5 v6 v7 v8 v9 v10 h H locs ls hw hl => ih x2 x3 v0 v1 v2 v3 v4 v5 v6 v7 v8 v9 v10 h H locs ls hw hl hk0
    replace h : sb_L_holds_4 post f1 k0 (sl_L_holds_4 post f1 k0 n) x2 x3 v0 v1 v2 v3 v4 v5 v6 v7 v8 v9 v10 := h
    unfold sb_L_holds_4 at h
    refine lv_iload_n hx hb dL_holds_4 rfl (lv_at hl 3 rfl) ?_
    refine lv_sipush (v := 400) hx hb dL_holds_5 (by decide) ?_
    refine lv_icmp_ge (tgt := 84) hx hb dL_holds_8 (by decide) (fun c_12 => ?_) (fun c_12 => ?_)
    · replace h := h.1 c_12
      exact hk0 _ _ _ _ _ _ _ _ _ _ _ _ _ h _ _ _ hw (lv_sub hl [0, 1, 2, 3] rfl)
    · replace h := h.2 c_12
      refine lv_aload_n hx hb dL_holds_11 rfl (lv_at hl 0 rfl) ?_
      refine lv_iload_n hx hb dL_holds_12 rfl (lv_at hl 3 rfl) ?_
      refine lv_bipush (v := 80) hx hb dL_holds_13 (by decide) ?_
      refine lv_idiv hx hb dL_holds_15 (by decide) ?_
      refine lv_iload_n hx hb dL_holds_16 rfl (lv_at hl 3 rfl) ?_
      refine lv_bipush (v := 8) hx hb dL_holds_17 (by decide) ?_
      refine lv_idiv hx hb dL_holds_19 (by decide) ?_
      refine lv_bipush (v := 10) hx hb dL_holds_20 (by decide) ?_
      refine lv_irem hx hb dL_holds_22 (by decide) ?_
      refine lv_iload_n hx hb dL_holds_23 rfl (lv_at hl 3 rfl) ?_
      refine lv_bipush (v := 8) hx hb dL_holds_24 (by decide) ?_
      refine lv_irem hx hb dL_holds_26 (by decide) ?_
      refine lv_iconst (v := 1) hx hb dL_holds_27 (by decide) ?_
      refine x_cV (As := [.int (x3 / 80), .int ((x3 / 8) - (x3 / 8) / 10 * 10), .int (x3 - x3 / 8 * 8), .int 1]) (rest := []) (F := (List.flatten [cM E a1 v2, cM E a2 v3, cM E a3 v4, cH E aH (h0 0) (h1 0) (h2 0) (h3 0) v5, cM E h0 v6, cM E h1 v7, cM E h2 v8, cM E h3 v9, cS E aS v10])) C0 hw (p_fl (ds := [cG aG (a0 0) (a1 0) (a2 0) (a3 0) (aH 0) (aS 0) v0, cM E a0 v1]) (List.Perm.refl _)) hl.1 0 6 rfl rfl (c_X6_rateOf l E aG a0 a1 a2 a3 aH h0 h1 h2 h3 aS h) 4 gL_holds_X6_rateOf rfl ⟨rfl, rfl⟩ (by decide +kernel) ⟨Nat.le_of_ble_eq_true rfl, Nat.le_of_ble_eq_true rfl⟩ rfl rfl (Nat.le_of_ble_eq_true rfl) dL_holds_28 ⟨Nat.zero_le _, Nat.zero_le _⟩ (fun r_1 u_11 H locs h hw => ?_)
      obtain ⟨v_2, v_3⟩ := u_11
      replace hw : mw E A s.heap H locs (List.flatten [cG aG (a0 0) (a1 0) (a2 0) (a3 0) (aH 0) (aS 0) v_2, cM E a0 v_3, cM E a1 v2, cM E a2 v3, cM E a3 v4, cH E aH (h0 0) (h1 0) (h2 0) (h3 0) v5, cM E h0 v6, cM E h1 v7, cM E h2 v8, cM E h3 v9, cS E aS v10]) := hw.perm (p_bk (ds := [cG aG (a0 0) (a1 0) (a2 0) (a3 0) (aH 0) (aS 0) v_2, cM E a0 v_3]) (List.Perm.refl _))
      refine lv_istore (lv' := [(4, .int r_1), (0, .ref (aG 0)), (1, .int f1), (2, .int x2), (3, .int x3)]) hx hb dL_holds_31 hl (by decide) rfl (fun ls hl => ?_)
      refine lv_iload_n hx hb dL_holds_33 rfl (lv_at hl 3 rfl) ?_
      refine lv_iload hx hb dL_holds_34 (lv_at hl 0 rfl) ?_
      refine lv_if_le (tgt := 43) hx hb dL_holds_36 (by decide) (fun c_10 => ?_) (fun c_10 => ?_)
      · replace h := h.1 c_10
        refine lv_iconst (v := 0) hx hb dL_holds_43 (by decide) ?_
        exact j_L_holds_44 C0 hrec hk0 _ _ _ _ _ _ _ _ _ _ _ _ _ _ _ _ h _ _ _ hw (lv_sub hl [1, 2, 3, 4, 0] rfl)
      · replace h := h.2 c_10
        refine lv_iconst (v := 1) hx hb dL_holds_39 (by decide) ?_
        refine lv_goto (tgt := 44) hx hb dL_holds_40 (by decide) ?_
        exact j_L_holds_44 C0 hrec hk0 _ _ _ _ _ _ _ _ _ _ _ _ _ _ _ _ h _ _ _ hw (lv_sub hl [1, 2, 3, 4, 0] rfl)
set_option maxRecDepth 100000 in
set_option maxHeartbeats 4000000 in
theorem w_L_holds_89 {p : Program} {l : Launch} {e : Env} {s : State} {m : MethodId} {below : List Frame} {meth : Method} {c : Code} {E : EE} {A : Nat → Prop} {aG : Nat → Nat} {a0 : Nat → Nat} {a1 : Nat → Nat} {a2 : Nat → Nat} {a3 : Nat → Nat} {aH : Nat → Nat} {h0 : Nat → Nat} {h1 : Nat → Nat} {h2 : Nat → Nat} {h3 : Nat → Nat} {aS : Nat → Nat} {args : Array Value} (C0 : Cx E p s m args meth c A cL_holds 7 RL wsL_holds (some .boolean)) {post : Int32 → V → V → V → V → V → V → V → V → V → V → V → Prop} {f1 : Int32} {f2 : Int32} {k0 : Int32 → Int32 → V → V → V → V → V → V → V → V → V → V → V → Prop} : ∀ (n : Nat) (x3 : Int32) (x4 : Int32) (v0 : V) (v1 : V) (v2 : V) (v3 : V) (v4 : V) (v5 : V) (v6 : V) (v7 : V) (v8 : V) (v9 : V) (v10 : V), sl_L_holds_89 post f1 f2 k0 n x3 x4 v0 v1 v2 v3 v4 v5 v6 v7 v8 v9 v10 → ∀ (H : Heap) (locs : List Loc) (ls : Array Slot), mw E A s.heap H locs (List.flatten [cG aG (a0 0) (a1 0) (a2 0) (a3 0) (aH 0) (aS 0) v0, cM E a0 v1, cM E a1 v2, cM E a2 v3, cM E a3 v4, cH E aH (h0 0) (h1 0) (h2 0) (h3 0) v5, cM E h0 v6, cM E h1 v7, cM E h2 v8, cM E h3 v9, cS E aS v10]) → lv_has ls 7 [(0, .ref (aG 0)), (1, .int f1), (2, .int f2), (3, .int x3), (4, .int x4)] → (∀ (x3 : Int32) (x4 : Int32) (v0 : V) (v1 : V) (v2 : V) (v3 : V) (v4 : V) (v5 : V) (v6 : V) (v7 : V) (v8 : V) (v9 : V) (v10 : V), k0 x3 x4 v0 v1 v2 v3 v4 v5 v6 v7 v8 v9 v10 → ∀ (H : Heap) (locs : List Loc) (ls : Array Slot), mw E A s.heap H locs (List.flatten [cG aG (a0 0) (a1 0) (a2 0) (a3 0) (aH 0) (aS 0) v0, cM E a0 v1, cM E a1 v2, cM E a2 v3, cM E a3 v4, cH E aH (h0 0) (h1 0) (h2 0) (h3 0) v5, cM E h0 v6, cM E h1 v7, cM E h2 v8, cM E h3 v9, cS E aS v10]) → lv_has ls 7 [(0, .ref (aG 0)), (1, .int f1), (2, .int f2), (3, .int x3), (4, .int x4)] → W p l e rmL_holds s m args below meth c H locs 0 0 (qI E A (fun r (u : V × V × V × V × V × V × V × V × V × V × V) => post r u.1 u.2.1 u.2.2.1 u.2.2.2.1 u.2.2.2.2.1 u.2.2.2.2.2.1 u.2.2.2.2.2.2.1 u.2.2.2.2.2.2.2.1 u.2.2.2.2.2.2.2.2.1 u.2.2.2.2.2.2.2.2.2.1 u.2.2.2.2.2.2.2.2.2.2) (fun (u : V × V × V × V × V × V × V × V × V × V × V) => (List.flatten [cG aG (a0 0) (a1 0) (a2 0) (a3 0) (aH 0) (aS 0) u.1, cM E a0 u.2.1, cM E a1 u.2.2.1, cM E a2 u.2.2.2.1, cM E a3 u.2.2.2.2.1, cH E aH (h0 0) (h1 0) (h2 0) (h3 0) u.2.2.2.2.2.1, cM E h0 u.2.2.2.2.2.2.1, cM E h1 u.2.2.2.2.2.2.2.1, cM E h2 u.2.2.2.2.2.2.2.2.1, cM E h3 u.2.2.2.2.2.2.2.2.2.1, cS E aS u.2.2.2.2.2.2.2.2.2.2])) below args s) (F0 m 148 ls [])) → W p l e rmL_holds s m args below meth c H locs 0 0 (qI E A (fun r (u : V × V × V × V × V × V × V × V × V × V × V) => post r u.1 u.2.1 u.2.2.1 u.2.2.2.1 u.2.2.2.2.1 u.2.2.2.2.2.1 u.2.2.2.2.2.2.1 u.2.2.2.2.2.2.2.1 u.2.2.2.2.2.2.2.2.1 u.2.2.2.2.2.2.2.2.2.1 u.2.2.2.2.2.2.2.2.2.2) (fun (u : V × V × V × V × V × V × V × V × V × V × V) => (List.flatten [cG aG (a0 0) (a1 0) (a2 0) (a3 0) (aH 0) (aS 0) u.1, cM E a0 u.2.1, cM E a1 u.2.2.1, cM E a2 u.2.2.2.1, cM E a3 u.2.2.2.2.1, cH E aH (h0 0) (h1 0) (h2 0) (h3 0) u.2.2.2.2.2.1, cM E h0 u.2.2.2.2.2.2.1, cM E h1 u.2.2.2.2.2.2.2.1, cM E h2 u.2.2.2.2.2.2.2.2.1, cM E h3 u.2.2.2.2.2.2.2.2.2.1, cS E aS u.2.2.2.2.2.2.2.2.2.2])) below args s) (F0 m 89 ls []) := by
  have hx := C0.1
  have hb := C0.2.1
  intro n
  induction n with
  | zero => intro x3 x4 v0 v1 v2 v3 v4 v5 v6 v7 v8 v9 v10 h; exact False.elim h
  | succ n ih =>
    intro x3 x4 v0 v1 v2 v3 v4 v5 v6 v7 v8 v9 v10 h H locs ls hw hl hk0
    have hrec : ∀ (x3 : Int32) (x4 : Int32) (v0 : V) (v1 : V) (v2 : V) (v3 : V) (v4 : V) (v5 : V) (v6 : V) (v7 : V) (v8 : V) (v9 : V) (v10 : V), (sl_L_holds_89 post f1 f2 k0 n) x3 x4 v0 v1 v2 v3 v4 v5 v6 v7 v8 v9 v10 → ∀ (H : Heap) (locs : List Loc) (ls : Array Slot), mw E A s.heap H locs (List.flatten [cG aG (a0 0) (a1 0) (a2 0) (a3 0) (aH 0) (aS 0) v0, cM E a0 v1, cM E a1 v2, cM E a2 v3, cM E a3 v4, cH E aH (h0 0) (h1 0) (h2 0) (h3 0) v5, cM E h0 v6, cM E h1 v7, cM E h2 v8, cM E h3 v9, cS E aS v10]) → lv_has ls 7 [(0, .ref (aG 0)), (1, .int f1), (2, .int f2), (3, .int x3), (4, .int x4)] → W p l e rmL_holds s m args below meth c H locs 0 0 (qI E A (fun r (u : V × V × V × V × V × V × V × V × V × V × V) => post r u.1 u.2.1 u.2.2.1 u.2.2.2.1 u.2.2.2.2.1 u.2.2.2.2.2.1 u.2.2.2.2.2.2.1 u.2.2.2.2.2.2.2.1 u.2.2.2.2.2.2.2.2.1 u.2.2.2.2.2.2.2.2.2.1 u.2.2.2.2.2.2.2.2.2.2) (fun (u : V × V × V × V × V × V × V × V × V × V × V) => (List.flatten [cG aG (a0 0) (a1 0) (a2 0) (a3 0) (aH 0) (aS 0) u.1, cM E a0 u.2.1, cM E a1 u.2.2.1, cM E a2 u.2.2.2.1, cM E a3 u.2.2.2.2.1, cH E aH (h0 0) (h1 0) (h2 0) (h3 0) u.2.2.2.2.2.1, cM E h0 u.2.2.2.2.2.2.1, cM E h1 u.2.2.2.2.2.2.2.1, cM E h2 u.2.2.2.2.2.2.2.2.1, cM E h3 u.2.2.2.2.2.2.2.2.2.1, cS E aS u.2.2.2.2.2.2.2.2.2.2])) below args s) (F0 m 89 ls []) := fun x3 x4 v0 v1 v2 v3 v4 v5 v6 v7 v8 v9 v10 h H locs ls hw hl => ih x3 x4 v0 v1 v2 v3 v4 v5 v6 v7 v8 v9 v10 h H locs ls hw hl hk0
    replace h : sb_L_holds_89 post f1 f2 k0 (sl_L_holds_89 post f1 f2 k0 n) x3 x4 v0 v1 v2 v3 v4 v5 v6 v7 v8 v9 v10 := h
    unfold sb_L_holds_89 at h
    refine lv_iload hx hb dL_holds_89 (lv_at hl 4 rfl) ?_
    refine lv_aload_n hx hb dL_holds_91 rfl (lv_at hl 0 rfl) ?_
    refine lv_iconst (v := 4) hx hb dL_holds_92 (by decide) ?_
    refine x_cV (As := [.int 4]) (rest := [.int x4]) (F := (List.flatten [cM E a1 v2, cM E a2 v3, cM E a3 v4, cM E h0 v6, cM E h1 v7, cM E h2 v8, cM E h3 v9])) C0 hw (p_fl (ds := [cG aG (a0 0) (a1 0) (a2 0) (a3 0) (aH 0) (aS 0) v0, cM E a0 v1, cH E aH (h0 0) (h1 0) (h2 0) (h3 0) v5, cS E aS v10]) ((p_pk _ 0 _ rfl).trans (List.Perm.cons _ ((p_pk _ 0 _ rfl).trans (List.Perm.cons _ ((p_pk _ 3 _ rfl).trans (List.Perm.cons _ ((p_pk _ 7 _ rfl).trans (List.Perm.cons _ (List.Perm.refl _)))))))))) hl.1 0 6 rfl rfl (c_X6_count l E aG a0 a1 a2 a3 aH h0 h1 h2 h3 aS h) 1 gL_holds_X6_count rfl ⟨rfl, rfl⟩ (by decide +kernel) ⟨Nat.le_of_ble_eq_true rfl, Nat.le_of_ble_eq_true rfl⟩ rfl rfl (Nat.le_of_ble_eq_true rfl) dL_holds_93 ⟨Nat.zero_le _, Nat.zero_le _⟩ (fun r_27 u_51 H locs h hw => ?_)
    obtain ⟨v_28, v_29, v_30, v_31⟩ := u_51
    replace hw : mw E A s.heap H locs (List.flatten [cG aG (a0 0) (a1 0) (a2 0) (a3 0) (aH 0) (aS 0) v_28, cM E a0 v_29, cM E a1 v2, cM E a2 v3, cM E a3 v4, cH E aH (h0 0) (h1 0) (h2 0) (h3 0) v_30, cM E h0 v6, cM E h1 v7, cM E h2 v8, cM E h3 v9, cS E aS v_31]) := hw.perm (p_bk (ds := [cG aG (a0 0) (a1 0) (a2 0) (a3 0) (aH 0) (aS 0) v_28, cM E a0 v_29, cH E aH (h0 0) (h1 0) (h2 0) (h3 0) v_30, cS E aS v_31]) ((p_pk _ 0 _ rfl).trans (List.Perm.cons _ ((p_pk _ 0 _ rfl).trans (List.Perm.cons _ ((p_pk _ 3 _ rfl).trans (List.Perm.cons _ ((p_pk _ 7 _ rfl).trans (List.Perm.cons _ (List.Perm.refl _))))))))))
    refine lv_icmp_ge (tgt := 148) hx hb dL_holds_96 (by decide) (fun c_50 => ?_) (fun c_50 => ?_)
    · replace h := h.1 c_50
      exact hk0 _ _ _ _ _ _ _ _ _ _ _ _ _ h _ _ _ hw (lv_sub hl [0, 1, 2, 3, 4] rfl)
    · replace h := h.2 c_50
      refine lv_iload_n hx hb dL_holds_99 rfl (lv_at hl 3 rfl) ?_
      refine lv_aload_n hx hb dL_holds_100 rfl (lv_at hl 0 rfl) ?_
      refine lv_iload hx hb dL_holds_101 (lv_at hl 4 rfl) ?_
      refine lv_bipush (v := 6) hx hb dL_holds_103 (by decide) ?_
      refine x_cV (As := [.int x4, .int 6]) (rest := [.int x3]) (F := (List.flatten [cM E a1 v2, cM E a2 v3, cM E a3 v4, cH E aH (h0 0) (h1 0) (h2 0) (h3 0) v_30, cM E h0 v6, cM E h1 v7, cM E h2 v8, cM E h3 v9, cS E aS v_31])) C0 hw (p_fl (ds := [cG aG (a0 0) (a1 0) (a2 0) (a3 0) (aH 0) (aS 0) v_28, cM E a0 v_29]) (List.Perm.refl _)) hl.1 0 6 rfl rfl (c_X6_memoOf l E aG a0 a1 a2 a3 aH h0 h1 h2 h3 aS h) 2 gL_holds_X6_memoOf rfl ⟨rfl, rfl⟩ (by decide +kernel) ⟨Nat.le_of_ble_eq_true rfl, Nat.le_of_ble_eq_true rfl⟩ rfl rfl (Nat.le_of_ble_eq_true rfl) dL_holds_105 ⟨Nat.zero_le _, Nat.zero_le _⟩ (fun r_32 u_49 H locs h hw => ?_)
      obtain ⟨v_33, v_34⟩ := u_49
      replace hw : mw E A s.heap H locs (List.flatten [cG aG (a0 0) (a1 0) (a2 0) (a3 0) (aH 0) (aS 0) v_33, cM E a0 v_34, cM E a1 v2, cM E a2 v3, cM E a3 v4, cH E aH (h0 0) (h1 0) (h2 0) (h3 0) v_30, cM E h0 v6, cM E h1 v7, cM E h2 v8, cM E h3 v9, cS E aS v_31]) := hw.perm (p_bk (ds := [cG aG (a0 0) (a1 0) (a2 0) (a3 0) (aH 0) (aS 0) v_33, cM E a0 v_34]) (List.Perm.refl _))
      refine lv_iadd hx hb dL_holds_108 ?_
      refine lv_istore_n (lv' := [(3, .int (x3 + r_32)), (0, .ref (aG 0)), (1, .int f1), (2, .int f2), (4, .int x4)]) hx hb dL_holds_109 rfl hl (by decide) rfl (fun ls hl => ?_)
      refine lv_aload_n hx hb dL_holds_110 rfl (lv_at hl 1 rfl) ?_
      refine lv_iload hx hb dL_holds_111 (lv_at hl 4 rfl) ?_
      refine lv_iconst (v := 0) hx hb dL_holds_113 (by decide) ?_
      refine x_cV (As := [.int x4, .int 0]) (rest := []) (F := (List.flatten [cM E a1 v2, cM E a2 v3, cM E a3 v4, cH E aH (h0 0) (h1 0) (h2 0) (h3 0) v_30, cM E h0 v6, cM E h1 v7, cM E h2 v8, cM E h3 v9, cS E aS v_31])) C0 hw (p_fl (ds := [cG aG (a0 0) (a1 0) (a2 0) (a3 0) (aH 0) (aS 0) v_33, cM E a0 v_34]) (List.Perm.refl _)) hl.1 0 6 rfl rfl (c_X6_memoOf l E aG a0 a1 a2 a3 aH h0 h1 h2 h3 aS h) 2 gL_holds_X6_memoOf rfl ⟨rfl, rfl⟩ (by decide +kernel) ⟨Nat.le_of_ble_eq_true rfl, Nat.le_of_ble_eq_true rfl⟩ rfl rfl (Nat.le_of_ble_eq_true rfl) dL_holds_114 ⟨Nat.zero_le _, Nat.zero_le _⟩ (fun r_35 u_48 H locs h hw => ?_)
      obtain ⟨v_36, v_37⟩ := u_48
      replace hw : mw E A s.heap H locs (List.flatten [cG aG (a0 0) (a1 0) (a2 0) (a3 0) (aH 0) (aS 0) v_36, cM E a0 v_37, cM E a1 v2, cM E a2 v3, cM E a3 v4, cH E aH (h0 0) (h1 0) (h2 0) (h3 0) v_30, cM E h0 v6, cM E h1 v7, cM E h2 v8, cM E h3 v9, cS E aS v_31]) := hw.perm (p_bk (ds := [cG aG (a0 0) (a1 0) (a2 0) (a3 0) (aH 0) (aS 0) v_36, cM E a0 v_37]) (List.Perm.refl _))
      refine lv_aload_n hx hb dL_holds_117 rfl (lv_at hl 1 rfl) ?_
      refine lv_iload hx hb dL_holds_118 (lv_at hl 4 rfl) ?_
      refine lv_iconst (v := 1) hx hb dL_holds_120 (by decide) ?_
      refine x_cV (As := [.int x4, .int 1]) (rest := [.int r_35]) (F := (List.flatten [cM E a1 v2, cM E a2 v3, cM E a3 v4, cH E aH (h0 0) (h1 0) (h2 0) (h3 0) v_30, cM E h0 v6, cM E h1 v7, cM E h2 v8, cM E h3 v9, cS E aS v_31])) C0 hw (p_fl (ds := [cG aG (a0 0) (a1 0) (a2 0) (a3 0) (aH 0) (aS 0) v_36, cM E a0 v_37]) (List.Perm.refl _)) hl.1 0 6 rfl rfl (c_X6_memoOf l E aG a0 a1 a2 a3 aH h0 h1 h2 h3 aS h) 2 gL_holds_X6_memoOf rfl ⟨rfl, rfl⟩ (by decide +kernel) ⟨Nat.le_of_ble_eq_true rfl, Nat.le_of_ble_eq_true rfl⟩ rfl rfl (Nat.le_of_ble_eq_true rfl) dL_holds_121 ⟨Nat.zero_le _, Nat.zero_le _⟩ (fun r_38 u_47 H locs h hw => ?_)
      obtain ⟨v_39, v_40⟩ := u_47
      replace hw : mw E A s.heap H locs (List.flatten [cG aG (a0 0) (a1 0) (a2 0) (a3 0) (aH 0) (aS 0) v_39, cM E a0 v_40, cM E a1 v2, cM E a2 v3, cM E a3 v4, cH E aH (h0 0) (h1 0) (h2 0) (h3 0) v_30, cM E h0 v6, cM E h1 v7, cM E h2 v8, cM E h3 v9, cS E aS v_31]) := hw.perm (p_bk (ds := [cG aG (a0 0) (a1 0) (a2 0) (a3 0) (aH 0) (aS 0) v_39, cM E a0 v_40]) (List.Perm.refl _))
      refine lv_icmp_eq (tgt := 140) hx hb dL_holds_124 (by decide) (fun c_46 => ?_) (fun c_46 => ?_)
      · replace h := h.1 c_46
        refine lv_iconst (v := 0) hx hb dL_holds_140 (by decide) ?_
        exact x_retz C0 rfl ⟨v_39, v_40, v2, v3, v4, v_30, v6, v7, v8, v9, v_31⟩ hw h dL_holds_141
      · replace h := h.2 c_46
        refine lv_aload_n hx hb dL_holds_127 rfl (lv_at hl 1 rfl) ?_
        refine lv_iload hx hb dL_holds_128 (lv_at hl 4 rfl) ?_
        refine lv_bipush (v := 7) hx hb dL_holds_130 (by decide) ?_
        refine x_cV (As := [.int x4, .int 7]) (rest := []) (F := (List.flatten [cM E a1 v2, cM E a2 v3, cM E a3 v4, cH E aH (h0 0) (h1 0) (h2 0) (h3 0) v_30, cM E h0 v6, cM E h1 v7, cM E h2 v8, cM E h3 v9, cS E aS v_31])) C0 hw (p_fl (ds := [cG aG (a0 0) (a1 0) (a2 0) (a3 0) (aH 0) (aS 0) v_39, cM E a0 v_40]) (List.Perm.refl _)) hl.1 0 6 rfl rfl (c_X6_memoOf l E aG a0 a1 a2 a3 aH h0 h1 h2 h3 aS h) 2 gL_holds_X6_memoOf rfl ⟨rfl, rfl⟩ (by decide +kernel) ⟨Nat.le_of_ble_eq_true rfl, Nat.le_of_ble_eq_true rfl⟩ rfl rfl (Nat.le_of_ble_eq_true rfl) dL_holds_132 ⟨Nat.zero_le _, Nat.zero_le _⟩ (fun r_41 u_45 H locs h hw => ?_)
        obtain ⟨v_42, v_43⟩ := u_45
        replace hw : mw E A s.heap H locs (List.flatten [cG aG (a0 0) (a1 0) (a2 0) (a3 0) (aH 0) (aS 0) v_42, cM E a0 v_43, cM E a1 v2, cM E a2 v3, cM E a3 v4, cH E aH (h0 0) (h1 0) (h2 0) (h3 0) v_30, cM E h0 v6, cM E h1 v7, cM E h2 v8, cM E h3 v9, cS E aS v_31]) := hw.perm (p_bk (ds := [cG aG (a0 0) (a1 0) (a2 0) (a3 0) (aH 0) (aS 0) v_42, cM E a0 v_43]) (List.Perm.refl _))
        refine lv_bipush (v := 90) hx hb dL_holds_135 (by decide) ?_
        refine lv_icmp_le (tgt := 142) hx hb dL_holds_137 (by decide) (fun c_44 => ?_) (fun c_44 => ?_)
        · replace h := h.1 c_44
          refine lv_iinc (v := (x4 + 1)) (lv' := [(4, .int (x4 + 1)), (3, .int (x3 + r_32)), (0, .ref (aG 0)), (1, .int f1), (2, .int f2)]) hx hb dL_holds_142 hl (k := 4) rfl rfl (by decide) rfl (fun ls hl => ?_)
          refine lv_goto (tgt := 89) hx hb dL_holds_145 (by decide) ?_
          exact hrec _ _ _ _ _ _ _ _ _ _ _ _ _ h _ _ _ hw (lv_sub hl [2, 3, 4, 1, 0] rfl)
        · replace h := h.2 c_44
          refine lv_iconst (v := 0) hx hb dL_holds_140 (by decide) ?_
          exact x_retz C0 rfl ⟨v_42, v_43, v2, v3, v4, v_30, v6, v7, v8, v9, v_31⟩ hw h dL_holds_141
set_option maxRecDepth 100000 in
set_option maxHeartbeats 4000000 in
theorem w_L_holds_154 {p : Program} {l : Launch} {e : Env} {s : State} {m : MethodId} {below : List Frame} {meth : Method} {c : Code} {E : EE} {A : Nat → Prop} {aG : Nat → Nat} {a0 : Nat → Nat} {a1 : Nat → Nat} {a2 : Nat → Nat} {a3 : Nat → Nat} {aH : Nat → Nat} {h0 : Nat → Nat} {h1 : Nat → Nat} {h2 : Nat → Nat} {h3 : Nat → Nat} {aS : Nat → Nat} {args : Array Value} (C0 : Cx E p s m args meth c A cL_holds 7 RL wsL_holds (some .boolean)) {post : Int32 → V → V → V → V → V → V → V → V → V → V → V → Prop} {f1 : Int32} {f2 : Int32} {f3 : Int32} {k0 : Int32 → Int32 → V → V → V → V → V → V → V → V → V → V → V → Prop} : ∀ (n : Nat) (x4 : Int32) (x5 : Int32) (v0 : V) (v1 : V) (v2 : V) (v3 : V) (v4 : V) (v5 : V) (v6 : V) (v7 : V) (v8 : V) (v9 : V) (v10 : V), sl_L_holds_154 post f1 f2 f3 k0 n x4 x5 v0 v1 v2 v3 v4 v5 v6 v7 v8 v9 v10 → ∀ (H : Heap) (locs : List Loc) (ls : Array Slot), mw E A s.heap H locs (List.flatten [cG aG (a0 0) (a1 0) (a2 0) (a3 0) (aH 0) (aS 0) v0, cM E a0 v1, cM E a1 v2, cM E a2 v3, cM E a3 v4, cH E aH (h0 0) (h1 0) (h2 0) (h3 0) v5, cM E h0 v6, cM E h1 v7, cM E h2 v8, cM E h3 v9, cS E aS v10]) → lv_has ls 7 [(0, .ref (aG 0)), (1, .int f1), (2, .int f2), (3, .int f3), (4, .int x4), (5, .int x5)] → (∀ (x4 : Int32) (x5 : Int32) (v0 : V) (v1 : V) (v2 : V) (v3 : V) (v4 : V) (v5 : V) (v6 : V) (v7 : V) (v8 : V) (v9 : V) (v10 : V), k0 x4 x5 v0 v1 v2 v3 v4 v5 v6 v7 v8 v9 v10 → ∀ (H : Heap) (locs : List Loc) (ls : Array Slot), mw E A s.heap H locs (List.flatten [cG aG (a0 0) (a1 0) (a2 0) (a3 0) (aH 0) (aS 0) v0, cM E a0 v1, cM E a1 v2, cM E a2 v3, cM E a3 v4, cH E aH (h0 0) (h1 0) (h2 0) (h3 0) v5, cM E h0 v6, cM E h1 v7, cM E h2 v8, cM E h3 v9, cS E aS v10]) → lv_has ls 7 [(0, .ref (aG 0)), (1, .int f1), (2, .int f2), (3, .int f3), (4, .int x4), (5, .int x5)] → W p l e rmL_holds s m args below meth c H locs 0 0 (qI E A (fun r (u : V × V × V × V × V × V × V × V × V × V × V) => post r u.1 u.2.1 u.2.2.1 u.2.2.2.1 u.2.2.2.2.1 u.2.2.2.2.2.1 u.2.2.2.2.2.2.1 u.2.2.2.2.2.2.2.1 u.2.2.2.2.2.2.2.2.1 u.2.2.2.2.2.2.2.2.2.1 u.2.2.2.2.2.2.2.2.2.2) (fun (u : V × V × V × V × V × V × V × V × V × V × V) => (List.flatten [cG aG (a0 0) (a1 0) (a2 0) (a3 0) (aH 0) (aS 0) u.1, cM E a0 u.2.1, cM E a1 u.2.2.1, cM E a2 u.2.2.2.1, cM E a3 u.2.2.2.2.1, cH E aH (h0 0) (h1 0) (h2 0) (h3 0) u.2.2.2.2.2.1, cM E h0 u.2.2.2.2.2.2.1, cM E h1 u.2.2.2.2.2.2.2.1, cM E h2 u.2.2.2.2.2.2.2.2.1, cM E h3 u.2.2.2.2.2.2.2.2.2.1, cS E aS u.2.2.2.2.2.2.2.2.2.2])) below args s) (F0 m 250 ls [])) → W p l e rmL_holds s m args below meth c H locs 0 0 (qI E A (fun r (u : V × V × V × V × V × V × V × V × V × V × V) => post r u.1 u.2.1 u.2.2.1 u.2.2.2.1 u.2.2.2.2.1 u.2.2.2.2.2.1 u.2.2.2.2.2.2.1 u.2.2.2.2.2.2.2.1 u.2.2.2.2.2.2.2.2.1 u.2.2.2.2.2.2.2.2.2.1 u.2.2.2.2.2.2.2.2.2.2) (fun (u : V × V × V × V × V × V × V × V × V × V × V) => (List.flatten [cG aG (a0 0) (a1 0) (a2 0) (a3 0) (aH 0) (aS 0) u.1, cM E a0 u.2.1, cM E a1 u.2.2.1, cM E a2 u.2.2.2.1, cM E a3 u.2.2.2.2.1, cH E aH (h0 0) (h1 0) (h2 0) (h3 0) u.2.2.2.2.2.1, cM E h0 u.2.2.2.2.2.2.1, cM E h1 u.2.2.2.2.2.2.2.1, cM E h2 u.2.2.2.2.2.2.2.2.1, cM E h3 u.2.2.2.2.2.2.2.2.2.1, cS E aS u.2.2.2.2.2.2.2.2.2.2])) below args s) (F0 m 154 ls []) := by
  have hx := C0.1
  have hb := C0.2.1
  intro n
  induction n with
  | zero => intro x4 x5 v0 v1 v2 v3 v4 v5 v6 v7 v8 v9 v10 h; exact False.elim h
  | succ n ih =>
    intro x4 x5 v0 v1 v2 v3 v4 v5 v6 v7 v8 v9 v10 h H locs ls hw hl hk0
    have hrec : ∀ (x4 : Int32) (x5 : Int32) (v0 : V) (v1 : V) (v2 : V) (v3 : V) (v4 : V) (v5 : V) (v6 : V) (v7 : V) (v8 : V) (v9 : V) (v10 : V), (sl_L_holds_154 post f1 f2 f3 k0 n) x4 x5 v0 v1 v2 v3 v4 v5 v6 v7 v8 v9 v10 → ∀ (H : Heap) (locs : List Loc) (ls : Array Slot), mw E A s.heap H locs (List.flatten [cG aG (a0 0) (a1 0) (a2 0) (a3 0) (aH 0) (aS 0) v0, cM E a0 v1, cM E a1 v2, cM E a2 v3, cM E a3 v4, cH E aH (h0 0) (h1 0) (h2 0) (h3 0) v5, cM E h0 v6, cM E h1 v7, cM E h2 v8, cM E h3 v9, cS E aS v10]) → lv_has ls 7 [(0, .ref (aG 0)), (1, .int f1), (2, .int f2), (3, .int f3), (4, .int x4), (5, .int x5)] → W p l e rmL_holds s m args below meth c H locs 0 0 (qI E A (fun r (u : V × V × V × V × V × V × V × V × V × V × V) => post r u.1 u.2.1 u.2.2.1 u.2.2.2.1 u.2.2.2.2.1 u.2.2.2.2.2.1 u.2.2.2.2.2.2.1 u.2.2.2.2.2.2.2.1 u.2.2.2.2.2.2.2.2.1 u.2.2.2.2.2.2.2.2.2.1 u.2.2.2.2.2.2.2.2.2.2) (fun (u : V × V × V × V × V × V × V × V × V × V × V) => (List.flatten [cG aG (a0 0) (a1 0) (a2 0) (a3 0) (aH 0) (aS 0) u.1, cM E a0 u.2.1, cM E a1 u.2.2.1, cM E a2 u.2.2.2.1, cM E a3 u.2.2.2.2.1, cH E aH (h0 0) (h1 0) (h2 0) (h3 0) u.2.2.2.2.2.1, cM E h0 u.2.2.2.2.2.2.1, cM E h1 u.2.2.2.2.2.2.2.1, cM E h2 u.2.2.2.2.2.2.2.2.1, cM E h3 u.2.2.2.2.2.2.2.2.2.1, cS E aS u.2.2.2.2.2.2.2.2.2.2])) below args s) (F0 m 154 ls []) := fun x4 x5 v0 v1 v2 v3 v4 v5 v6 v7 v8 v9 v10 h H locs ls hw hl => ih x4 x5 v0 v1 v2 v3 v4 v5 v6 v7 v8 v9 v10 h H locs ls hw hl hk0
    replace h : sb_L_holds_154 post f1 f2 f3 k0 (sl_L_holds_154 post f1 f2 f3 k0 n) x4 x5 v0 v1 v2 v3 v4 v5 v6 v7 v8 v9 v10 := h
    unfold sb_L_holds_154 at h
    refine lv_iload hx hb dL_holds_154 (lv_at hl 5 rfl) ?_
    refine lv_aload_n hx hb dL_holds_156 rfl (lv_at hl 0 rfl) ?_
    refine lv_iconst (v := 1) hx hb dL_holds_157 (by decide) ?_
    refine x_cV (As := [.int 1]) (rest := [.int x5]) (F := (List.flatten [cM E a1 v2, cM E a2 v3, cM E a3 v4, cM E h0 v6, cM E h1 v7, cM E h2 v8, cM E h3 v9])) C0 hw (p_fl (ds := [cG aG (a0 0) (a1 0) (a2 0) (a3 0) (aH 0) (aS 0) v0, cM E a0 v1, cH E aH (h0 0) (h1 0) (h2 0) (h3 0) v5, cS E aS v10]) ((p_pk _ 0 _ rfl).trans (List.Perm.cons _ ((p_pk _ 0 _ rfl).trans (List.Perm.cons _ ((p_pk _ 3 _ rfl).trans (List.Perm.cons _ ((p_pk _ 7 _ rfl).trans (List.Perm.cons _ (List.Perm.refl _)))))))))) hl.1 0 6 rfl rfl (c_X6_count l E aG a0 a1 a2 a3 aH h0 h1 h2 h3 aS h) 1 gL_holds_X6_count rfl ⟨rfl, rfl⟩ (by decide +kernel) ⟨Nat.le_of_ble_eq_true rfl, Nat.le_of_ble_eq_true rfl⟩ rfl rfl (Nat.le_of_ble_eq_true rfl) dL_holds_158 ⟨Nat.zero_le _, Nat.zero_le _⟩ (fun r_66 u_104 H locs h hw => ?_)
    obtain ⟨v_67, v_68, v_69, v_70⟩ := u_104
    replace hw : mw E A s.heap H locs (List.flatten [cG aG (a0 0) (a1 0) (a2 0) (a3 0) (aH 0) (aS 0) v_67, cM E a0 v_68, cM E a1 v2, cM E a2 v3, cM E a3 v4, cH E aH (h0 0) (h1 0) (h2 0) (h3 0) v_69, cM E h0 v6, cM E h1 v7, cM E h2 v8, cM E h3 v9, cS E aS v_70]) := hw.perm (p_bk (ds := [cG aG (a0 0) (a1 0) (a2 0) (a3 0) (aH 0) (aS 0) v_67, cM E a0 v_68, cH E aH (h0 0) (h1 0) (h2 0) (h3 0) v_69, cS E aS v_70]) ((p_pk _ 0 _ rfl).trans (List.Perm.cons _ ((p_pk _ 0 _ rfl).trans (List.Perm.cons _ ((p_pk _ 3 _ rfl).trans (List.Perm.cons _ ((p_pk _ 7 _ rfl).trans (List.Perm.cons _ (List.Perm.refl _))))))))))
    refine lv_icmp_ge (tgt := 250) hx hb dL_holds_161 (by decide) (fun c_103 => ?_) (fun c_103 => ?_)
    · replace h := h.1 c_103
      exact hk0 _ _ _ _ _ _ _ _ _ _ _ _ _ h _ _ _ hw (lv_sub hl [0, 1, 2, 3, 4, 5] rfl)
    · replace h := h.2 c_103
      refine lv_aload_n hx hb dL_holds_164 rfl (lv_at hl 0 rfl) ?_
      refine lv_iload hx hb dL_holds_165 (lv_at hl 5 rfl) ?_
      refine lv_bipush (v := 7) hx hb dL_holds_167 (by decide) ?_
      refine x_cV (As := [.int x5, .int 7]) (rest := []) (F := (List.flatten [cM E a1 v2, cM E a2 v3, cM E a3 v4, cH E aH (h0 0) (h1 0) (h2 0) (h3 0) v_69, cM E h0 v6, cM E h1 v7, cM E h2 v8, cM E h3 v9, cS E aS v_70])) C0 hw (p_fl (ds := [cG aG (a0 0) (a1 0) (a2 0) (a3 0) (aH 0) (aS 0) v_67, cM E a0 v_68]) (List.Perm.refl _)) hl.1 0 6 rfl rfl (c_X6_stoneOf l E aG a0 a1 a2 a3 aH h0 h1 h2 h3 aS h) 2 gL_holds_X6_stoneOf rfl ⟨rfl, rfl⟩ (by decide +kernel) ⟨Nat.le_of_ble_eq_true rfl, Nat.le_of_ble_eq_true rfl⟩ rfl rfl (Nat.le_of_ble_eq_true rfl) dL_holds_169 ⟨Nat.zero_le _, Nat.zero_le _⟩ (fun r_71 u_102 H locs h hw => ?_)
      obtain ⟨v_72, v_73⟩ := u_102
      replace hw : mw E A s.heap H locs (List.flatten [cG aG (a0 0) (a1 0) (a2 0) (a3 0) (aH 0) (aS 0) v_72, cM E a0 v_73, cM E a1 v2, cM E a2 v3, cM E a3 v4, cH E aH (h0 0) (h1 0) (h2 0) (h3 0) v_69, cM E h0 v6, cM E h1 v7, cM E h2 v8, cM E h3 v9, cS E aS v_70]) := hw.perm (p_bk (ds := [cG aG (a0 0) (a1 0) (a2 0) (a3 0) (aH 0) (aS 0) v_72, cM E a0 v_73]) (List.Perm.refl _))
      refine lv_istore (lv' := [(6, .int r_71), (0, .ref (aG 0)), (1, .int f1), (2, .int f2), (3, .int f3), (4, .int x4), (5, .int x5)]) hx hb dL_holds_172 hl (by decide) rfl (fun ls hl => ?_)
      refine lv_iload hx hb dL_holds_174 (lv_at hl 5 rfl) ?_
      refine lv_aload_n hx hb dL_holds_176 rfl (lv_at hl 1 rfl) ?_
      refine lv_iload hx hb dL_holds_177 (lv_at hl 6 rfl) ?_
      refine lv_bipush (v := 10) hx hb dL_holds_179 (by decide) ?_
      refine x_cV (As := [.int x5, .int 10]) (rest := [.int x4]) (F := (List.flatten [cM E a1 v2, cM E a2 v3, cM E a3 v4, cH E aH (h0 0) (h1 0) (h2 0) (h3 0) v_69, cM E h0 v6, cM E h1 v7, cM E h2 v8, cM E h3 v9, cS E aS v_70])) C0 hw (p_fl (ds := [cG aG (a0 0) (a1 0) (a2 0) (a3 0) (aH 0) (aS 0) v_72, cM E a0 v_73]) (List.Perm.refl _)) hl.1 0 6 rfl rfl (c_X6_stoneOf l E aG a0 a1 a2 a3 aH h0 h1 h2 h3 aS h) 2 gL_holds_X6_stoneOf rfl ⟨rfl, rfl⟩ (by decide +kernel) ⟨Nat.le_of_ble_eq_true rfl, Nat.le_of_ble_eq_true rfl⟩ rfl rfl (Nat.le_of_ble_eq_true rfl) dL_holds_181 ⟨Nat.zero_le _, Nat.zero_le _⟩ (fun r_74 u_101 H locs h hw => ?_)
      obtain ⟨v_75, v_76⟩ := u_101
      replace hw : mw E A s.heap H locs (List.flatten [cG aG (a0 0) (a1 0) (a2 0) (a3 0) (aH 0) (aS 0) v_75, cM E a0 v_76, cM E a1 v2, cM E a2 v3, cM E a3 v4, cH E aH (h0 0) (h1 0) (h2 0) (h3 0) v_69, cM E h0 v6, cM E h1 v7, cM E h2 v8, cM E h3 v9, cS E aS v_70]) := hw.perm (p_bk (ds := [cG aG (a0 0) (a1 0) (a2 0) (a3 0) (aH 0) (aS 0) v_75, cM E a0 v_76]) (List.Perm.refl _))
      refine lv_iadd hx hb dL_holds_184 ?_
      refine lv_istore (lv' := [(4, .int (x4 + r_74)), (6, .int r_71), (0, .ref (aG 0)), (1, .int f1), (2, .int f2), (3, .int f3), (5, .int x5)]) hx hb dL_holds_185 hl (by decide) rfl (fun ls hl => ?_)
      refine lv_iload hx hb dL_holds_187 (lv_at hl 1 rfl) ?_
      refine lv_if_lt (tgt := 244) hx hb dL_holds_189 (by decide) (fun c_100 => ?_) (fun c_100 => ?_)
      · replace h := h.1 c_100
        refine lv_iinc (v := (x5 + 1)) (lv' := [(5, .int (x5 + 1)), (4, .int (x4 + r_74)), (6, .int r_71), (0, .ref (aG 0)), (1, .int f1), (2, .int f2), (3, .int f3)]) hx hb dL_holds_244 hl (k := 6) rfl rfl (by decide) rfl (fun ls hl => ?_)
        refine lv_goto (tgt := 154) hx hb dL_holds_247 (by decide) ?_
        exact hrec _ _ _ _ _ _ _ _ _ _ _ _ _ h _ _ _ hw (lv_sub hl [3, 4, 5, 6, 1, 0] rfl)
      · replace h := h.2 c_100
        refine lv_aload_n hx hb dL_holds_192 rfl (lv_at hl 2 rfl) ?_
        refine lv_iload hx hb dL_holds_193 (lv_at hl 1 rfl) ?_
        refine lv_iconst (v := 0) hx hb dL_holds_195 (by decide) ?_
        refine x_cV (As := [.int r_71, .int 0]) (rest := []) (F := (List.flatten [cM E a1 v2, cM E a2 v3, cM E a3 v4, cH E aH (h0 0) (h1 0) (h2 0) (h3 0) v_69, cM E h0 v6, cM E h1 v7, cM E h2 v8, cM E h3 v9, cS E aS v_70])) C0 hw (p_fl (ds := [cG aG (a0 0) (a1 0) (a2 0) (a3 0) (aH 0) (aS 0) v_75, cM E a0 v_76]) (List.Perm.refl _)) hl.1 0 6 rfl rfl (c_X6_memoOf l E aG a0 a1 a2 a3 aH h0 h1 h2 h3 aS h) 2 gL_holds_X6_memoOf rfl ⟨rfl, rfl⟩ (by decide +kernel) ⟨Nat.le_of_ble_eq_true rfl, Nat.le_of_ble_eq_true rfl⟩ rfl rfl (Nat.le_of_ble_eq_true rfl) dL_holds_196 ⟨Nat.zero_le _, Nat.zero_le _⟩ (fun r_77 u_99 H locs h hw => ?_)
        obtain ⟨v_78, v_79⟩ := u_99
        replace hw : mw E A s.heap H locs (List.flatten [cG aG (a0 0) (a1 0) (a2 0) (a3 0) (aH 0) (aS 0) v_78, cM E a0 v_79, cM E a1 v2, cM E a2 v3, cM E a3 v4, cH E aH (h0 0) (h1 0) (h2 0) (h3 0) v_69, cM E h0 v6, cM E h1 v7, cM E h2 v8, cM E h3 v9, cS E aS v_70]) := hw.perm (p_bk (ds := [cG aG (a0 0) (a1 0) (a2 0) (a3 0) (aH 0) (aS 0) v_78, cM E a0 v_79]) (List.Perm.refl _))
        refine lv_aload_n hx hb dL_holds_199 rfl (lv_at hl 2 rfl) ?_
        refine lv_iload hx hb dL_holds_200 (lv_at hl 6 rfl) ?_
        refine lv_iconst (v := 4) hx hb dL_holds_202 (by decide) ?_
        refine x_cV (As := [.int x5, .int 4]) (rest := [.int r_77]) (F := (List.flatten [cM E a1 v2, cM E a2 v3, cM E a3 v4, cH E aH (h0 0) (h1 0) (h2 0) (h3 0) v_69, cM E h0 v6, cM E h1 v7, cM E h2 v8, cM E h3 v9, cS E aS v_70])) C0 hw (p_fl (ds := [cG aG (a0 0) (a1 0) (a2 0) (a3 0) (aH 0) (aS 0) v_78, cM E a0 v_79]) (List.Perm.refl _)) hl.1 0 6 rfl rfl (c_X6_stoneOf l E aG a0 a1 a2 a3 aH h0 h1 h2 h3 aS h) 2 gL_holds_X6_stoneOf rfl ⟨rfl, rfl⟩ (by decide +kernel) ⟨Nat.le_of_ble_eq_true rfl, Nat.le_of_ble_eq_true rfl⟩ rfl rfl (Nat.le_of_ble_eq_true rfl) dL_holds_203 ⟨Nat.zero_le _, Nat.zero_le _⟩ (fun r_80 u_98 H locs h hw => ?_)
        obtain ⟨v_81, v_82⟩ := u_98
        replace hw : mw E A s.heap H locs (List.flatten [cG aG (a0 0) (a1 0) (a2 0) (a3 0) (aH 0) (aS 0) v_81, cM E a0 v_82, cM E a1 v2, cM E a2 v3, cM E a3 v4, cH E aH (h0 0) (h1 0) (h2 0) (h3 0) v_69, cM E h0 v6, cM E h1 v7, cM E h2 v8, cM E h3 v9, cS E aS v_70]) := hw.perm (p_bk (ds := [cG aG (a0 0) (a1 0) (a2 0) (a3 0) (aH 0) (aS 0) v_81, cM E a0 v_82]) (List.Perm.refl _))
        refine lv_icmp_ne (tgt := 242) hx hb dL_holds_206 (by decide) (fun c_97 => ?_) (fun c_97 => ?_)
        · replace h := h.1 c_97
          refine lv_iconst (v := 0) hx hb dL_holds_242 (by decide) ?_
          exact x_retz C0 rfl ⟨v_81, v_82, v2, v3, v4, v_69, v6, v7, v8, v9, v_70⟩ hw h dL_holds_243
        · replace h := h.2 c_97
          refine lv_aload_n hx hb dL_holds_209 rfl (lv_at hl 2 rfl) ?_
          refine lv_iload hx hb dL_holds_210 (lv_at hl 1 rfl) ?_
          refine lv_iconst (v := 1) hx hb dL_holds_212 (by decide) ?_
          refine x_cV (As := [.int r_71, .int 1]) (rest := []) (F := (List.flatten [cM E a1 v2, cM E a2 v3, cM E a3 v4, cH E aH (h0 0) (h1 0) (h2 0) (h3 0) v_69, cM E h0 v6, cM E h1 v7, cM E h2 v8, cM E h3 v9, cS E aS v_70])) C0 hw (p_fl (ds := [cG aG (a0 0) (a1 0) (a2 0) (a3 0) (aH 0) (aS 0) v_81, cM E a0 v_82]) (List.Perm.refl _)) hl.1 0 6 rfl rfl (c_X6_memoOf l E aG a0 a1 a2 a3 aH h0 h1 h2 h3 aS h) 2 gL_holds_X6_memoOf rfl ⟨rfl, rfl⟩ (by decide +kernel) ⟨Nat.le_of_ble_eq_true rfl, Nat.le_of_ble_eq_true rfl⟩ rfl rfl (Nat.le_of_ble_eq_true rfl) dL_holds_213 ⟨Nat.zero_le _, Nat.zero_le _⟩ (fun r_83 u_96 H locs h hw => ?_)
          obtain ⟨v_84, v_85⟩ := u_96
          replace hw : mw E A s.heap H locs (List.flatten [cG aG (a0 0) (a1 0) (a2 0) (a3 0) (aH 0) (aS 0) v_84, cM E a0 v_85, cM E a1 v2, cM E a2 v3, cM E a3 v4, cH E aH (h0 0) (h1 0) (h2 0) (h3 0) v_69, cM E h0 v6, cM E h1 v7, cM E h2 v8, cM E h3 v9, cS E aS v_70]) := hw.perm (p_bk (ds := [cG aG (a0 0) (a1 0) (a2 0) (a3 0) (aH 0) (aS 0) v_84, cM E a0 v_85]) (List.Perm.refl _))
          refine lv_aload_n hx hb dL_holds_216 rfl (lv_at hl 2 rfl) ?_
          refine lv_iload hx hb dL_holds_217 (lv_at hl 6 rfl) ?_
          refine lv_iconst (v := 5) hx hb dL_holds_219 (by decide) ?_
          refine x_cV (As := [.int x5, .int 5]) (rest := [.int r_83]) (F := (List.flatten [cM E a1 v2, cM E a2 v3, cM E a3 v4, cH E aH (h0 0) (h1 0) (h2 0) (h3 0) v_69, cM E h0 v6, cM E h1 v7, cM E h2 v8, cM E h3 v9, cS E aS v_70])) C0 hw (p_fl (ds := [cG aG (a0 0) (a1 0) (a2 0) (a3 0) (aH 0) (aS 0) v_84, cM E a0 v_85]) (List.Perm.refl _)) hl.1 0 6 rfl rfl (c_X6_stoneOf l E aG a0 a1 a2 a3 aH h0 h1 h2 h3 aS h) 2 gL_holds_X6_stoneOf rfl ⟨rfl, rfl⟩ (by decide +kernel) ⟨Nat.le_of_ble_eq_true rfl, Nat.le_of_ble_eq_true rfl⟩ rfl rfl (Nat.le_of_ble_eq_true rfl) dL_holds_220 ⟨Nat.zero_le _, Nat.zero_le _⟩ (fun r_86 u_95 H locs h hw => ?_)
          obtain ⟨v_87, v_88⟩ := u_95
          replace hw : mw E A s.heap H locs (List.flatten [cG aG (a0 0) (a1 0) (a2 0) (a3 0) (aH 0) (aS 0) v_87, cM E a0 v_88, cM E a1 v2, cM E a2 v3, cM E a3 v4, cH E aH (h0 0) (h1 0) (h2 0) (h3 0) v_69, cM E h0 v6, cM E h1 v7, cM E h2 v8, cM E h3 v9, cS E aS v_70]) := hw.perm (p_bk (ds := [cG aG (a0 0) (a1 0) (a2 0) (a3 0) (aH 0) (aS 0) v_87, cM E a0 v_88]) (List.Perm.refl _))
          refine lv_icmp_ne (tgt := 242) hx hb dL_holds_223 (by decide) (fun c_94 => ?_) (fun c_94 => ?_)
          · replace h := h.1 c_94
            refine lv_iconst (v := 0) hx hb dL_holds_242 (by decide) ?_
            exact x_retz C0 rfl ⟨v_87, v_88, v2, v3, v4, v_69, v6, v7, v8, v9, v_70⟩ hw h dL_holds_243
          · replace h := h.2 c_94
            refine lv_aload_n hx hb dL_holds_226 rfl (lv_at hl 2 rfl) ?_
            refine lv_iload hx hb dL_holds_227 (lv_at hl 1 rfl) ?_
            refine lv_iconst (v := 3) hx hb dL_holds_229 (by decide) ?_
            refine x_cV (As := [.int r_71, .int 3]) (rest := []) (F := (List.flatten [cM E a1 v2, cM E a2 v3, cM E a3 v4, cH E aH (h0 0) (h1 0) (h2 0) (h3 0) v_69, cM E h0 v6, cM E h1 v7, cM E h2 v8, cM E h3 v9, cS E aS v_70])) C0 hw (p_fl (ds := [cG aG (a0 0) (a1 0) (a2 0) (a3 0) (aH 0) (aS 0) v_87, cM E a0 v_88]) (List.Perm.refl _)) hl.1 0 6 rfl rfl (c_X6_memoOf l E aG a0 a1 a2 a3 aH h0 h1 h2 h3 aS h) 2 gL_holds_X6_memoOf rfl ⟨rfl, rfl⟩ (by decide +kernel) ⟨Nat.le_of_ble_eq_true rfl, Nat.le_of_ble_eq_true rfl⟩ rfl rfl (Nat.le_of_ble_eq_true rfl) dL_holds_230 ⟨Nat.zero_le _, Nat.zero_le _⟩ (fun r_89 u_93 H locs h hw => ?_)
            obtain ⟨v_90, v_91⟩ := u_93
            replace hw : mw E A s.heap H locs (List.flatten [cG aG (a0 0) (a1 0) (a2 0) (a3 0) (aH 0) (aS 0) v_90, cM E a0 v_91, cM E a1 v2, cM E a2 v3, cM E a3 v4, cH E aH (h0 0) (h1 0) (h2 0) (h3 0) v_69, cM E h0 v6, cM E h1 v7, cM E h2 v8, cM E h3 v9, cS E aS v_70]) := hw.perm (p_bk (ds := [cG aG (a0 0) (a1 0) (a2 0) (a3 0) (aH 0) (aS 0) v_90, cM E a0 v_91]) (List.Perm.refl _))
            refine lv_iload hx hb dL_holds_233 (lv_at hl 6 rfl) ?_
            refine lv_ishr hx hb dL_holds_235 ?_
            refine lv_iconst (v := 1) hx hb dL_holds_236 (by decide) ?_
            refine lv_iand hx hb dL_holds_237 ?_
            refine lv_iconst (v := 1) hx hb dL_holds_238 (by decide) ?_
            refine lv_icmp_eq (tgt := 244) hx hb dL_holds_239 (by decide) (fun c_92 => ?_) (fun c_92 => ?_)
            · replace h := h.1 c_92
              refine lv_iinc (v := (x5 + 1)) (lv' := [(5, .int (x5 + 1)), (4, .int (x4 + r_74)), (6, .int r_71), (0, .ref (aG 0)), (1, .int f1), (2, .int f2), (3, .int f3)]) hx hb dL_holds_244 hl (k := 6) rfl rfl (by decide) rfl (fun ls hl => ?_)
              refine lv_goto (tgt := 154) hx hb dL_holds_247 (by decide) ?_
              exact hrec _ _ _ _ _ _ _ _ _ _ _ _ _ h _ _ _ hw (lv_sub hl [3, 4, 5, 6, 1, 0] rfl)
            · replace h := h.2 c_92
              refine lv_iconst (v := 0) hx hb dL_holds_242 (by decide) ?_
              exact x_retz C0 rfl ⟨v_90, v_91, v2, v3, v4, v_69, v6, v7, v8, v9, v_70⟩ hw h dL_holds_243
set_option maxRecDepth 100000 in
set_option maxHeartbeats 4000000 in
theorem j_L_holds_279 {p : Program} {l : Launch} {e : Env} {s : State} {m : MethodId} {below : List Frame} {meth : Method} {c : Code} {E : EE} {A : Nat → Prop} {aG : Nat → Nat} {a0 : Nat → Nat} {a1 : Nat → Nat} {a2 : Nat → Nat} {a3 : Nat → Nat} {aH : Nat → Nat} {h0 : Nat → Nat} {h1 : Nat → Nat} {h2 : Nat → Nat} {h3 : Nat → Nat} {aS : Nat → Nat} {args : Array Value} (C0 : Cx E p s m args meth c A cL_holds 7 RL wsL_holds (some .boolean)) {post : Int32 → V → V → V → V → V → V → V → V → V → V → V → Prop}  : ∀ (x2 : Int32) (x3 : Int32) (x4 : Int32) (q0 : Int32) (v0 : V) (v1 : V) (v2 : V) (v3 : V) (v4 : V) (v5 : V) (v6 : V) (v7 : V) (v8 : V) (v9 : V) (v10 : V), sj_L_holds_279 post  x2 x3 x4 q0 v0 v1 v2 v3 v4 v5 v6 v7 v8 v9 v10 → ∀ (H : Heap) (locs : List Loc) (ls : Array Slot), mw E A s.heap H locs (List.flatten [cG aG (a0 0) (a1 0) (a2 0) (a3 0) (aH 0) (aS 0) v0, cM E a0 v1, cM E a1 v2, cM E a2 v3, cM E a3 v4, cH E aH (h0 0) (h1 0) (h2 0) (h3 0) v5, cM E h0 v6, cM E h1 v7, cM E h2 v8, cM E h3 v9, cS E aS v10]) → lv_has ls 7 [(0, .ref (aG 0)), (2, .int x2), (3, .int x3), (4, .int x4)] → W p l e rmL_holds s m args below meth c H locs 0 0 (qI E A (fun r (u : V × V × V × V × V × V × V × V × V × V × V) => post r u.1 u.2.1 u.2.2.1 u.2.2.2.1 u.2.2.2.2.1 u.2.2.2.2.2.1 u.2.2.2.2.2.2.1 u.2.2.2.2.2.2.2.1 u.2.2.2.2.2.2.2.2.1 u.2.2.2.2.2.2.2.2.2.1 u.2.2.2.2.2.2.2.2.2.2) (fun (u : V × V × V × V × V × V × V × V × V × V × V) => (List.flatten [cG aG (a0 0) (a1 0) (a2 0) (a3 0) (aH 0) (aS 0) u.1, cM E a0 u.2.1, cM E a1 u.2.2.1, cM E a2 u.2.2.2.1, cM E a3 u.2.2.2.2.1, cH E aH (h0 0) (h1 0) (h2 0) (h3 0) u.2.2.2.2.2.1, cM E h0 u.2.2.2.2.2.2.1, cM E h1 u.2.2.2.2.2.2.2.1, cM E h2 u.2.2.2.2.2.2.2.2.1, cM E h3 u.2.2.2.2.2.2.2.2.2.1, cS E aS u.2.2.2.2.2.2.2.2.2.2])) below args s) (F0 m 279 ls [.int q0]) := by
  have hx := C0.1
  have hb := C0.2.1
  intro x2 x3 x4 q0 v0 v1 v2 v3 v4 v5 v6 v7 v8 v9 v10 h H locs ls hw hl
  unfold sj_L_holds_279 at h
  refine lv_istore (lv' := [(5, .int q0), (0, .ref (aG 0)), (2, .int x2), (3, .int x3), (4, .int x4)]) hx hb dL_holds_279 hl (by decide) rfl (fun ls hl => ?_)
  refine lv_iload hx hb dL_holds_281 (lv_at hl 0 rfl) ?_
  refine lv_if_eq (tgt := 338) hx hb dL_holds_283 (by decide) (fun c_158 => ?_) (fun c_158 => ?_)
  · replace h := h.1 c_158
    refine lv_iconst (v := 0) hx hb dL_holds_338 (by decide) ?_
    exact x_retz C0 rfl ⟨v0, v1, v2, v3, v4, v5, v6, v7, v8, v9, v10⟩ hw h dL_holds_339
  · replace h := h.2 c_158
    refine lv_iload_n hx hb dL_holds_286 rfl (lv_at hl 2 rfl) ?_
    refine lv_aload_n hx hb dL_holds_287 rfl (lv_at hl 1 rfl) ?_
    refine lv_bipush (v := 6) hx hb dL_holds_288 (by decide) ?_
    refine x_cV (As := [.int 6]) (rest := [.int x2]) (F := (List.flatten [cM E a1 v2, cM E a2 v3, cM E a3 v4, cM E h0 v6, cM E h1 v7, cM E h2 v8, cM E h3 v9])) C0 hw (p_fl (ds := [cG aG (a0 0) (a1 0) (a2 0) (a3 0) (aH 0) (aS 0) v0, cM E a0 v1, cH E aH (h0 0) (h1 0) (h2 0) (h3 0) v5, cS E aS v10]) ((p_pk _ 0 _ rfl).trans (List.Perm.cons _ ((p_pk _ 0 _ rfl).trans (List.Perm.cons _ ((p_pk _ 3 _ rfl).trans (List.Perm.cons _ ((p_pk _ 7 _ rfl).trans (List.Perm.cons _ (List.Perm.refl _)))))))))) hl.1 0 6 rfl rfl (c_X6_count l E aG a0 a1 a2 a3 aH h0 h1 h2 h3 aS h) 1 gL_holds_X6_count rfl ⟨rfl, rfl⟩ (by decide +kernel) ⟨Nat.le_of_ble_eq_true rfl, Nat.le_of_ble_eq_true rfl⟩ rfl rfl (Nat.le_of_ble_eq_true rfl) dL_holds_290 ⟨Nat.zero_le _, Nat.zero_le _⟩ (fun r_124 u_157 H locs h hw => ?_)
    obtain ⟨v_125, v_126, v_127, v_128⟩ := u_157
    replace hw : mw E A s.heap H locs (List.flatten [cG aG (a0 0) (a1 0) (a2 0) (a3 0) (aH 0) (aS 0) v_125, cM E a0 v_126, cM E a1 v2, cM E a2 v3, cM E a3 v4, cH E aH (h0 0) (h1 0) (h2 0) (h3 0) v_127, cM E h0 v6, cM E h1 v7, cM E h2 v8, cM E h3 v9, cS E aS v_128]) := hw.perm (p_bk (ds := [cG aG (a0 0) (a1 0) (a2 0) (a3 0) (aH 0) (aS 0) v_125, cM E a0 v_126, cH E aH (h0 0) (h1 0) (h2 0) (h3 0) v_127, cS E aS v_128]) ((p_pk _ 0 _ rfl).trans (List.Perm.cons _ ((p_pk _ 0 _ rfl).trans (List.Perm.cons _ ((p_pk _ 3 _ rfl).trans (List.Perm.cons _ ((p_pk _ 7 _ rfl).trans (List.Perm.cons _ (List.Perm.refl _))))))))))
    refine lv_icmp_ne (tgt := 338) hx hb dL_holds_293 (by decide) (fun c_156 => ?_) (fun c_156 => ?_)
    · replace h := h.1 c_156
      refine lv_iconst (v := 0) hx hb dL_holds_338 (by decide) ?_
      exact x_retz C0 rfl ⟨v_125, v_126, v2, v3, v4, v_127, v6, v7, v8, v9, v_128⟩ hw h dL_holds_339
    · replace h := h.2 c_156
      refine lv_iload_n hx hb dL_holds_296 rfl (lv_at hl 3 rfl) ?_
      refine lv_aload_n hx hb dL_holds_297 rfl (lv_at hl 1 rfl) ?_
      refine lv_iconst (v := 5) hx hb dL_holds_298 (by decide) ?_
      refine x_cV (As := [.int 5]) (rest := [.int x3]) (F := (List.flatten [cM E a1 v2, cM E a2 v3, cM E a3 v4, cM E h0 v6, cM E h1 v7, cM E h2 v8, cM E h3 v9])) C0 hw (p_fl (ds := [cG aG (a0 0) (a1 0) (a2 0) (a3 0) (aH 0) (aS 0) v_125, cM E a0 v_126, cH E aH (h0 0) (h1 0) (h2 0) (h3 0) v_127, cS E aS v_128]) ((p_pk _ 0 _ rfl).trans (List.Perm.cons _ ((p_pk _ 0 _ rfl).trans (List.Perm.cons _ ((p_pk _ 3 _ rfl).trans (List.Perm.cons _ ((p_pk _ 7 _ rfl).trans (List.Perm.cons _ (List.Perm.refl _)))))))))) hl.1 0 6 rfl rfl (c_X6_count l E aG a0 a1 a2 a3 aH h0 h1 h2 h3 aS h) 1 gL_holds_X6_count rfl ⟨rfl, rfl⟩ (by decide +kernel) ⟨Nat.le_of_ble_eq_true rfl, Nat.le_of_ble_eq_true rfl⟩ rfl rfl (Nat.le_of_ble_eq_true rfl) dL_holds_299 ⟨Nat.zero_le _, Nat.zero_le _⟩ (fun r_129 u_155 H locs h hw => ?_)
      obtain ⟨v_130, v_131, v_132, v_133⟩ := u_155
      replace hw : mw E A s.heap H locs (List.flatten [cG aG (a0 0) (a1 0) (a2 0) (a3 0) (aH 0) (aS 0) v_130, cM E a0 v_131, cM E a1 v2, cM E a2 v3, cM E a3 v4, cH E aH (h0 0) (h1 0) (h2 0) (h3 0) v_132, cM E h0 v6, cM E h1 v7, cM E h2 v8, cM E h3 v9, cS E aS v_133]) := hw.perm (p_bk (ds := [cG aG (a0 0) (a1 0) (a2 0) (a3 0) (aH 0) (aS 0) v_130, cM E a0 v_131, cH E aH (h0 0) (h1 0) (h2 0) (h3 0) v_132, cS E aS v_133]) ((p_pk _ 0 _ rfl).trans (List.Perm.cons _ ((p_pk _ 0 _ rfl).trans (List.Perm.cons _ ((p_pk _ 3 _ rfl).trans (List.Perm.cons _ ((p_pk _ 7 _ rfl).trans (List.Perm.cons _ (List.Perm.refl _))))))))))
      refine lv_icmp_ne (tgt := 338) hx hb dL_holds_302 (by decide) (fun c_154 => ?_) (fun c_154 => ?_)
      · replace h := h.1 c_154
        refine lv_iconst (v := 0) hx hb dL_holds_338 (by decide) ?_
        exact x_retz C0 rfl ⟨v_130, v_131, v2, v3, v4, v_132, v6, v7, v8, v9, v_133⟩ hw h dL_holds_339
      · replace h := h.2 c_154
        refine lv_iload hx hb dL_holds_305 (lv_at hl 4 rfl) ?_
        refine lv_aload_n hx hb dL_holds_307 rfl (lv_at hl 1 rfl) ?_
        refine lv_bipush (v := 10) hx hb dL_holds_308 (by decide) ?_
        refine x_cV (As := [.int 10]) (rest := [.int x4]) (F := (List.flatten [cM E a1 v2, cM E a2 v3, cM E a3 v4, cM E h0 v6, cM E h1 v7, cM E h2 v8, cM E h3 v9])) C0 hw (p_fl (ds := [cG aG (a0 0) (a1 0) (a2 0) (a3 0) (aH 0) (aS 0) v_130, cM E a0 v_131, cH E aH (h0 0) (h1 0) (h2 0) (h3 0) v_132, cS E aS v_133]) ((p_pk _ 0 _ rfl).trans (List.Perm.cons _ ((p_pk _ 0 _ rfl).trans (List.Perm.cons _ ((p_pk _ 3 _ rfl).trans (List.Perm.cons _ ((p_pk _ 7 _ rfl).trans (List.Perm.cons _ (List.Perm.refl _)))))))))) hl.1 0 6 rfl rfl (c_X6_count l E aG a0 a1 a2 a3 aH h0 h1 h2 h3 aS h) 1 gL_holds_X6_count rfl ⟨rfl, rfl⟩ (by decide +kernel) ⟨Nat.le_of_ble_eq_true rfl, Nat.le_of_ble_eq_true rfl⟩ rfl rfl (Nat.le_of_ble_eq_true rfl) dL_holds_310 ⟨Nat.zero_le _, Nat.zero_le _⟩ (fun r_134 u_153 H locs h hw => ?_)
        obtain ⟨v_135, v_136, v_137, v_138⟩ := u_153
        replace hw : mw E A s.heap H locs (List.flatten [cG aG (a0 0) (a1 0) (a2 0) (a3 0) (aH 0) (aS 0) v_135, cM E a0 v_136, cM E a1 v2, cM E a2 v3, cM E a3 v4, cH E aH (h0 0) (h1 0) (h2 0) (h3 0) v_137, cM E h0 v6, cM E h1 v7, cM E h2 v8, cM E h3 v9, cS E aS v_138]) := hw.perm (p_bk (ds := [cG aG (a0 0) (a1 0) (a2 0) (a3 0) (aH 0) (aS 0) v_135, cM E a0 v_136, cH E aH (h0 0) (h1 0) (h2 0) (h3 0) v_137, cS E aS v_138]) ((p_pk _ 0 _ rfl).trans (List.Perm.cons _ ((p_pk _ 0 _ rfl).trans (List.Perm.cons _ ((p_pk _ 3 _ rfl).trans (List.Perm.cons _ ((p_pk _ 7 _ rfl).trans (List.Perm.cons _ (List.Perm.refl _))))))))))
        refine lv_icmp_lt (tgt := 338) hx hb dL_holds_313 (by decide) (fun c_152 => ?_) (fun c_152 => ?_)
        · replace h := h.1 c_152
          refine lv_iconst (v := 0) hx hb dL_holds_338 (by decide) ?_
          exact x_retz C0 rfl ⟨v_135, v_136, v2, v3, v4, v_137, v6, v7, v8, v9, v_138⟩ hw h dL_holds_339
        · replace h := h.2 c_152
          refine lv_aload_n hx hb dL_holds_316 rfl (lv_at hl 1 rfl) ?_
          refine lv_bipush (v := 8) hx hb dL_holds_317 (by decide) ?_
          refine x_cV (As := [.int 8]) (rest := []) (F := (List.flatten [cM E a1 v2, cM E a2 v3, cM E a3 v4, cM E h0 v6, cM E h1 v7, cM E h2 v8, cM E h3 v9])) C0 hw (p_fl (ds := [cG aG (a0 0) (a1 0) (a2 0) (a3 0) (aH 0) (aS 0) v_135, cM E a0 v_136, cH E aH (h0 0) (h1 0) (h2 0) (h3 0) v_137, cS E aS v_138]) ((p_pk _ 0 _ rfl).trans (List.Perm.cons _ ((p_pk _ 0 _ rfl).trans (List.Perm.cons _ ((p_pk _ 3 _ rfl).trans (List.Perm.cons _ ((p_pk _ 7 _ rfl).trans (List.Perm.cons _ (List.Perm.refl _)))))))))) hl.1 0 6 rfl rfl (c_X6_count l E aG a0 a1 a2 a3 aH h0 h1 h2 h3 aS h) 1 gL_holds_X6_count rfl ⟨rfl, rfl⟩ (by decide +kernel) ⟨Nat.le_of_ble_eq_true rfl, Nat.le_of_ble_eq_true rfl⟩ rfl rfl (Nat.le_of_ble_eq_true rfl) dL_holds_319 ⟨Nat.zero_le _, Nat.zero_le _⟩ (fun r_139 u_151 H locs h hw => ?_)
          obtain ⟨v_140, v_141, v_142, v_143⟩ := u_151
          replace hw : mw E A s.heap H locs (List.flatten [cG aG (a0 0) (a1 0) (a2 0) (a3 0) (aH 0) (aS 0) v_140, cM E a0 v_141, cM E a1 v2, cM E a2 v3, cM E a3 v4, cH E aH (h0 0) (h1 0) (h2 0) (h3 0) v_142, cM E h0 v6, cM E h1 v7, cM E h2 v8, cM E h3 v9, cS E aS v_143]) := hw.perm (p_bk (ds := [cG aG (a0 0) (a1 0) (a2 0) (a3 0) (aH 0) (aS 0) v_140, cM E a0 v_141, cH E aH (h0 0) (h1 0) (h2 0) (h3 0) v_142, cS E aS v_143]) ((p_pk _ 0 _ rfl).trans (List.Perm.cons _ ((p_pk _ 0 _ rfl).trans (List.Perm.cons _ ((p_pk _ 3 _ rfl).trans (List.Perm.cons _ ((p_pk _ 7 _ rfl).trans (List.Perm.cons _ (List.Perm.refl _))))))))))
          refine x_ldc (v := 100000000) C0 1 rfl dL_holds_322 ?_
          refine lv_isub hx hb dL_holds_324 ?_
          refine lv_aload_n hx hb dL_holds_325 rfl (lv_at hl 1 rfl) ?_
          refine lv_bipush (v := 9) hx hb dL_holds_326 (by decide) ?_
          refine x_cV (As := [.int 9]) (rest := [.int (r_139 - 100000000)]) (F := (List.flatten [cM E a1 v2, cM E a2 v3, cM E a3 v4, cM E h0 v6, cM E h1 v7, cM E h2 v8, cM E h3 v9])) C0 hw (p_fl (ds := [cG aG (a0 0) (a1 0) (a2 0) (a3 0) (aH 0) (aS 0) v_140, cM E a0 v_141, cH E aH (h0 0) (h1 0) (h2 0) (h3 0) v_142, cS E aS v_143]) ((p_pk _ 0 _ rfl).trans (List.Perm.cons _ ((p_pk _ 0 _ rfl).trans (List.Perm.cons _ ((p_pk _ 3 _ rfl).trans (List.Perm.cons _ ((p_pk _ 7 _ rfl).trans (List.Perm.cons _ (List.Perm.refl _)))))))))) hl.1 0 6 rfl rfl (c_X6_count l E aG a0 a1 a2 a3 aH h0 h1 h2 h3 aS h) 1 gL_holds_X6_count rfl ⟨rfl, rfl⟩ (by decide +kernel) ⟨Nat.le_of_ble_eq_true rfl, Nat.le_of_ble_eq_true rfl⟩ rfl rfl (Nat.le_of_ble_eq_true rfl) dL_holds_328 ⟨Nat.zero_le _, Nat.zero_le _⟩ (fun r_144 u_150 H locs h hw => ?_)
          obtain ⟨v_145, v_146, v_147, v_148⟩ := u_150
          replace hw : mw E A s.heap H locs (List.flatten [cG aG (a0 0) (a1 0) (a2 0) (a3 0) (aH 0) (aS 0) v_145, cM E a0 v_146, cM E a1 v2, cM E a2 v3, cM E a3 v4, cH E aH (h0 0) (h1 0) (h2 0) (h3 0) v_147, cM E h0 v6, cM E h1 v7, cM E h2 v8, cM E h3 v9, cS E aS v_148]) := hw.perm (p_bk (ds := [cG aG (a0 0) (a1 0) (a2 0) (a3 0) (aH 0) (aS 0) v_145, cM E a0 v_146, cH E aH (h0 0) (h1 0) (h2 0) (h3 0) v_147, cS E aS v_148]) ((p_pk _ 0 _ rfl).trans (List.Perm.cons _ ((p_pk _ 0 _ rfl).trans (List.Perm.cons _ ((p_pk _ 3 _ rfl).trans (List.Perm.cons _ ((p_pk _ 7 _ rfl).trans (List.Perm.cons _ (List.Perm.refl _))))))))))
          refine lv_icmp_ne (tgt := 338) hx hb dL_holds_331 (by decide) (fun c_149 => ?_) (fun c_149 => ?_)
          · replace h := h.1 c_149
            refine lv_iconst (v := 0) hx hb dL_holds_338 (by decide) ?_
            exact x_retz C0 rfl ⟨v_145, v_146, v2, v3, v4, v_147, v6, v7, v8, v9, v_148⟩ hw h dL_holds_339
          · replace h := h.2 c_149
            refine lv_iconst (v := 1) hx hb dL_holds_334 (by decide) ?_
            refine lv_goto (tgt := 339) hx hb dL_holds_335 (by decide) ?_
            exact x_retz C0 rfl ⟨v_145, v_146, v2, v3, v4, v_147, v6, v7, v8, v9, v_148⟩ hw h dL_holds_339
set_option maxRecDepth 100000 in
set_option maxHeartbeats 4000000 in
theorem c_L_holds (l : Launch) (E : EE) (aG : Nat → Nat) (a0 : Nat → Nat) (a1 : Nat → Nat) (a2 : Nat → Nat) (a3 : Nat → Nat) (aH : Nat → Nat) (h0 : Nat → Nat) (h1 : Nat → Nat) (h2 : Nat → Nat) (h3 : Nat → Nat) (aS : Nat → Nat) {v0 : V} {v1 : V} {v2 : V} {v3 : V} {v4 : V} {v5 : V} {v6 : V} {v7 : V} {v8 : V} {v9 : V} {v10 : V} {p1 : Int32} {post : Int32 → V → V → V → V → V → V → V → V → V → V → V → Prop} (h : s_L_holds v0 v1 v2 v3 v4 v5 v6 v7 v8 v9 v10 p1 post) : KI l E yL_holds wsL_holds rmL_holds [.ref (aG 0), .int p1] (List.flatten [cG aG (a0 0) (a1 0) (a2 0) (a3 0) (aH 0) (aS 0) v0, cM E a0 v1, cM E a1 v2, cM E a2 v3, cM E a3 v4, cH E aH (h0 0) (h1 0) (h2 0) (h3 0) v5, cM E h0 v6, cM E h1 v7, cM E h2 v8, cM E h3 v9, cS E aS v10]) (S := V × V × V × V × V × V × V × V × V × V × V) (fun r (u : V × V × V × V × V × V × V × V × V × V × V) => post r u.1 u.2.1 u.2.2.1 u.2.2.2.1 u.2.2.2.2.1 u.2.2.2.2.2.1 u.2.2.2.2.2.2.1 u.2.2.2.2.2.2.2.1 u.2.2.2.2.2.2.2.2.1 u.2.2.2.2.2.2.2.2.2.1 u.2.2.2.2.2.2.2.2.2.2) (fun (u : V × V × V × V × V × V × V × V × V × V × V) => (List.flatten [cG aG (a0 0) (a1 0) (a2 0) (a3 0) (aH 0) (aS 0) u.1, cM E a0 u.2.1, cM E a1 u.2.2.1, cM E a2 u.2.2.2.1, cM E a3 u.2.2.2.2.1, cH E aH (h0 0) (h1 0) (h2 0) (h3 0) u.2.2.2.2.2.1, cM E h0 u.2.2.2.2.2.2.1, cM E h1 u.2.2.2.2.2.2.2.1, cM E h2 u.2.2.2.2.2.2.2.2.1, cM E h3 u.2.2.2.2.2.2.2.2.2.1, cS E aS u.2.2.2.2.2.2.2.2.2.2])) := by
  unfold s_L_holds at h
  refine KI.go (cc := cL_holds) (ret := (some .boolean)) (maxL := 7) (own := RL) (by decide) rfl (Nat.le_of_ble_eq_true rfl) rfl (fun p e s m below meth c A ls C0 hw hl => ?_)
  have hx := C0.1
  have hb := C0.2.1
  replace hl : lv_has ls 7 [(0, .ref (aG 0)), (1, .int p1)] := hl
  refine lv_iconst (v := 0) hx hb dL_holds_0 (by decide) ?_
  refine lv_istore_n (lv' := [(2, .int 0), (0, .ref (aG 0)), (1, .int p1)]) hx hb dL_holds_1 rfl hl (by decide) rfl (fun ls hl => ?_)
  refine lv_iconst (v := 0) hx hb dL_holds_2 (by decide) ?_
  refine lv_istore_n (lv' := [(3, .int 0), (2, .int 0), (0, .ref (aG 0)), (1, .int p1)]) hx hb dL_holds_3 rfl hl (by decide) rfl (fun ls hl => ?_)
  obtain ⟨n_13, h⟩ := h
  refine w_L_holds_4 C0 _ _ _ _ _ _ _ _ _ _ _ _ _ _ h _ _ _ hw (lv_sub hl [2, 3, 1, 0] rfl) ?_
  · intro x2_14 x3_15 v_16 v_17 v_18 v_19 v_20 v_21 v_22 v_23 v_24 v_25 v_26 h H locs ls hw hl
    refine lv_iconst (v := 0) hx hb dL_holds_84 (by decide) ?_
    refine lv_istore_n (lv' := [(3, .int 0), (0, .ref (aG 0)), (1, .int p1), (2, .int x2_14)]) hx hb dL_holds_85 rfl hl (by decide) rfl (fun ls hl => ?_)
    refine lv_iconst (v := 0) hx hb dL_holds_86 (by decide) ?_
    refine lv_istore (lv' := [(4, .int 0), (3, .int 0), (0, .ref (aG 0)), (1, .int p1), (2, .int x2_14)]) hx hb dL_holds_87 hl (by decide) rfl (fun ls hl => ?_)
    obtain ⟨n_52, h⟩ := h
    refine w_L_holds_89 C0 _ _ _ _ _ _ _ _ _ _ _ _ _ _ h _ _ _ hw (lv_sub hl [2, 3, 4, 1, 0] rfl) ?_
    · intro x3_53 x4_54 v_55 v_56 v_57 v_58 v_59 v_60 v_61 v_62 v_63 v_64 v_65 h H locs ls hw hl
      refine lv_iconst (v := 0) hx hb dL_holds_148 (by decide) ?_
      refine lv_istore (lv' := [(4, .int 0), (0, .ref (aG 0)), (1, .int p1), (2, .int x2_14), (3, .int x3_53)]) hx hb dL_holds_149 hl (by decide) rfl (fun ls hl => ?_)
      refine lv_iconst (v := 0) hx hb dL_holds_151 (by decide) ?_
      refine lv_istore (lv' := [(5, .int 0), (4, .int 0), (0, .ref (aG 0)), (1, .int p1), (2, .int x2_14), (3, .int x3_53)]) hx hb dL_holds_152 hl (by decide) rfl (fun ls hl => ?_)
      obtain ⟨n_105, h⟩ := h
      refine w_L_holds_154 C0 _ _ _ _ _ _ _ _ _ _ _ _ _ _ h _ _ _ hw (lv_sub hl [2, 3, 4, 5, 1, 0] rfl) ?_
      · intro x4_106 x5_107 v_108 v_109 v_110 v_111 v_112 v_113 v_114 v_115 v_116 v_117 v_118 h H locs ls hw hl
        refine lv_aload_n hx hb dL_holds_250 rfl (lv_at hl 0 rfl) ?_
        refine lv_iconst (v := 0) hx hb dL_holds_251 (by decide) ?_
        refine x_cV (As := [.int 0]) (rest := []) (F := (List.flatten [cM E a1 v_110, cM E a2 v_111, cM E a3 v_112, cM E h0 v_114, cM E h1 v_115, cM E h2 v_116, cM E h3 v_117])) C0 hw (p_fl (ds := [cG aG (a0 0) (a1 0) (a2 0) (a3 0) (aH 0) (aS 0) v_108, cM E a0 v_109, cH E aH (h0 0) (h1 0) (h2 0) (h3 0) v_113, cS E aS v_118]) ((p_pk _ 0 _ rfl).trans (List.Perm.cons _ ((p_pk _ 0 _ rfl).trans (List.Perm.cons _ ((p_pk _ 3 _ rfl).trans (List.Perm.cons _ ((p_pk _ 7 _ rfl).trans (List.Perm.cons _ (List.Perm.refl _)))))))))) hl.1 0 6 rfl rfl (c_X6_count l E aG a0 a1 a2 a3 aH h0 h1 h2 h3 aS h) 1 gL_holds_X6_count rfl ⟨rfl, rfl⟩ (by decide +kernel) ⟨Nat.le_of_ble_eq_true rfl, Nat.le_of_ble_eq_true rfl⟩ rfl rfl (Nat.le_of_ble_eq_true rfl) dL_holds_252 ⟨Nat.zero_le _, Nat.zero_le _⟩ (fun r_119 u_173 H locs h hw => ?_)
        obtain ⟨v_120, v_121, v_122, v_123⟩ := u_173
        replace hw : mw E A s.heap H locs (List.flatten [cG aG (a0 0) (a1 0) (a2 0) (a3 0) (aH 0) (aS 0) v_120, cM E a0 v_121, cM E a1 v_110, cM E a2 v_111, cM E a3 v_112, cH E aH (h0 0) (h1 0) (h2 0) (h3 0) v_122, cM E h0 v_114, cM E h1 v_115, cM E h2 v_116, cM E h3 v_117, cS E aS v_123]) := hw.perm (p_bk (ds := [cG aG (a0 0) (a1 0) (a2 0) (a3 0) (aH 0) (aS 0) v_120, cM E a0 v_121, cH E aH (h0 0) (h1 0) (h2 0) (h3 0) v_122, cS E aS v_123]) ((p_pk _ 0 _ rfl).trans (List.Perm.cons _ ((p_pk _ 0 _ rfl).trans (List.Perm.cons _ ((p_pk _ 3 _ rfl).trans (List.Perm.cons _ ((p_pk _ 7 _ rfl).trans (List.Perm.cons _ (List.Perm.refl _))))))))))
        refine lv_if_eq (tgt := 274) hx hb dL_holds_255 (by decide) (fun c_172 => ?_) (fun c_172 => ?_)
        · replace h := h.1 c_172
          refine lv_iconst (v := 1) hx hb dL_holds_274 (by decide) ?_
          refine lv_goto (tgt := 279) hx hb dL_holds_275 (by decide) ?_
          exact j_L_holds_279 C0 _ _ _ _ _ _ _ _ _ _ _ _ _ _ _ h _ _ _ hw (lv_sub hl [0, 2, 3, 4] rfl)
        · replace h := h.2 c_172
          refine lv_aload_n hx hb dL_holds_258 rfl (lv_at hl 0 rfl) ?_
          refine lv_iload_n hx hb dL_holds_259 rfl (lv_at hl 1 rfl) ?_
          refine lv_aload_n hx hb dL_holds_260 rfl (lv_at hl 0 rfl) ?_
          refine lv_iconst (v := 0) hx hb dL_holds_261 (by decide) ?_
          refine x_cV (As := [.int 0]) (rest := [.int p1, .ref (aG 0)]) (F := (List.flatten [cM E a1 v_110, cM E a2 v_111, cM E a3 v_112, cM E h0 v_114, cM E h1 v_115, cM E h2 v_116, cM E h3 v_117])) C0 hw (p_fl (ds := [cG aG (a0 0) (a1 0) (a2 0) (a3 0) (aH 0) (aS 0) v_120, cM E a0 v_121, cH E aH (h0 0) (h1 0) (h2 0) (h3 0) v_122, cS E aS v_123]) ((p_pk _ 0 _ rfl).trans (List.Perm.cons _ ((p_pk _ 0 _ rfl).trans (List.Perm.cons _ ((p_pk _ 3 _ rfl).trans (List.Perm.cons _ ((p_pk _ 7 _ rfl).trans (List.Perm.cons _ (List.Perm.refl _)))))))))) hl.1 0 6 rfl rfl (c_X6_count l E aG a0 a1 a2 a3 aH h0 h1 h2 h3 aS h) 1 gL_holds_X6_count rfl ⟨rfl, rfl⟩ (by decide +kernel) ⟨Nat.le_of_ble_eq_true rfl, Nat.le_of_ble_eq_true rfl⟩ rfl rfl (Nat.le_of_ble_eq_true rfl) dL_holds_262 ⟨Nat.zero_le _, Nat.zero_le _⟩ (fun r_159 u_171 H locs h hw => ?_)
          obtain ⟨v_160, v_161, v_162, v_163⟩ := u_171
          replace hw : mw E A s.heap H locs (List.flatten [cG aG (a0 0) (a1 0) (a2 0) (a3 0) (aH 0) (aS 0) v_160, cM E a0 v_161, cM E a1 v_110, cM E a2 v_111, cM E a3 v_112, cH E aH (h0 0) (h1 0) (h2 0) (h3 0) v_162, cM E h0 v_114, cM E h1 v_115, cM E h2 v_116, cM E h3 v_117, cS E aS v_163]) := hw.perm (p_bk (ds := [cG aG (a0 0) (a1 0) (a2 0) (a3 0) (aH 0) (aS 0) v_160, cM E a0 v_161, cH E aH (h0 0) (h1 0) (h2 0) (h3 0) v_162, cS E aS v_163]) ((p_pk _ 0 _ rfl).trans (List.Perm.cons _ ((p_pk _ 0 _ rfl).trans (List.Perm.cons _ ((p_pk _ 3 _ rfl).trans (List.Perm.cons _ ((p_pk _ 7 _ rfl).trans (List.Perm.cons _ (List.Perm.refl _))))))))))
          refine x_cS (As := [.int p1, .int r_159]) (rest := [.ref (aG 0)]) (F := (List.flatten [cG aG (a0 0) (a1 0) (a2 0) (a3 0) (aH 0) (aS 0) v_160, cM E a0 v_161, cM E a1 v_110, cM E a2 v_111, cM E a3 v_112, cH E aH (h0 0) (h1 0) (h2 0) (h3 0) v_162, cM E h0 v_114, cM E h1 v_115, cM E h2 v_116, cM E h3 v_117, cS E aS v_163])) C0 hw (p_non _) hl.1 (c_L_low l E  h) 2 gL_holds_L_low rfl ⟨rfl, rfl⟩ (by decide +kernel) ⟨Nat.le_of_ble_eq_true rfl, Nat.le_of_ble_eq_true rfl⟩ rfl rfl (Nat.le_of_ble_eq_true rfl) dL_holds_265 ⟨Nat.zero_le _, Nat.zero_le _⟩ (fun r_164 _u H locs h (hw : mw E A s.heap H locs (List.flatten [cG aG (a0 0) (a1 0) (a2 0) (a3 0) (aH 0) (aS 0) v_160, cM E a0 v_161, cM E a1 v_110, cM E a2 v_111, cM E a3 v_112, cH E aH (h0 0) (h1 0) (h2 0) (h3 0) v_162, cM E h0 v_114, cM E h1 v_115, cM E h2 v_116, cM E h3 v_117, cS E aS v_163])) => ?_)
          refine x_cV (As := [.int r_164]) (rest := []) (F := (List.flatten [cM E a1 v_110, cM E a2 v_111, cM E a3 v_112, cH E aH (h0 0) (h1 0) (h2 0) (h3 0) v_162, cM E h0 v_114, cM E h1 v_115, cM E h2 v_116, cM E h3 v_117, cS E aS v_163])) C0 hw (p_fl (ds := [cG aG (a0 0) (a1 0) (a2 0) (a3 0) (aH 0) (aS 0) v_160, cM E a0 v_161]) (List.Perm.refl _)) hl.1 0 6 rfl rfl (c_X6_grades l E aG a0 a1 a2 a3 aH h0 h1 h2 h3 aS h) 1 gL_holds_X6_grades rfl ⟨rfl, rfl⟩ (by decide +kernel) ⟨Nat.le_of_ble_eq_true rfl, Nat.le_of_ble_eq_true rfl⟩ rfl rfl (Nat.le_of_ble_eq_true rfl) dL_holds_268 ⟨Nat.zero_le _, Nat.zero_le _⟩ (fun r_165 u_169 H locs h hw => ?_)
          obtain ⟨v_166, v_167⟩ := u_169
          replace hw : mw E A s.heap H locs (List.flatten [cG aG (a0 0) (a1 0) (a2 0) (a3 0) (aH 0) (aS 0) v_166, cM E a0 v_167, cM E a1 v_110, cM E a2 v_111, cM E a3 v_112, cH E aH (h0 0) (h1 0) (h2 0) (h3 0) v_162, cM E h0 v_114, cM E h1 v_115, cM E h2 v_116, cM E h3 v_117, cS E aS v_163]) := hw.perm (p_bk (ds := [cG aG (a0 0) (a1 0) (a2 0) (a3 0) (aH 0) (aS 0) v_166, cM E a0 v_167]) (List.Perm.refl _))
          refine lv_if_lt (tgt := 278) hx hb dL_holds_271 (by decide) (fun c_168 => ?_) (fun c_168 => ?_)
          · replace h := h.1 c_168
            refine lv_iconst (v := 0) hx hb dL_holds_278 (by decide) ?_
            exact j_L_holds_279 C0 _ _ _ _ _ _ _ _ _ _ _ _ _ _ _ h _ _ _ hw (lv_sub hl [0, 2, 3, 4] rfl)
          · replace h := h.2 c_168
            refine lv_iconst (v := 1) hx hb dL_holds_274 (by decide) ?_
            refine lv_goto (tgt := 279) hx hb dL_holds_275 (by decide) ?_
            exact j_L_holds_279 C0 _ _ _ _ _ _ _ _ _ _ _ _ _ _ _ h _ _ _ hw (lv_sub hl [0, 2, 3, 4] rfl)
