set_option maxRecDepth 100000 in
set_option maxHeartbeats 4000000 in
theorem w_L_law_18 {p : Program} {l : Launch} {e : Env} {s : State} {m : MethodId} {below : List Frame} {meth : Method} {c : Code} {E : EE} {A : Nat → Prop} {aG : Nat → Nat} {a0 : Nat → Nat} {a1 : Nat → Nat} {a2 : Nat → Nat} {a3 : Nat → Nat} {aH : Nat → Nat} {h0 : Nat → Nat} {h1 : Nat → Nat} {h2 : Nat → Nat} {h3 : Nat → Nat} {aS : Nat → Nat} {aR : Nat → Nat} {b L : Nat} {xs : Nat → Int32} (C0 : Cx E p s m #[Value.ref b] meth c A cL_law 4 RL wsL_law (some .boolean)) (hX : va_X b L xs s s.heap) (hbl : b < s.heap.size) (hbA : ¬ A b) (hAl : ∀ q, A q → s.heap.size ≤ q)   {k0 : Int32 → V → V → V → V → V → V → V → V → V → V → V → V → Prop} : ∀ (n : Nat) (x3 : Int32) (v0 : V) (v1 : V) (v2 : V) (v3 : V) (v4 : V) (v5 : V) (v6 : V) (v7 : V) (v8 : V) (v9 : V) (v10 : V) (v11 : V), sl_L_law_18 xs L k0 n x3 v0 v1 v2 v3 v4 v5 v6 v7 v8 v9 v10 v11 → ∀ (H : Heap) (locs : List Loc) (ls : Array Slot), mw E A s.heap H locs (List.flatten [cG aG (a0 0) (a1 0) (a2 0) (a3 0) (aH 0) (aS 0) v0, cM E a0 v1, cM E a1 v2, cM E a2 v3, cM E a3 v4, cH E aH (h0 0) (h1 0) (h2 0) (h3 0) v5, cM E h0 v6, cM E h1 v7, cM E h2 v8, cM E h3 v9, cS E aS v10, cR E aR v11]) → lv_has ls 4 [(0, .ref b), (1, .ref (aG 0)), (2, .ref (aR 0)), (3, .int x3)] → (∀ (x3 : Int32) (v0 : V) (v1 : V) (v2 : V) (v3 : V) (v4 : V) (v5 : V) (v6 : V) (v7 : V) (v8 : V) (v9 : V) (v10 : V) (v11 : V) (H : Heap) (locs : List Loc) (ls : Array Slot), k0 x3 v0 v1 v2 v3 v4 v5 v6 v7 v8 v9 v10 v11 → mw E A s.heap H locs (List.flatten [cG aG (a0 0) (a1 0) (a2 0) (a3 0) (aH 0) (aS 0) v0, cM E a0 v1, cM E a1 v2, cM E a2 v3, cM E a3 v4, cH E aH (h0 0) (h1 0) (h2 0) (h3 0) v5, cM E h0 v6, cM E h1 v7, cM E h2 v8, cM E h3 v9, cS E aS v10, cR E aR v11]) → lv_has ls 4 [(0, .ref b), (1, .ref (aG 0)), (2, .ref (aR 0)), (3, .int x3)] → W p l e room_1 s m #[Value.ref b] below meth c H locs 600000 7302250 (lw_Z below #[Value.ref b] s) (F0 m 926 ls [])) → W p l e room_1 s m #[Value.ref b] below meth c H locs 600000 7302250 (lw_Z below #[Value.ref b] s) (F0 m 18 ls []) := by
  have hx := C0.1
  have hb := C0.2.1
  intro n
  induction n with
  | zero => intro x3 v0 v1 v2 v3 v4 v5 v6 v7 v8 v9 v10 v11 h; exact False.elim h
  | succ n ih =>
    intro x3 v0 v1 v2 v3 v4 v5 v6 v7 v8 v9 v10 v11 h H locs ls hw hl hk0
    replace h : sb_L_law_18 xs L k0 (sl_L_law_18 xs L k0 n) x3 v0 v1 v2 v3 v4 v5 v6 v7 v8 v9 v10 v11 := h
    unfold sb_L_law_18 at h
    refine lv_iload_n hx hb dL_law_18 rfl (lv_at hl 3 rfl) ?_
    refine lv_aload_n hx hb dL_law_19 rfl (lv_at hl 0 rfl) ?_
    refine va_slen hx hb hX hbl hbA hw.2.2 dL_law_20 ?_
    refine lv_iconst (v := 5) hx hb dL_law_21 (by decide) ?_
    refine lv_isub hx hb dL_law_22 ?_
    refine lv_icmp_gt (tgt := 926) hx hb dL_law_23 (by decide) (fun c_298 => ?_) (fun c_298 => ?_)
    · replace h := h.1 c_298
      exact hk0 _ _ _ _ _ _ _ _ _ _ _ _ _ _ _ _ h hw (lv_sub hl [0, 1, 2, 3] rfl)
    · replace h := h.2 c_298
      refine lv_aload_n hx hb dL_law_26 rfl (lv_at hl 0 rfl) ?_
      refine lv_iload_n hx hb dL_law_27 rfl (lv_at hl 3 rfl) ?_
      obtain ⟨hin, h⟩ := h
      refine va_sld hx hb hX hbl hbA hw.2.2 hin dL_law_28 ?_
      refine lv_bipush (v := 31) hx hb dL_law_29 (by decide) ?_
      refine lv_iand hx hb dL_law_31 ?_
      by_cases c_14 : ((xs (tn x3)) &&& 31) = 0
      · replace h := h.1 c_14
        refine x_tabIn (tgt := 152) C0 0 c_14 dL_law_32 (by decide) (by decide) rfl (by decide) ?_
        refine lv_aload_n hx hb dL_law_152 rfl (lv_at hl 1 rfl) ?_
        refine x_cV (As := []) (rest := []) (F := (List.flatten [cM E a2 v3, cM E a3 v4, cS E aS v10, cR E aR v11])) C0 hw (p_fl (ds := [cG aG (a0 0) (a1 0) (a2 0) (a3 0) (aH 0) (aS 0) v0, cM E a0 v1, cM E a1 v2, cH E aH (h0 0) (h1 0) (h2 0) (h3 0) v5, cM E h0 v6, cM E h1 v7, cM E h2 v8, cM E h3 v9]) ((p_pk _ 0 _ rfl).trans (List.Perm.cons _ ((p_pk _ 0 _ rfl).trans (List.Perm.cons _ ((p_pk _ 0 _ rfl).trans (List.Perm.cons _ ((p_pk _ 2 _ rfl).trans (List.Perm.cons _ ((p_pk _ 2 _ rfl).trans (List.Perm.cons _ ((p_pk _ 2 _ rfl).trans (List.Perm.cons _ ((p_pk _ 2 _ rfl).trans (List.Perm.cons _ ((p_pk _ 2 _ rfl).trans (List.Perm.cons _ (List.Perm.refl _)))))))))))))))))) hl.1 0 6 rfl rfl (c_X6_dealer l E aG a0 a1 a2 a3 aH h0 h1 h2 h3 aS h) 0 gL_law_X6_dealer rfl ⟨rfl, rfl⟩ (by decide +kernel) ⟨Nat.le_of_ble_eq_true rfl, Nat.le_of_ble_eq_true rfl⟩ rfl rfl (Nat.le_of_ble_eq_true rfl) dL_law_153 ⟨Nat.le_of_ble_eq_true rfl, Nat.le_of_ble_eq_true rfl⟩ (fun r_1 u_13 H locs h hw => ?_)
        obtain ⟨v_2, v_3, v_4, v_5, v_6, v_7, v_8, v_9⟩ := u_13
        replace hw : mw E A s.heap H locs (List.flatten [cG aG (a0 0) (a1 0) (a2 0) (a3 0) (aH 0) (aS 0) v_2, cM E a0 v_3, cM E a1 v_4, cM E a2 v3, cM E a3 v4, cH E aH (h0 0) (h1 0) (h2 0) (h3 0) v_5, cM E h0 v_6, cM E h1 v_7, cM E h2 v_8, cM E h3 v_9, cS E aS v10, cR E aR v11]) := hw.perm (p_bk (ds := [cG aG (a0 0) (a1 0) (a2 0) (a3 0) (aH 0) (aS 0) v_2, cM E a0 v_3, cM E a1 v_4, cH E aH (h0 0) (h1 0) (h2 0) (h3 0) v_5, cM E h0 v_6, cM E h1 v_7, cM E h2 v_8, cM E h3 v_9]) ((p_pk _ 0 _ rfl).trans (List.Perm.cons _ ((p_pk _ 0 _ rfl).trans (List.Perm.cons _ ((p_pk _ 0 _ rfl).trans (List.Perm.cons _ ((p_pk _ 2 _ rfl).trans (List.Perm.cons _ ((p_pk _ 2 _ rfl).trans (List.Perm.cons _ ((p_pk _ 2 _ rfl).trans (List.Perm.cons _ ((p_pk _ 2 _ rfl).trans (List.Perm.cons _ ((p_pk _ 2 _ rfl).trans (List.Perm.cons _ (List.Perm.refl _))))))))))))))))))
        refine lv_aload_n hx hb dL_law_156 rfl (lv_at hl 2 rfl) ?_
        refine x_cV (As := []) (rest := [.int r_1]) (F := (List.flatten [cG aG (a0 0) (a1 0) (a2 0) (a3 0) (aH 0) (aS 0) v_2, cM E a0 v_3, cM E a1 v_4, cM E a2 v3, cM E a3 v4, cH E aH (h0 0) (h1 0) (h2 0) (h3 0) v_5, cM E h0 v_6, cM E h1 v_7, cM E h2 v_8, cM E h3 v_9, cS E aS v10])) C0 hw (p_fl1 ((p_pk _ 11 _ rfl).trans (List.Perm.cons _ (List.Perm.refl _)))) hl.1 190 7 rfl rfl (c_X7_dealer l E aR h) 0 gL_law_X7_dealer rfl ⟨rfl, rfl⟩ (by decide +kernel) ⟨Nat.le_of_ble_eq_true rfl, Nat.le_of_ble_eq_true rfl⟩ rfl rfl (Nat.le_of_ble_eq_true rfl) dL_law_157 ⟨Nat.le_of_ble_eq_true rfl, Nat.le_of_ble_eq_true rfl⟩ (fun r_10 v_11 H locs h hw => ?_)
        replace hw : mw E A s.heap H locs (List.flatten [cG aG (a0 0) (a1 0) (a2 0) (a3 0) (aH 0) (aS 0) v_2, cM E a0 v_3, cM E a1 v_4, cM E a2 v3, cM E a3 v4, cH E aH (h0 0) (h1 0) (h2 0) (h3 0) v_5, cM E h0 v_6, cM E h1 v_7, cM E h2 v_8, cM E h3 v_9, cS E aS v10, cR E aR v_11]) := hw.perm (p_bk1 ((p_pk _ 11 _ rfl).trans (List.Perm.cons _ (List.Perm.refl _))))
        refine lv_icmp_eq (tgt := 920) hx hb dL_law_160 (by decide) (fun c_12 => ?_) (fun c_12 => ?_)
        · replace h := h.1 c_12
          refine lv_iinc (v := (x3 + 5)) (lv' := [(3, .int (x3 + 5)), (0, .ref b), (1, .ref (aG 0)), (2, .ref (aR 0))]) hx hb dL_law_920 hl (k := 3) rfl rfl (by decide) rfl (fun ls hl => ?_)
          refine lv_goto (tgt := 18) hx hb dL_law_923 (by decide) ?_
          exact ih _ _ _ _ _ _ _ _ _ _ _ _ _ h _ _ _ hw (lv_sub hl [1, 2, 3, 0] rfl) hk0
        · replace h := h.2 c_12
          refine lv_iconst (v := 0) hx hb dL_law_163 (by decide) ?_
          exact False.elim h
      replace h := h.2
      by_cases c_28 : ((xs (tn x3)) &&& 31) = 1
      · replace h := h.1 c_28
        refine x_tabIn (tgt := 165) C0 1 c_28 dL_law_32 (by decide) (by decide) rfl (by decide) ?_
        refine lv_aload_n hx hb dL_law_165 rfl (lv_at hl 1 rfl) ?_
        refine lv_aload_n hx hb dL_law_166 rfl (lv_at hl 0 rfl) ?_
        refine lv_iload_n hx hb dL_law_167 rfl (lv_at hl 3 rfl) ?_
        refine lv_iconst (v := 1) hx hb dL_law_168 (by decide) ?_
        refine lv_iadd hx hb dL_law_169 ?_
        obtain ⟨hin, h⟩ := h
        refine va_sld hx hb hX hbl hbA hw.2.2 hin dL_law_170 ?_
        refine lv_aload_n hx hb dL_law_171 rfl (lv_at hl 0 rfl) ?_
        refine lv_iload_n hx hb dL_law_172 rfl (lv_at hl 3 rfl) ?_
        refine lv_iconst (v := 2) hx hb dL_law_173 (by decide) ?_
        refine lv_iadd hx hb dL_law_174 ?_
        obtain ⟨hin, h⟩ := h
        refine va_sld hx hb hX hbl hbA hw.2.2 hin dL_law_175 ?_
        refine lv_aload_n hx hb dL_law_176 rfl (lv_at hl 0 rfl) ?_
        refine lv_iload_n hx hb dL_law_177 rfl (lv_at hl 3 rfl) ?_
        refine lv_iconst (v := 3) hx hb dL_law_178 (by decide) ?_
        refine lv_iadd hx hb dL_law_179 ?_
        obtain ⟨hin, h⟩ := h
        refine va_sld hx hb hX hbl hbA hw.2.2 hin dL_law_180 ?_
        refine lv_aload_n hx hb dL_law_181 rfl (lv_at hl 0 rfl) ?_
        refine lv_iload_n hx hb dL_law_182 rfl (lv_at hl 3 rfl) ?_
        refine lv_iconst (v := 4) hx hb dL_law_183 (by decide) ?_
        refine lv_iadd hx hb dL_law_184 ?_
        obtain ⟨hin, h⟩ := h
        refine va_sld hx hb hX hbl hbA hw.2.2 hin dL_law_185 ?_
        refine x_cV (As := [.int (xs (tn (x3 + 1))), .int (xs (tn (x3 + 2))), .int (xs (tn (x3 + 3))), .int (xs (tn (x3 + 4)))]) (rest := []) (F := (List.flatten [cM E a2 v3, cM E a3 v4, cS E aS v10, cR E aR v11])) C0 hw (p_fl (ds := [cG aG (a0 0) (a1 0) (a2 0) (a3 0) (aH 0) (aS 0) v0, cM E a0 v1, cM E a1 v2, cH E aH (h0 0) (h1 0) (h2 0) (h3 0) v5, cM E h0 v6, cM E h1 v7, cM E h2 v8, cM E h3 v9]) ((p_pk _ 0 _ rfl).trans (List.Perm.cons _ ((p_pk _ 0 _ rfl).trans (List.Perm.cons _ ((p_pk _ 0 _ rfl).trans (List.Perm.cons _ ((p_pk _ 2 _ rfl).trans (List.Perm.cons _ ((p_pk _ 2 _ rfl).trans (List.Perm.cons _ ((p_pk _ 2 _ rfl).trans (List.Perm.cons _ ((p_pk _ 2 _ rfl).trans (List.Perm.cons _ ((p_pk _ 2 _ rfl).trans (List.Perm.cons _ (List.Perm.refl _)))))))))))))))))) hl.1 0 6 rfl rfl (c_X6_stone l E aG a0 a1 a2 a3 aH h0 h1 h2 h3 aS h) 4 gL_law_X6_stone rfl ⟨rfl, rfl⟩ (by decide +kernel) ⟨Nat.le_of_ble_eq_true rfl, Nat.le_of_ble_eq_true rfl⟩ rfl rfl (Nat.le_of_ble_eq_true rfl) dL_law_186 ⟨Nat.le_of_ble_eq_true rfl, Nat.le_of_ble_eq_true rfl⟩ (fun r_15 u_27 H locs h hw => ?_)
        obtain ⟨v_16, v_17, v_18, v_19, v_20, v_21, v_22, v_23⟩ := u_27
        replace hw : mw E A s.heap H locs (List.flatten [cG aG (a0 0) (a1 0) (a2 0) (a3 0) (aH 0) (aS 0) v_16, cM E a0 v_17, cM E a1 v_18, cM E a2 v3, cM E a3 v4, cH E aH (h0 0) (h1 0) (h2 0) (h3 0) v_19, cM E h0 v_20, cM E h1 v_21, cM E h2 v_22, cM E h3 v_23, cS E aS v10, cR E aR v11]) := hw.perm (p_bk (ds := [cG aG (a0 0) (a1 0) (a2 0) (a3 0) (aH 0) (aS 0) v_16, cM E a0 v_17, cM E a1 v_18, cH E aH (h0 0) (h1 0) (h2 0) (h3 0) v_19, cM E h0 v_20, cM E h1 v_21, cM E h2 v_22, cM E h3 v_23]) ((p_pk _ 0 _ rfl).trans (List.Perm.cons _ ((p_pk _ 0 _ rfl).trans (List.Perm.cons _ ((p_pk _ 0 _ rfl).trans (List.Perm.cons _ ((p_pk _ 2 _ rfl).trans (List.Perm.cons _ ((p_pk _ 2 _ rfl).trans (List.Perm.cons _ ((p_pk _ 2 _ rfl).trans (List.Perm.cons _ ((p_pk _ 2 _ rfl).trans (List.Perm.cons _ ((p_pk _ 2 _ rfl).trans (List.Perm.cons _ (List.Perm.refl _))))))))))))))))))
        refine lv_aload_n hx hb dL_law_189 rfl (lv_at hl 2 rfl) ?_
        refine lv_aload_n hx hb dL_law_190 rfl (lv_at hl 0 rfl) ?_
        refine lv_iload_n hx hb dL_law_191 rfl (lv_at hl 3 rfl) ?_
        refine lv_iconst (v := 1) hx hb dL_law_192 (by decide) ?_
        refine lv_iadd hx hb dL_law_193 ?_
        obtain ⟨hin, h⟩ := h
        refine va_sld hx hb hX hbl hbA hw.2.2 hin dL_law_194 ?_
        refine lv_aload_n hx hb dL_law_195 rfl (lv_at hl 0 rfl) ?_
        refine lv_iload_n hx hb dL_law_196 rfl (lv_at hl 3 rfl) ?_
        refine lv_iconst (v := 2) hx hb dL_law_197 (by decide) ?_
        refine lv_iadd hx hb dL_law_198 ?_
        obtain ⟨hin, h⟩ := h
        refine va_sld hx hb hX hbl hbA hw.2.2 hin dL_law_199 ?_
        refine lv_aload_n hx hb dL_law_200 rfl (lv_at hl 0 rfl) ?_
        refine lv_iload_n hx hb dL_law_201 rfl (lv_at hl 3 rfl) ?_
        refine lv_iconst (v := 3) hx hb dL_law_202 (by decide) ?_
        refine lv_iadd hx hb dL_law_203 ?_
        obtain ⟨hin, h⟩ := h
        refine va_sld hx hb hX hbl hbA hw.2.2 hin dL_law_204 ?_
        refine lv_aload_n hx hb dL_law_205 rfl (lv_at hl 0 rfl) ?_
        refine lv_iload_n hx hb dL_law_206 rfl (lv_at hl 3 rfl) ?_
        refine lv_iconst (v := 4) hx hb dL_law_207 (by decide) ?_
        refine lv_iadd hx hb dL_law_208 ?_
        obtain ⟨hin, h⟩ := h
        refine va_sld hx hb hX hbl hbA hw.2.2 hin dL_law_209 ?_
        refine x_cV (As := [.int (xs (tn (x3 + 1))), .int (xs (tn (x3 + 2))), .int (xs (tn (x3 + 3))), .int (xs (tn (x3 + 4)))]) (rest := [.int r_15]) (F := (List.flatten [cG aG (a0 0) (a1 0) (a2 0) (a3 0) (aH 0) (aS 0) v_16, cM E a0 v_17, cM E a1 v_18, cM E a2 v3, cM E a3 v4, cH E aH (h0 0) (h1 0) (h2 0) (h3 0) v_19, cM E h0 v_20, cM E h1 v_21, cM E h2 v_22, cM E h3 v_23, cS E aS v10])) C0 hw (p_fl1 ((p_pk _ 11 _ rfl).trans (List.Perm.cons _ (List.Perm.refl _)))) hl.1 190 7 rfl rfl (c_X7_stone l E aR h) 4 gL_law_X7_stone rfl ⟨rfl, rfl⟩ (by decide +kernel) ⟨Nat.le_of_ble_eq_true rfl, Nat.le_of_ble_eq_true rfl⟩ rfl rfl (Nat.le_of_ble_eq_true rfl) dL_law_210 ⟨Nat.le_of_ble_eq_true rfl, Nat.le_of_ble_eq_true rfl⟩ (fun r_24 v_25 H locs h hw => ?_)
        replace hw : mw E A s.heap H locs (List.flatten [cG aG (a0 0) (a1 0) (a2 0) (a3 0) (aH 0) (aS 0) v_16, cM E a0 v_17, cM E a1 v_18, cM E a2 v3, cM E a3 v4, cH E aH (h0 0) (h1 0) (h2 0) (h3 0) v_19, cM E h0 v_20, cM E h1 v_21, cM E h2 v_22, cM E h3 v_23, cS E aS v10, cR E aR v_25]) := hw.perm (p_bk1 ((p_pk _ 11 _ rfl).trans (List.Perm.cons _ (List.Perm.refl _))))
        refine lv_icmp_eq (tgt := 920) hx hb dL_law_213 (by decide) (fun c_26 => ?_) (fun c_26 => ?_)
        · replace h := h.1 c_26
          refine lv_iinc (v := (x3 + 5)) (lv' := [(3, .int (x3 + 5)), (0, .ref b), (1, .ref (aG 0)), (2, .ref (aR 0))]) hx hb dL_law_920 hl (k := 3) rfl rfl (by decide) rfl (fun ls hl => ?_)
          refine lv_goto (tgt := 18) hx hb dL_law_923 (by decide) ?_
          exact ih _ _ _ _ _ _ _ _ _ _ _ _ _ h _ _ _ hw (lv_sub hl [1, 2, 3, 0] rfl) hk0
        · replace h := h.2 c_26
          refine lv_iconst (v := 0) hx hb dL_law_216 (by decide) ?_
          exact False.elim h
      replace h := h.2
      by_cases c_42 : ((xs (tn x3)) &&& 31) = 2
      · replace h := h.1 c_42
        refine x_tabIn (tgt := 218) C0 2 c_42 dL_law_32 (by decide) (by decide) rfl (by decide) ?_
        refine lv_aload_n hx hb dL_law_218 rfl (lv_at hl 1 rfl) ?_
        refine lv_aload_n hx hb dL_law_219 rfl (lv_at hl 0 rfl) ?_
        refine lv_iload_n hx hb dL_law_220 rfl (lv_at hl 3 rfl) ?_
        refine lv_iconst (v := 1) hx hb dL_law_221 (by decide) ?_
        refine lv_iadd hx hb dL_law_222 ?_
        obtain ⟨hin, h⟩ := h
        refine va_sld hx hb hX hbl hbA hw.2.2 hin dL_law_223 ?_
        refine lv_aload_n hx hb dL_law_224 rfl (lv_at hl 0 rfl) ?_
        refine lv_iload_n hx hb dL_law_225 rfl (lv_at hl 3 rfl) ?_
        refine lv_iconst (v := 2) hx hb dL_law_226 (by decide) ?_
        refine lv_iadd hx hb dL_law_227 ?_
        obtain ⟨hin, h⟩ := h
        refine va_sld hx hb hX hbl hbA hw.2.2 hin dL_law_228 ?_
        refine lv_aload_n hx hb dL_law_229 rfl (lv_at hl 0 rfl) ?_
        refine lv_iload_n hx hb dL_law_230 rfl (lv_at hl 3 rfl) ?_
        refine lv_iconst (v := 3) hx hb dL_law_231 (by decide) ?_
        refine lv_iadd hx hb dL_law_232 ?_
        obtain ⟨hin, h⟩ := h
        refine va_sld hx hb hX hbl hbA hw.2.2 hin dL_law_233 ?_
        refine lv_aload_n hx hb dL_law_234 rfl (lv_at hl 0 rfl) ?_
        refine lv_iload_n hx hb dL_law_235 rfl (lv_at hl 3 rfl) ?_
        refine lv_iconst (v := 4) hx hb dL_law_236 (by decide) ?_
        refine lv_iadd hx hb dL_law_237 ?_
        obtain ⟨hin, h⟩ := h
        refine va_sld hx hb hX hbl hbA hw.2.2 hin dL_law_238 ?_
        refine x_cV (As := [.int (xs (tn (x3 + 1))), .int (xs (tn (x3 + 2))), .int (xs (tn (x3 + 3))), .int (xs (tn (x3 + 4)))]) (rest := []) (F := (List.flatten [cM E a2 v3, cM E a3 v4, cS E aS v10, cR E aR v11])) C0 hw (p_fl (ds := [cG aG (a0 0) (a1 0) (a2 0) (a3 0) (aH 0) (aS 0) v0, cM E a0 v1, cM E a1 v2, cH E aH (h0 0) (h1 0) (h2 0) (h3 0) v5, cM E h0 v6, cM E h1 v7, cM E h2 v8, cM E h3 v9]) ((p_pk _ 0 _ rfl).trans (List.Perm.cons _ ((p_pk _ 0 _ rfl).trans (List.Perm.cons _ ((p_pk _ 0 _ rfl).trans (List.Perm.cons _ ((p_pk _ 2 _ rfl).trans (List.Perm.cons _ ((p_pk _ 2 _ rfl).trans (List.Perm.cons _ ((p_pk _ 2 _ rfl).trans (List.Perm.cons _ ((p_pk _ 2 _ rfl).trans (List.Perm.cons _ ((p_pk _ 2 _ rfl).trans (List.Perm.cons _ (List.Perm.refl _)))))))))))))))))) hl.1 0 6 rfl rfl (c_X6_rate l E aG a0 a1 a2 a3 aH h0 h1 h2 h3 aS h) 4 gL_law_X6_rate rfl ⟨rfl, rfl⟩ (by decide +kernel) ⟨Nat.le_of_ble_eq_true rfl, Nat.le_of_ble_eq_true rfl⟩ rfl rfl (Nat.le_of_ble_eq_true rfl) dL_law_239 ⟨Nat.le_of_ble_eq_true rfl, Nat.le_of_ble_eq_true rfl⟩ (fun r_29 u_41 H locs h hw => ?_)
        obtain ⟨v_30, v_31, v_32, v_33, v_34, v_35, v_36, v_37⟩ := u_41
        replace hw : mw E A s.heap H locs (List.flatten [cG aG (a0 0) (a1 0) (a2 0) (a3 0) (aH 0) (aS 0) v_30, cM E a0 v_31, cM E a1 v_32, cM E a2 v3, cM E a3 v4, cH E aH (h0 0) (h1 0) (h2 0) (h3 0) v_33, cM E h0 v_34, cM E h1 v_35, cM E h2 v_36, cM E h3 v_37, cS E aS v10, cR E aR v11]) := hw.perm (p_bk (ds := [cG aG (a0 0) (a1 0) (a2 0) (a3 0) (aH 0) (aS 0) v_30, cM E a0 v_31, cM E a1 v_32, cH E aH (h0 0) (h1 0) (h2 0) (h3 0) v_33, cM E h0 v_34, cM E h1 v_35, cM E h2 v_36, cM E h3 v_37]) ((p_pk _ 0 _ rfl).trans (List.Perm.cons _ ((p_pk _ 0 _ rfl).trans (List.Perm.cons _ ((p_pk _ 0 _ rfl).trans (List.Perm.cons _ ((p_pk _ 2 _ rfl).trans (List.Perm.cons _ ((p_pk _ 2 _ rfl).trans (List.Perm.cons _ ((p_pk _ 2 _ rfl).trans (List.Perm.cons _ ((p_pk _ 2 _ rfl).trans (List.Perm.cons _ ((p_pk _ 2 _ rfl).trans (List.Perm.cons _ (List.Perm.refl _))))))))))))))))))
        refine lv_aload_n hx hb dL_law_242 rfl (lv_at hl 2 rfl) ?_
        refine lv_aload_n hx hb dL_law_243 rfl (lv_at hl 0 rfl) ?_
        refine lv_iload_n hx hb dL_law_244 rfl (lv_at hl 3 rfl) ?_
        refine lv_iconst (v := 1) hx hb dL_law_245 (by decide) ?_
        refine lv_iadd hx hb dL_law_246 ?_
        obtain ⟨hin, h⟩ := h
        refine va_sld hx hb hX hbl hbA hw.2.2 hin dL_law_247 ?_
        refine lv_aload_n hx hb dL_law_248 rfl (lv_at hl 0 rfl) ?_
        refine lv_iload_n hx hb dL_law_249 rfl (lv_at hl 3 rfl) ?_
        refine lv_iconst (v := 2) hx hb dL_law_250 (by decide) ?_
        refine lv_iadd hx hb dL_law_251 ?_
        obtain ⟨hin, h⟩ := h
        refine va_sld hx hb hX hbl hbA hw.2.2 hin dL_law_252 ?_
        refine lv_aload_n hx hb dL_law_253 rfl (lv_at hl 0 rfl) ?_
        refine lv_iload_n hx hb dL_law_254 rfl (lv_at hl 3 rfl) ?_
        refine lv_iconst (v := 3) hx hb dL_law_255 (by decide) ?_
        refine lv_iadd hx hb dL_law_256 ?_
        obtain ⟨hin, h⟩ := h
        refine va_sld hx hb hX hbl hbA hw.2.2 hin dL_law_257 ?_
        refine lv_aload_n hx hb dL_law_258 rfl (lv_at hl 0 rfl) ?_
        refine lv_iload_n hx hb dL_law_259 rfl (lv_at hl 3 rfl) ?_
        refine lv_iconst (v := 4) hx hb dL_law_260 (by decide) ?_
        refine lv_iadd hx hb dL_law_261 ?_
        obtain ⟨hin, h⟩ := h
        refine va_sld hx hb hX hbl hbA hw.2.2 hin dL_law_262 ?_
        refine x_cV (As := [.int (xs (tn (x3 + 1))), .int (xs (tn (x3 + 2))), .int (xs (tn (x3 + 3))), .int (xs (tn (x3 + 4)))]) (rest := [.int r_29]) (F := (List.flatten [cG aG (a0 0) (a1 0) (a2 0) (a3 0) (aH 0) (aS 0) v_30, cM E a0 v_31, cM E a1 v_32, cM E a2 v3, cM E a3 v4, cH E aH (h0 0) (h1 0) (h2 0) (h3 0) v_33, cM E h0 v_34, cM E h1 v_35, cM E h2 v_36, cM E h3 v_37, cS E aS v10])) C0 hw (p_fl1 ((p_pk _ 11 _ rfl).trans (List.Perm.cons _ (List.Perm.refl _)))) hl.1 190 7 rfl rfl (c_X7_rate l E aR h) 4 gL_law_X7_rate rfl ⟨rfl, rfl⟩ (by decide +kernel) ⟨Nat.le_of_ble_eq_true rfl, Nat.le_of_ble_eq_true rfl⟩ rfl rfl (Nat.le_of_ble_eq_true rfl) dL_law_263 ⟨Nat.le_of_ble_eq_true rfl, Nat.le_of_ble_eq_true rfl⟩ (fun r_38 v_39 H locs h hw => ?_)
        replace hw : mw E A s.heap H locs (List.flatten [cG aG (a0 0) (a1 0) (a2 0) (a3 0) (aH 0) (aS 0) v_30, cM E a0 v_31, cM E a1 v_32, cM E a2 v3, cM E a3 v4, cH E aH (h0 0) (h1 0) (h2 0) (h3 0) v_33, cM E h0 v_34, cM E h1 v_35, cM E h2 v_36, cM E h3 v_37, cS E aS v10, cR E aR v_39]) := hw.perm (p_bk1 ((p_pk _ 11 _ rfl).trans (List.Perm.cons _ (List.Perm.refl _))))
        refine lv_icmp_eq (tgt := 920) hx hb dL_law_266 (by decide) (fun c_40 => ?_) (fun c_40 => ?_)
        · replace h := h.1 c_40
          refine lv_iinc (v := (x3 + 5)) (lv' := [(3, .int (x3 + 5)), (0, .ref b), (1, .ref (aG 0)), (2, .ref (aR 0))]) hx hb dL_law_920 hl (k := 3) rfl rfl (by decide) rfl (fun ls hl => ?_)
          refine lv_goto (tgt := 18) hx hb dL_law_923 (by decide) ?_
          exact ih _ _ _ _ _ _ _ _ _ _ _ _ _ h _ _ _ hw (lv_sub hl [1, 2, 3, 0] rfl) hk0
        · replace h := h.2 c_40
          refine lv_iconst (v := 0) hx hb dL_law_269 (by decide) ?_
          exact False.elim h
      replace h := h.2
      by_cases c_56 : ((xs (tn x3)) &&& 31) = 3
      · replace h := h.1 c_56
        refine x_tabIn (tgt := 271) C0 3 c_56 dL_law_32 (by decide) (by decide) rfl (by decide) ?_
        refine lv_aload_n hx hb dL_law_271 rfl (lv_at hl 1 rfl) ?_
        refine lv_aload_n hx hb dL_law_272 rfl (lv_at hl 0 rfl) ?_
        refine lv_iload_n hx hb dL_law_273 rfl (lv_at hl 3 rfl) ?_
        refine lv_iconst (v := 1) hx hb dL_law_274 (by decide) ?_
        refine lv_iadd hx hb dL_law_275 ?_
        obtain ⟨hin, h⟩ := h
        refine va_sld hx hb hX hbl hbA hw.2.2 hin dL_law_276 ?_
        refine lv_aload_n hx hb dL_law_277 rfl (lv_at hl 0 rfl) ?_
        refine lv_iload_n hx hb dL_law_278 rfl (lv_at hl 3 rfl) ?_
        refine lv_iconst (v := 2) hx hb dL_law_279 (by decide) ?_
        refine lv_iadd hx hb dL_law_280 ?_
        obtain ⟨hin, h⟩ := h
        refine va_sld hx hb hX hbl hbA hw.2.2 hin dL_law_281 ?_
        refine lv_aload_n hx hb dL_law_282 rfl (lv_at hl 0 rfl) ?_
        refine lv_iload_n hx hb dL_law_283 rfl (lv_at hl 3 rfl) ?_
        refine lv_iconst (v := 3) hx hb dL_law_284 (by decide) ?_
        refine lv_iadd hx hb dL_law_285 ?_
        obtain ⟨hin, h⟩ := h
        refine va_sld hx hb hX hbl hbA hw.2.2 hin dL_law_286 ?_
        refine x_cV (As := [.int (xs (tn (x3 + 1))), .int (xs (tn (x3 + 2))), .int (xs (tn (x3 + 3)))]) (rest := []) (F := (List.flatten [cM E a2 v3, cM E a3 v4, cS E aS v10, cR E aR v11])) C0 hw (p_fl (ds := [cG aG (a0 0) (a1 0) (a2 0) (a3 0) (aH 0) (aS 0) v0, cM E a0 v1, cM E a1 v2, cH E aH (h0 0) (h1 0) (h2 0) (h3 0) v5, cM E h0 v6, cM E h1 v7, cM E h2 v8, cM E h3 v9]) ((p_pk _ 0 _ rfl).trans (List.Perm.cons _ ((p_pk _ 0 _ rfl).trans (List.Perm.cons _ ((p_pk _ 0 _ rfl).trans (List.Perm.cons _ ((p_pk _ 2 _ rfl).trans (List.Perm.cons _ ((p_pk _ 2 _ rfl).trans (List.Perm.cons _ ((p_pk _ 2 _ rfl).trans (List.Perm.cons _ ((p_pk _ 2 _ rfl).trans (List.Perm.cons _ ((p_pk _ 2 _ rfl).trans (List.Perm.cons _ (List.Perm.refl _)))))))))))))))))) hl.1 0 6 rfl rfl (c_X6_unrate l E aG a0 a1 a2 a3 aH h0 h1 h2 h3 aS h) 3 gL_law_X6_unrate rfl ⟨rfl, rfl⟩ (by decide +kernel) ⟨Nat.le_of_ble_eq_true rfl, Nat.le_of_ble_eq_true rfl⟩ rfl rfl (Nat.le_of_ble_eq_true rfl) dL_law_287 ⟨Nat.le_of_ble_eq_true rfl, Nat.le_of_ble_eq_true rfl⟩ (fun r_43 u_55 H locs h hw => ?_)
        obtain ⟨v_44, v_45, v_46, v_47, v_48, v_49, v_50, v_51⟩ := u_55
        replace hw : mw E A s.heap H locs (List.flatten [cG aG (a0 0) (a1 0) (a2 0) (a3 0) (aH 0) (aS 0) v_44, cM E a0 v_45, cM E a1 v_46, cM E a2 v3, cM E a3 v4, cH E aH (h0 0) (h1 0) (h2 0) (h3 0) v_47, cM E h0 v_48, cM E h1 v_49, cM E h2 v_50, cM E h3 v_51, cS E aS v10, cR E aR v11]) := hw.perm (p_bk (ds := [cG aG (a0 0) (a1 0) (a2 0) (a3 0) (aH 0) (aS 0) v_44, cM E a0 v_45, cM E a1 v_46, cH E aH (h0 0) (h1 0) (h2 0) (h3 0) v_47, cM E h0 v_48, cM E h1 v_49, cM E h2 v_50, cM E h3 v_51]) ((p_pk _ 0 _ rfl).trans (List.Perm.cons _ ((p_pk _ 0 _ rfl).trans (List.Perm.cons _ ((p_pk _ 0 _ rfl).trans (List.Perm.cons _ ((p_pk _ 2 _ rfl).trans (List.Perm.cons _ ((p_pk _ 2 _ rfl).trans (List.Perm.cons _ ((p_pk _ 2 _ rfl).trans (List.Perm.cons _ ((p_pk _ 2 _ rfl).trans (List.Perm.cons _ ((p_pk _ 2 _ rfl).trans (List.Perm.cons _ (List.Perm.refl _))))))))))))))))))
        refine lv_aload_n hx hb dL_law_290 rfl (lv_at hl 2 rfl) ?_
        refine lv_aload_n hx hb dL_law_291 rfl (lv_at hl 0 rfl) ?_
        refine lv_iload_n hx hb dL_law_292 rfl (lv_at hl 3 rfl) ?_
        refine lv_iconst (v := 1) hx hb dL_law_293 (by decide) ?_
        refine lv_iadd hx hb dL_law_294 ?_
        obtain ⟨hin, h⟩ := h
        refine va_sld hx hb hX hbl hbA hw.2.2 hin dL_law_295 ?_
        refine lv_aload_n hx hb dL_law_296 rfl (lv_at hl 0 rfl) ?_
        refine lv_iload_n hx hb dL_law_297 rfl (lv_at hl 3 rfl) ?_
        refine lv_iconst (v := 2) hx hb dL_law_298 (by decide) ?_
        refine lv_iadd hx hb dL_law_299 ?_
        obtain ⟨hin, h⟩ := h
        refine va_sld hx hb hX hbl hbA hw.2.2 hin dL_law_300 ?_
        refine lv_aload_n hx hb dL_law_301 rfl (lv_at hl 0 rfl) ?_
        refine lv_iload_n hx hb dL_law_302 rfl (lv_at hl 3 rfl) ?_
        refine lv_iconst (v := 3) hx hb dL_law_303 (by decide) ?_
        refine lv_iadd hx hb dL_law_304 ?_
        obtain ⟨hin, h⟩ := h
        refine va_sld hx hb hX hbl hbA hw.2.2 hin dL_law_305 ?_
        refine x_cV (As := [.int (xs (tn (x3 + 1))), .int (xs (tn (x3 + 2))), .int (xs (tn (x3 + 3)))]) (rest := [.int r_43]) (F := (List.flatten [cG aG (a0 0) (a1 0) (a2 0) (a3 0) (aH 0) (aS 0) v_44, cM E a0 v_45, cM E a1 v_46, cM E a2 v3, cM E a3 v4, cH E aH (h0 0) (h1 0) (h2 0) (h3 0) v_47, cM E h0 v_48, cM E h1 v_49, cM E h2 v_50, cM E h3 v_51, cS E aS v10])) C0 hw (p_fl1 ((p_pk _ 11 _ rfl).trans (List.Perm.cons _ (List.Perm.refl _)))) hl.1 190 7 rfl rfl (c_X7_unrate l E aR h) 3 gL_law_X7_unrate rfl ⟨rfl, rfl⟩ (by decide +kernel) ⟨Nat.le_of_ble_eq_true rfl, Nat.le_of_ble_eq_true rfl⟩ rfl rfl (Nat.le_of_ble_eq_true rfl) dL_law_306 ⟨Nat.le_of_ble_eq_true rfl, Nat.le_of_ble_eq_true rfl⟩ (fun r_52 v_53 H locs h hw => ?_)
        replace hw : mw E A s.heap H locs (List.flatten [cG aG (a0 0) (a1 0) (a2 0) (a3 0) (aH 0) (aS 0) v_44, cM E a0 v_45, cM E a1 v_46, cM E a2 v3, cM E a3 v4, cH E aH (h0 0) (h1 0) (h2 0) (h3 0) v_47, cM E h0 v_48, cM E h1 v_49, cM E h2 v_50, cM E h3 v_51, cS E aS v10, cR E aR v_53]) := hw.perm (p_bk1 ((p_pk _ 11 _ rfl).trans (List.Perm.cons _ (List.Perm.refl _))))
        refine lv_icmp_eq (tgt := 920) hx hb dL_law_309 (by decide) (fun c_54 => ?_) (fun c_54 => ?_)
        · replace h := h.1 c_54
          refine lv_iinc (v := (x3 + 5)) (lv' := [(3, .int (x3 + 5)), (0, .ref b), (1, .ref (aG 0)), (2, .ref (aR 0))]) hx hb dL_law_920 hl (k := 3) rfl rfl (by decide) rfl (fun ls hl => ?_)
          refine lv_goto (tgt := 18) hx hb dL_law_923 (by decide) ?_
          exact ih _ _ _ _ _ _ _ _ _ _ _ _ _ h _ _ _ hw (lv_sub hl [1, 2, 3, 0] rfl) hk0
        · replace h := h.2 c_54
          refine lv_iconst (v := 0) hx hb dL_law_312 (by decide) ?_
          exact False.elim h
      replace h := h.2
      by_cases c_70 : ((xs (tn x3)) &&& 31) = 4
      · replace h := h.1 c_70
        refine x_tabIn (tgt := 314) C0 4 c_70 dL_law_32 (by decide) (by decide) rfl (by decide) ?_
        refine lv_aload_n hx hb dL_law_314 rfl (lv_at hl 1 rfl) ?_
        refine lv_aload_n hx hb dL_law_315 rfl (lv_at hl 0 rfl) ?_
        refine lv_iload_n hx hb dL_law_316 rfl (lv_at hl 3 rfl) ?_
        refine lv_iconst (v := 1) hx hb dL_law_317 (by decide) ?_
        refine lv_iadd hx hb dL_law_318 ?_
        obtain ⟨hin, h⟩ := h
        refine va_sld hx hb hX hbl hbA hw.2.2 hin dL_law_319 ?_
        refine lv_aload_n hx hb dL_law_320 rfl (lv_at hl 0 rfl) ?_
        refine lv_iload_n hx hb dL_law_321 rfl (lv_at hl 3 rfl) ?_
        refine lv_iconst (v := 2) hx hb dL_law_322 (by decide) ?_
        refine lv_iadd hx hb dL_law_323 ?_
        obtain ⟨hin, h⟩ := h
        refine va_sld hx hb hX hbl hbA hw.2.2 hin dL_law_324 ?_
        refine lv_aload_n hx hb dL_law_325 rfl (lv_at hl 0 rfl) ?_
        refine lv_iload_n hx hb dL_law_326 rfl (lv_at hl 3 rfl) ?_
        refine lv_iconst (v := 3) hx hb dL_law_327 (by decide) ?_
        refine lv_iadd hx hb dL_law_328 ?_
        obtain ⟨hin, h⟩ := h
        refine va_sld hx hb hX hbl hbA hw.2.2 hin dL_law_329 ?_
        refine lv_aload_n hx hb dL_law_330 rfl (lv_at hl 0 rfl) ?_
        refine lv_iload_n hx hb dL_law_331 rfl (lv_at hl 3 rfl) ?_
        refine lv_iconst (v := 4) hx hb dL_law_332 (by decide) ?_
        refine lv_iadd hx hb dL_law_333 ?_
        obtain ⟨hin, h⟩ := h
        refine va_sld hx hb hX hbl hbA hw.2.2 hin dL_law_334 ?_
        refine x_cV (As := [.int (xs (tn (x3 + 1))), .int (xs (tn (x3 + 2))), .int (xs (tn (x3 + 3))), .int (xs (tn (x3 + 4)))]) (rest := []) (F := (List.flatten [cM E a2 v3, cM E a3 v4, cS E aS v10, cR E aR v11])) C0 hw (p_fl (ds := [cG aG (a0 0) (a1 0) (a2 0) (a3 0) (aH 0) (aS 0) v0, cM E a0 v1, cM E a1 v2, cH E aH (h0 0) (h1 0) (h2 0) (h3 0) v5, cM E h0 v6, cM E h1 v7, cM E h2 v8, cM E h3 v9]) ((p_pk _ 0 _ rfl).trans (List.Perm.cons _ ((p_pk _ 0 _ rfl).trans (List.Perm.cons _ ((p_pk _ 0 _ rfl).trans (List.Perm.cons _ ((p_pk _ 2 _ rfl).trans (List.Perm.cons _ ((p_pk _ 2 _ rfl).trans (List.Perm.cons _ ((p_pk _ 2 _ rfl).trans (List.Perm.cons _ ((p_pk _ 2 _ rfl).trans (List.Perm.cons _ ((p_pk _ 2 _ rfl).trans (List.Perm.cons _ (List.Perm.refl _)))))))))))))))))) hl.1 0 6 rfl rfl (c_X6_lend l E aG a0 a1 a2 a3 aH h0 h1 h2 h3 aS h) 4 gL_law_X6_lend rfl ⟨rfl, rfl⟩ (by decide +kernel) ⟨Nat.le_of_ble_eq_true rfl, Nat.le_of_ble_eq_true rfl⟩ rfl rfl (Nat.le_of_ble_eq_true rfl) dL_law_335 ⟨Nat.le_of_ble_eq_true rfl, Nat.le_of_ble_eq_true rfl⟩ (fun r_57 u_69 H locs h hw => ?_)
        obtain ⟨v_58, v_59, v_60, v_61, v_62, v_63, v_64, v_65⟩ := u_69
        replace hw : mw E A s.heap H locs (List.flatten [cG aG (a0 0) (a1 0) (a2 0) (a3 0) (aH 0) (aS 0) v_58, cM E a0 v_59, cM E a1 v_60, cM E a2 v3, cM E a3 v4, cH E aH (h0 0) (h1 0) (h2 0) (h3 0) v_61, cM E h0 v_62, cM E h1 v_63, cM E h2 v_64, cM E h3 v_65, cS E aS v10, cR E aR v11]) := hw.perm (p_bk (ds := [cG aG (a0 0) (a1 0) (a2 0) (a3 0) (aH 0) (aS 0) v_58, cM E a0 v_59, cM E a1 v_60, cH E aH (h0 0) (h1 0) (h2 0) (h3 0) v_61, cM E h0 v_62, cM E h1 v_63, cM E h2 v_64, cM E h3 v_65]) ((p_pk _ 0 _ rfl).trans (List.Perm.cons _ ((p_pk _ 0 _ rfl).trans (List.Perm.cons _ ((p_pk _ 0 _ rfl).trans (List.Perm.cons _ ((p_pk _ 2 _ rfl).trans (List.Perm.cons _ ((p_pk _ 2 _ rfl).trans (List.Perm.cons _ ((p_pk _ 2 _ rfl).trans (List.Perm.cons _ ((p_pk _ 2 _ rfl).trans (List.Perm.cons _ ((p_pk _ 2 _ rfl).trans (List.Perm.cons _ (List.Perm.refl _))))))))))))))))))
        refine lv_aload_n hx hb dL_law_338 rfl (lv_at hl 2 rfl) ?_
        refine lv_aload_n hx hb dL_law_339 rfl (lv_at hl 0 rfl) ?_
        refine lv_iload_n hx hb dL_law_340 rfl (lv_at hl 3 rfl) ?_
        refine lv_iconst (v := 1) hx hb dL_law_341 (by decide) ?_
        refine lv_iadd hx hb dL_law_342 ?_
        obtain ⟨hin, h⟩ := h
        refine va_sld hx hb hX hbl hbA hw.2.2 hin dL_law_343 ?_
        refine lv_aload_n hx hb dL_law_344 rfl (lv_at hl 0 rfl) ?_
        refine lv_iload_n hx hb dL_law_345 rfl (lv_at hl 3 rfl) ?_
        refine lv_iconst (v := 2) hx hb dL_law_346 (by decide) ?_
        refine lv_iadd hx hb dL_law_347 ?_
        obtain ⟨hin, h⟩ := h
        refine va_sld hx hb hX hbl hbA hw.2.2 hin dL_law_348 ?_
        refine lv_aload_n hx hb dL_law_349 rfl (lv_at hl 0 rfl) ?_
        refine lv_iload_n hx hb dL_law_350 rfl (lv_at hl 3 rfl) ?_
        refine lv_iconst (v := 3) hx hb dL_law_351 (by decide) ?_
        refine lv_iadd hx hb dL_law_352 ?_
        obtain ⟨hin, h⟩ := h
        refine va_sld hx hb hX hbl hbA hw.2.2 hin dL_law_353 ?_
        refine lv_aload_n hx hb dL_law_354 rfl (lv_at hl 0 rfl) ?_
        refine lv_iload_n hx hb dL_law_355 rfl (lv_at hl 3 rfl) ?_
        refine lv_iconst (v := 4) hx hb dL_law_356 (by decide) ?_
        refine lv_iadd hx hb dL_law_357 ?_
        obtain ⟨hin, h⟩ := h
        refine va_sld hx hb hX hbl hbA hw.2.2 hin dL_law_358 ?_
        refine x_cV (As := [.int (xs (tn (x3 + 1))), .int (xs (tn (x3 + 2))), .int (xs (tn (x3 + 3))), .int (xs (tn (x3 + 4)))]) (rest := [.int r_57]) (F := (List.flatten [cG aG (a0 0) (a1 0) (a2 0) (a3 0) (aH 0) (aS 0) v_58, cM E a0 v_59, cM E a1 v_60, cM E a2 v3, cM E a3 v4, cH E aH (h0 0) (h1 0) (h2 0) (h3 0) v_61, cM E h0 v_62, cM E h1 v_63, cM E h2 v_64, cM E h3 v_65, cS E aS v10])) C0 hw (p_fl1 ((p_pk _ 11 _ rfl).trans (List.Perm.cons _ (List.Perm.refl _)))) hl.1 190 7 rfl rfl (c_X7_lend l E aR h) 4 gL_law_X7_lend rfl ⟨rfl, rfl⟩ (by decide +kernel) ⟨Nat.le_of_ble_eq_true rfl, Nat.le_of_ble_eq_true rfl⟩ rfl rfl (Nat.le_of_ble_eq_true rfl) dL_law_359 ⟨Nat.le_of_ble_eq_true rfl, Nat.le_of_ble_eq_true rfl⟩ (fun r_66 v_67 H locs h hw => ?_)
        replace hw : mw E A s.heap H locs (List.flatten [cG aG (a0 0) (a1 0) (a2 0) (a3 0) (aH 0) (aS 0) v_58, cM E a0 v_59, cM E a1 v_60, cM E a2 v3, cM E a3 v4, cH E aH (h0 0) (h1 0) (h2 0) (h3 0) v_61, cM E h0 v_62, cM E h1 v_63, cM E h2 v_64, cM E h3 v_65, cS E aS v10, cR E aR v_67]) := hw.perm (p_bk1 ((p_pk _ 11 _ rfl).trans (List.Perm.cons _ (List.Perm.refl _))))
        refine lv_icmp_eq (tgt := 920) hx hb dL_law_362 (by decide) (fun c_68 => ?_) (fun c_68 => ?_)
        · replace h := h.1 c_68
          refine lv_iinc (v := (x3 + 5)) (lv' := [(3, .int (x3 + 5)), (0, .ref b), (1, .ref (aG 0)), (2, .ref (aR 0))]) hx hb dL_law_920 hl (k := 3) rfl rfl (by decide) rfl (fun ls hl => ?_)
          refine lv_goto (tgt := 18) hx hb dL_law_923 (by decide) ?_
          exact ih _ _ _ _ _ _ _ _ _ _ _ _ _ h _ _ _ hw (lv_sub hl [1, 2, 3, 0] rfl) hk0
        · replace h := h.2 c_68
          refine lv_iconst (v := 0) hx hb dL_law_365 (by decide) ?_
          exact False.elim h
      replace h := h.2
      by_cases c_84 : ((xs (tn x3)) &&& 31) = 5
      · replace h := h.1 c_84
        refine x_tabIn (tgt := 367) C0 5 c_84 dL_law_32 (by decide) (by decide) rfl (by decide) ?_
        refine lv_aload_n hx hb dL_law_367 rfl (lv_at hl 1 rfl) ?_
        refine lv_aload_n hx hb dL_law_368 rfl (lv_at hl 0 rfl) ?_
        refine lv_iload_n hx hb dL_law_369 rfl (lv_at hl 3 rfl) ?_
        refine lv_iconst (v := 1) hx hb dL_law_370 (by decide) ?_
        refine lv_iadd hx hb dL_law_371 ?_
        obtain ⟨hin, h⟩ := h
        refine va_sld hx hb hX hbl hbA hw.2.2 hin dL_law_372 ?_
        refine x_cV (As := [.int (xs (tn (x3 + 1)))]) (rest := []) (F := (List.flatten [cM E a2 v3, cM E a3 v4, cS E aS v10, cR E aR v11])) C0 hw (p_fl (ds := [cG aG (a0 0) (a1 0) (a2 0) (a3 0) (aH 0) (aS 0) v0, cM E a0 v1, cM E a1 v2, cH E aH (h0 0) (h1 0) (h2 0) (h3 0) v5, cM E h0 v6, cM E h1 v7, cM E h2 v8, cM E h3 v9]) ((p_pk _ 0 _ rfl).trans (List.Perm.cons _ ((p_pk _ 0 _ rfl).trans (List.Perm.cons _ ((p_pk _ 0 _ rfl).trans (List.Perm.cons _ ((p_pk _ 2 _ rfl).trans (List.Perm.cons _ ((p_pk _ 2 _ rfl).trans (List.Perm.cons _ ((p_pk _ 2 _ rfl).trans (List.Perm.cons _ ((p_pk _ 2 _ rfl).trans (List.Perm.cons _ ((p_pk _ 2 _ rfl).trans (List.Perm.cons _ (List.Perm.refl _)))))))))))))))))) hl.1 0 6 rfl rfl (c_X6_back l E aG a0 a1 a2 a3 aH h0 h1 h2 h3 aS h) 1 gL_law_X6_back rfl ⟨rfl, rfl⟩ (by decide +kernel) ⟨Nat.le_of_ble_eq_true rfl, Nat.le_of_ble_eq_true rfl⟩ rfl rfl (Nat.le_of_ble_eq_true rfl) dL_law_373 ⟨Nat.le_of_ble_eq_true rfl, Nat.le_of_ble_eq_true rfl⟩ (fun r_71 u_83 H locs h hw => ?_)
        obtain ⟨v_72, v_73, v_74, v_75, v_76, v_77, v_78, v_79⟩ := u_83
        replace hw : mw E A s.heap H locs (List.flatten [cG aG (a0 0) (a1 0) (a2 0) (a3 0) (aH 0) (aS 0) v_72, cM E a0 v_73, cM E a1 v_74, cM E a2 v3, cM E a3 v4, cH E aH (h0 0) (h1 0) (h2 0) (h3 0) v_75, cM E h0 v_76, cM E h1 v_77, cM E h2 v_78, cM E h3 v_79, cS E aS v10, cR E aR v11]) := hw.perm (p_bk (ds := [cG aG (a0 0) (a1 0) (a2 0) (a3 0) (aH 0) (aS 0) v_72, cM E a0 v_73, cM E a1 v_74, cH E aH (h0 0) (h1 0) (h2 0) (h3 0) v_75, cM E h0 v_76, cM E h1 v_77, cM E h2 v_78, cM E h3 v_79]) ((p_pk _ 0 _ rfl).trans (List.Perm.cons _ ((p_pk _ 0 _ rfl).trans (List.Perm.cons _ ((p_pk _ 0 _ rfl).trans (List.Perm.cons _ ((p_pk _ 2 _ rfl).trans (List.Perm.cons _ ((p_pk _ 2 _ rfl).trans (List.Perm.cons _ ((p_pk _ 2 _ rfl).trans (List.Perm.cons _ ((p_pk _ 2 _ rfl).trans (List.Perm.cons _ ((p_pk _ 2 _ rfl).trans (List.Perm.cons _ (List.Perm.refl _))))))))))))))))))
        refine lv_aload_n hx hb dL_law_376 rfl (lv_at hl 2 rfl) ?_
        refine lv_aload_n hx hb dL_law_377 rfl (lv_at hl 0 rfl) ?_
        refine lv_iload_n hx hb dL_law_378 rfl (lv_at hl 3 rfl) ?_
        refine lv_iconst (v := 1) hx hb dL_law_379 (by decide) ?_
        refine lv_iadd hx hb dL_law_380 ?_
        obtain ⟨hin, h⟩ := h
        refine va_sld hx hb hX hbl hbA hw.2.2 hin dL_law_381 ?_
        refine x_cV (As := [.int (xs (tn (x3 + 1)))]) (rest := [.int r_71]) (F := (List.flatten [cG aG (a0 0) (a1 0) (a2 0) (a3 0) (aH 0) (aS 0) v_72, cM E a0 v_73, cM E a1 v_74, cM E a2 v3, cM E a3 v4, cH E aH (h0 0) (h1 0) (h2 0) (h3 0) v_75, cM E h0 v_76, cM E h1 v_77, cM E h2 v_78, cM E h3 v_79, cS E aS v10])) C0 hw (p_fl1 ((p_pk _ 11 _ rfl).trans (List.Perm.cons _ (List.Perm.refl _)))) hl.1 190 7 rfl rfl (c_X7_back l E aR h) 1 gL_law_X7_back rfl ⟨rfl, rfl⟩ (by decide +kernel) ⟨Nat.le_of_ble_eq_true rfl, Nat.le_of_ble_eq_true rfl⟩ rfl rfl (Nat.le_of_ble_eq_true rfl) dL_law_382 ⟨Nat.le_of_ble_eq_true rfl, Nat.le_of_ble_eq_true rfl⟩ (fun r_80 v_81 H locs h hw => ?_)
        replace hw : mw E A s.heap H locs (List.flatten [cG aG (a0 0) (a1 0) (a2 0) (a3 0) (aH 0) (aS 0) v_72, cM E a0 v_73, cM E a1 v_74, cM E a2 v3, cM E a3 v4, cH E aH (h0 0) (h1 0) (h2 0) (h3 0) v_75, cM E h0 v_76, cM E h1 v_77, cM E h2 v_78, cM E h3 v_79, cS E aS v10, cR E aR v_81]) := hw.perm (p_bk1 ((p_pk _ 11 _ rfl).trans (List.Perm.cons _ (List.Perm.refl _))))
        refine lv_icmp_eq (tgt := 920) hx hb dL_law_385 (by decide) (fun c_82 => ?_) (fun c_82 => ?_)
        · replace h := h.1 c_82
          refine lv_iinc (v := (x3 + 5)) (lv' := [(3, .int (x3 + 5)), (0, .ref b), (1, .ref (aG 0)), (2, .ref (aR 0))]) hx hb dL_law_920 hl (k := 3) rfl rfl (by decide) rfl (fun ls hl => ?_)
          refine lv_goto (tgt := 18) hx hb dL_law_923 (by decide) ?_
          exact ih _ _ _ _ _ _ _ _ _ _ _ _ _ h _ _ _ hw (lv_sub hl [1, 2, 3, 0] rfl) hk0
        · replace h := h.2 c_82
          refine lv_iconst (v := 0) hx hb dL_law_388 (by decide) ?_
          exact False.elim h
      replace h := h.2
      by_cases c_98 : ((xs (tn x3)) &&& 31) = 6
      · replace h := h.1 c_98
        refine x_tabIn (tgt := 390) C0 6 c_98 dL_law_32 (by decide) (by decide) rfl (by decide) ?_
        refine lv_aload_n hx hb dL_law_390 rfl (lv_at hl 1 rfl) ?_
        refine lv_aload_n hx hb dL_law_391 rfl (lv_at hl 0 rfl) ?_
        refine lv_iload_n hx hb dL_law_392 rfl (lv_at hl 3 rfl) ?_
        refine lv_iconst (v := 1) hx hb dL_law_393 (by decide) ?_
        refine lv_iadd hx hb dL_law_394 ?_
        obtain ⟨hin, h⟩ := h
        refine va_sld hx hb hX hbl hbA hw.2.2 hin dL_law_395 ?_
        refine x_cV (As := [.int (xs (tn (x3 + 1)))]) (rest := []) (F := (List.flatten [cM E a2 v3, cM E a3 v4, cS E aS v10, cR E aR v11])) C0 hw (p_fl (ds := [cG aG (a0 0) (a1 0) (a2 0) (a3 0) (aH 0) (aS 0) v0, cM E a0 v1, cM E a1 v2, cH E aH (h0 0) (h1 0) (h2 0) (h3 0) v5, cM E h0 v6, cM E h1 v7, cM E h2 v8, cM E h3 v9]) ((p_pk _ 0 _ rfl).trans (List.Perm.cons _ ((p_pk _ 0 _ rfl).trans (List.Perm.cons _ ((p_pk _ 0 _ rfl).trans (List.Perm.cons _ ((p_pk _ 2 _ rfl).trans (List.Perm.cons _ ((p_pk _ 2 _ rfl).trans (List.Perm.cons _ ((p_pk _ 2 _ rfl).trans (List.Perm.cons _ ((p_pk _ 2 _ rfl).trans (List.Perm.cons _ ((p_pk _ 2 _ rfl).trans (List.Perm.cons _ (List.Perm.refl _)))))))))))))))))) hl.1 0 6 rfl rfl (c_X6_keep l E aG a0 a1 a2 a3 aH h0 h1 h2 h3 aS h) 1 gL_law_X6_keep rfl ⟨rfl, rfl⟩ (by decide +kernel) ⟨Nat.le_of_ble_eq_true rfl, Nat.le_of_ble_eq_true rfl⟩ rfl rfl (Nat.le_of_ble_eq_true rfl) dL_law_396 ⟨Nat.le_of_ble_eq_true rfl, Nat.le_of_ble_eq_true rfl⟩ (fun r_85 u_97 H locs h hw => ?_)
        obtain ⟨v_86, v_87, v_88, v_89, v_90, v_91, v_92, v_93⟩ := u_97
        replace hw : mw E A s.heap H locs (List.flatten [cG aG (a0 0) (a1 0) (a2 0) (a3 0) (aH 0) (aS 0) v_86, cM E a0 v_87, cM E a1 v_88, cM E a2 v3, cM E a3 v4, cH E aH (h0 0) (h1 0) (h2 0) (h3 0) v_89, cM E h0 v_90, cM E h1 v_91, cM E h2 v_92, cM E h3 v_93, cS E aS v10, cR E aR v11]) := hw.perm (p_bk (ds := [cG aG (a0 0) (a1 0) (a2 0) (a3 0) (aH 0) (aS 0) v_86, cM E a0 v_87, cM E a1 v_88, cH E aH (h0 0) (h1 0) (h2 0) (h3 0) v_89, cM E h0 v_90, cM E h1 v_91, cM E h2 v_92, cM E h3 v_93]) ((p_pk _ 0 _ rfl).trans (List.Perm.cons _ ((p_pk _ 0 _ rfl).trans (List.Perm.cons _ ((p_pk _ 0 _ rfl).trans (List.Perm.cons _ ((p_pk _ 2 _ rfl).trans (List.Perm.cons _ ((p_pk _ 2 _ rfl).trans (List.Perm.cons _ ((p_pk _ 2 _ rfl).trans (List.Perm.cons _ ((p_pk _ 2 _ rfl).trans (List.Perm.cons _ ((p_pk _ 2 _ rfl).trans (List.Perm.cons _ (List.Perm.refl _))))))))))))))))))
        refine lv_aload_n hx hb dL_law_399 rfl (lv_at hl 2 rfl) ?_
        refine lv_aload_n hx hb dL_law_400 rfl (lv_at hl 0 rfl) ?_
        refine lv_iload_n hx hb dL_law_401 rfl (lv_at hl 3 rfl) ?_
        refine lv_iconst (v := 1) hx hb dL_law_402 (by decide) ?_
        refine lv_iadd hx hb dL_law_403 ?_
        obtain ⟨hin, h⟩ := h
        refine va_sld hx hb hX hbl hbA hw.2.2 hin dL_law_404 ?_
        refine x_cV (As := [.int (xs (tn (x3 + 1)))]) (rest := [.int r_85]) (F := (List.flatten [cG aG (a0 0) (a1 0) (a2 0) (a3 0) (aH 0) (aS 0) v_86, cM E a0 v_87, cM E a1 v_88, cM E a2 v3, cM E a3 v4, cH E aH (h0 0) (h1 0) (h2 0) (h3 0) v_89, cM E h0 v_90, cM E h1 v_91, cM E h2 v_92, cM E h3 v_93, cS E aS v10])) C0 hw (p_fl1 ((p_pk _ 11 _ rfl).trans (List.Perm.cons _ (List.Perm.refl _)))) hl.1 190 7 rfl rfl (c_X7_keep l E aR h) 1 gL_law_X7_keep rfl ⟨rfl, rfl⟩ (by decide +kernel) ⟨Nat.le_of_ble_eq_true rfl, Nat.le_of_ble_eq_true rfl⟩ rfl rfl (Nat.le_of_ble_eq_true rfl) dL_law_405 ⟨Nat.le_of_ble_eq_true rfl, Nat.le_of_ble_eq_true rfl⟩ (fun r_94 v_95 H locs h hw => ?_)
        replace hw : mw E A s.heap H locs (List.flatten [cG aG (a0 0) (a1 0) (a2 0) (a3 0) (aH 0) (aS 0) v_86, cM E a0 v_87, cM E a1 v_88, cM E a2 v3, cM E a3 v4, cH E aH (h0 0) (h1 0) (h2 0) (h3 0) v_89, cM E h0 v_90, cM E h1 v_91, cM E h2 v_92, cM E h3 v_93, cS E aS v10, cR E aR v_95]) := hw.perm (p_bk1 ((p_pk _ 11 _ rfl).trans (List.Perm.cons _ (List.Perm.refl _))))
        refine lv_icmp_eq (tgt := 920) hx hb dL_law_408 (by decide) (fun c_96 => ?_) (fun c_96 => ?_)
        · replace h := h.1 c_96
          refine lv_iinc (v := (x3 + 5)) (lv' := [(3, .int (x3 + 5)), (0, .ref b), (1, .ref (aG 0)), (2, .ref (aR 0))]) hx hb dL_law_920 hl (k := 3) rfl rfl (by decide) rfl (fun ls hl => ?_)
          refine lv_goto (tgt := 18) hx hb dL_law_923 (by decide) ?_
          exact ih _ _ _ _ _ _ _ _ _ _ _ _ _ h _ _ _ hw (lv_sub hl [1, 2, 3, 0] rfl) hk0
        · replace h := h.2 c_96
          refine lv_iconst (v := 0) hx hb dL_law_411 (by decide) ?_
          exact False.elim h
      replace h := h.2
      by_cases c_112 : ((xs (tn x3)) &&& 31) = 7
      · replace h := h.1 c_112
        refine x_tabIn (tgt := 413) C0 7 c_112 dL_law_32 (by decide) (by decide) rfl (by decide) ?_
        refine lv_aload_n hx hb dL_law_413 rfl (lv_at hl 1 rfl) ?_
        refine lv_aload_n hx hb dL_law_414 rfl (lv_at hl 0 rfl) ?_
        refine lv_iload_n hx hb dL_law_415 rfl (lv_at hl 3 rfl) ?_
        refine lv_iconst (v := 1) hx hb dL_law_416 (by decide) ?_
        refine lv_iadd hx hb dL_law_417 ?_
        obtain ⟨hin, h⟩ := h
        refine va_sld hx hb hX hbl hbA hw.2.2 hin dL_law_418 ?_
        refine lv_aload_n hx hb dL_law_419 rfl (lv_at hl 0 rfl) ?_
        refine lv_iload_n hx hb dL_law_420 rfl (lv_at hl 3 rfl) ?_
        refine lv_iconst (v := 2) hx hb dL_law_421 (by decide) ?_
        refine lv_iadd hx hb dL_law_422 ?_
        obtain ⟨hin, h⟩ := h
        refine va_sld hx hb hX hbl hbA hw.2.2 hin dL_law_423 ?_
        refine x_cV (As := [.int (xs (tn (x3 + 1))), .int (xs (tn (x3 + 2)))]) (rest := []) (F := (List.flatten [cM E a2 v3, cM E a3 v4, cS E aS v10, cR E aR v11])) C0 hw (p_fl (ds := [cG aG (a0 0) (a1 0) (a2 0) (a3 0) (aH 0) (aS 0) v0, cM E a0 v1, cM E a1 v2, cH E aH (h0 0) (h1 0) (h2 0) (h3 0) v5, cM E h0 v6, cM E h1 v7, cM E h2 v8, cM E h3 v9]) ((p_pk _ 0 _ rfl).trans (List.Perm.cons _ ((p_pk _ 0 _ rfl).trans (List.Perm.cons _ ((p_pk _ 0 _ rfl).trans (List.Perm.cons _ ((p_pk _ 2 _ rfl).trans (List.Perm.cons _ ((p_pk _ 2 _ rfl).trans (List.Perm.cons _ ((p_pk _ 2 _ rfl).trans (List.Perm.cons _ ((p_pk _ 2 _ rfl).trans (List.Perm.cons _ ((p_pk _ 2 _ rfl).trans (List.Perm.cons _ (List.Perm.refl _)))))))))))))))))) hl.1 0 6 rfl rfl (c_X6_sell l E aG a0 a1 a2 a3 aH h0 h1 h2 h3 aS h) 2 gL_law_X6_sell rfl ⟨rfl, rfl⟩ (by decide +kernel) ⟨Nat.le_of_ble_eq_true rfl, Nat.le_of_ble_eq_true rfl⟩ rfl rfl (Nat.le_of_ble_eq_true rfl) dL_law_424 ⟨Nat.le_of_ble_eq_true rfl, Nat.le_of_ble_eq_true rfl⟩ (fun r_99 u_111 H locs h hw => ?_)
        obtain ⟨v_100, v_101, v_102, v_103, v_104, v_105, v_106, v_107⟩ := u_111
        replace hw : mw E A s.heap H locs (List.flatten [cG aG (a0 0) (a1 0) (a2 0) (a3 0) (aH 0) (aS 0) v_100, cM E a0 v_101, cM E a1 v_102, cM E a2 v3, cM E a3 v4, cH E aH (h0 0) (h1 0) (h2 0) (h3 0) v_103, cM E h0 v_104, cM E h1 v_105, cM E h2 v_106, cM E h3 v_107, cS E aS v10, cR E aR v11]) := hw.perm (p_bk (ds := [cG aG (a0 0) (a1 0) (a2 0) (a3 0) (aH 0) (aS 0) v_100, cM E a0 v_101, cM E a1 v_102, cH E aH (h0 0) (h1 0) (h2 0) (h3 0) v_103, cM E h0 v_104, cM E h1 v_105, cM E h2 v_106, cM E h3 v_107]) ((p_pk _ 0 _ rfl).trans (List.Perm.cons _ ((p_pk _ 0 _ rfl).trans (List.Perm.cons _ ((p_pk _ 0 _ rfl).trans (List.Perm.cons _ ((p_pk _ 2 _ rfl).trans (List.Perm.cons _ ((p_pk _ 2 _ rfl).trans (List.Perm.cons _ ((p_pk _ 2 _ rfl).trans (List.Perm.cons _ ((p_pk _ 2 _ rfl).trans (List.Perm.cons _ ((p_pk _ 2 _ rfl).trans (List.Perm.cons _ (List.Perm.refl _))))))))))))))))))
        refine lv_aload_n hx hb dL_law_427 rfl (lv_at hl 2 rfl) ?_
        refine lv_aload_n hx hb dL_law_428 rfl (lv_at hl 0 rfl) ?_
        refine lv_iload_n hx hb dL_law_429 rfl (lv_at hl 3 rfl) ?_
        refine lv_iconst (v := 1) hx hb dL_law_430 (by decide) ?_
        refine lv_iadd hx hb dL_law_431 ?_
        obtain ⟨hin, h⟩ := h
        refine va_sld hx hb hX hbl hbA hw.2.2 hin dL_law_432 ?_
        refine lv_aload_n hx hb dL_law_433 rfl (lv_at hl 0 rfl) ?_
        refine lv_iload_n hx hb dL_law_434 rfl (lv_at hl 3 rfl) ?_
        refine lv_iconst (v := 2) hx hb dL_law_435 (by decide) ?_
        refine lv_iadd hx hb dL_law_436 ?_
        obtain ⟨hin, h⟩ := h
        refine va_sld hx hb hX hbl hbA hw.2.2 hin dL_law_437 ?_
        refine x_cV (As := [.int (xs (tn (x3 + 1))), .int (xs (tn (x3 + 2)))]) (rest := [.int r_99]) (F := (List.flatten [cG aG (a0 0) (a1 0) (a2 0) (a3 0) (aH 0) (aS 0) v_100, cM E a0 v_101, cM E a1 v_102, cM E a2 v3, cM E a3 v4, cH E aH (h0 0) (h1 0) (h2 0) (h3 0) v_103, cM E h0 v_104, cM E h1 v_105, cM E h2 v_106, cM E h3 v_107, cS E aS v10])) C0 hw (p_fl1 ((p_pk _ 11 _ rfl).trans (List.Perm.cons _ (List.Perm.refl _)))) hl.1 190 7 rfl rfl (c_X7_sell l E aR h) 2 gL_law_X7_sell rfl ⟨rfl, rfl⟩ (by decide +kernel) ⟨Nat.le_of_ble_eq_true rfl, Nat.le_of_ble_eq_true rfl⟩ rfl rfl (Nat.le_of_ble_eq_true rfl) dL_law_438 ⟨Nat.le_of_ble_eq_true rfl, Nat.le_of_ble_eq_true rfl⟩ (fun r_108 v_109 H locs h hw => ?_)
        replace hw : mw E A s.heap H locs (List.flatten [cG aG (a0 0) (a1 0) (a2 0) (a3 0) (aH 0) (aS 0) v_100, cM E a0 v_101, cM E a1 v_102, cM E a2 v3, cM E a3 v4, cH E aH (h0 0) (h1 0) (h2 0) (h3 0) v_103, cM E h0 v_104, cM E h1 v_105, cM E h2 v_106, cM E h3 v_107, cS E aS v10, cR E aR v_109]) := hw.perm (p_bk1 ((p_pk _ 11 _ rfl).trans (List.Perm.cons _ (List.Perm.refl _))))
        refine lv_icmp_eq (tgt := 920) hx hb dL_law_441 (by decide) (fun c_110 => ?_) (fun c_110 => ?_)
        · replace h := h.1 c_110
          refine lv_iinc (v := (x3 + 5)) (lv' := [(3, .int (x3 + 5)), (0, .ref b), (1, .ref (aG 0)), (2, .ref (aR 0))]) hx hb dL_law_920 hl (k := 3) rfl rfl (by decide) rfl (fun ls hl => ?_)
          refine lv_goto (tgt := 18) hx hb dL_law_923 (by decide) ?_
          exact ih _ _ _ _ _ _ _ _ _ _ _ _ _ h _ _ _ hw (lv_sub hl [1, 2, 3, 0] rfl) hk0
        · replace h := h.2 c_110
          refine lv_iconst (v := 0) hx hb dL_law_444 (by decide) ?_
          exact False.elim h
      replace h := h.2
      by_cases c_126 : ((xs (tn x3)) &&& 31) = 8
      · replace h := h.1 c_126
        refine x_tabIn (tgt := 446) C0 8 c_126 dL_law_32 (by decide) (by decide) rfl (by decide) ?_
        refine lv_aload_n hx hb dL_law_446 rfl (lv_at hl 1 rfl) ?_
        refine lv_aload_n hx hb dL_law_447 rfl (lv_at hl 0 rfl) ?_
        refine lv_iload_n hx hb dL_law_448 rfl (lv_at hl 3 rfl) ?_
        refine lv_iconst (v := 1) hx hb dL_law_449 (by decide) ?_
        refine lv_iadd hx hb dL_law_450 ?_
        obtain ⟨hin, h⟩ := h
        refine va_sld hx hb hX hbl hbA hw.2.2 hin dL_law_451 ?_
        refine lv_aload_n hx hb dL_law_452 rfl (lv_at hl 0 rfl) ?_
        refine lv_iload_n hx hb dL_law_453 rfl (lv_at hl 3 rfl) ?_
        refine lv_iconst (v := 2) hx hb dL_law_454 (by decide) ?_
        refine lv_iadd hx hb dL_law_455 ?_
        obtain ⟨hin, h⟩ := h
        refine va_sld hx hb hX hbl hbA hw.2.2 hin dL_law_456 ?_
        refine lv_aload_n hx hb dL_law_457 rfl (lv_at hl 0 rfl) ?_
        refine lv_iload_n hx hb dL_law_458 rfl (lv_at hl 3 rfl) ?_
        refine lv_iconst (v := 3) hx hb dL_law_459 (by decide) ?_
        refine lv_iadd hx hb dL_law_460 ?_
        obtain ⟨hin, h⟩ := h
        refine va_sld hx hb hX hbl hbA hw.2.2 hin dL_law_461 ?_
        refine x_cV (As := [.int (xs (tn (x3 + 1))), .int (xs (tn (x3 + 2))), .int (xs (tn (x3 + 3)))]) (rest := []) (F := (List.flatten [cM E a2 v3, cM E a3 v4, cS E aS v10, cR E aR v11])) C0 hw (p_fl (ds := [cG aG (a0 0) (a1 0) (a2 0) (a3 0) (aH 0) (aS 0) v0, cM E a0 v1, cM E a1 v2, cH E aH (h0 0) (h1 0) (h2 0) (h3 0) v5, cM E h0 v6, cM E h1 v7, cM E h2 v8, cM E h3 v9]) ((p_pk _ 0 _ rfl).trans (List.Perm.cons _ ((p_pk _ 0 _ rfl).trans (List.Perm.cons _ ((p_pk _ 0 _ rfl).trans (List.Perm.cons _ ((p_pk _ 2 _ rfl).trans (List.Perm.cons _ ((p_pk _ 2 _ rfl).trans (List.Perm.cons _ ((p_pk _ 2 _ rfl).trans (List.Perm.cons _ ((p_pk _ 2 _ rfl).trans (List.Perm.cons _ ((p_pk _ 2 _ rfl).trans (List.Perm.cons _ (List.Perm.refl _)))))))))))))))))) hl.1 0 6 rfl rfl (c_X6_grade l E aG a0 a1 a2 a3 aH h0 h1 h2 h3 aS h) 3 gL_law_X6_grade rfl ⟨rfl, rfl⟩ (by decide +kernel) ⟨Nat.le_of_ble_eq_true rfl, Nat.le_of_ble_eq_true rfl⟩ rfl rfl (Nat.le_of_ble_eq_true rfl) dL_law_462 ⟨Nat.le_of_ble_eq_true rfl, Nat.le_of_ble_eq_true rfl⟩ (fun r_113 u_125 H locs h hw => ?_)
        obtain ⟨v_114, v_115, v_116, v_117, v_118, v_119, v_120, v_121⟩ := u_125
        replace hw : mw E A s.heap H locs (List.flatten [cG aG (a0 0) (a1 0) (a2 0) (a3 0) (aH 0) (aS 0) v_114, cM E a0 v_115, cM E a1 v_116, cM E a2 v3, cM E a3 v4, cH E aH (h0 0) (h1 0) (h2 0) (h3 0) v_117, cM E h0 v_118, cM E h1 v_119, cM E h2 v_120, cM E h3 v_121, cS E aS v10, cR E aR v11]) := hw.perm (p_bk (ds := [cG aG (a0 0) (a1 0) (a2 0) (a3 0) (aH 0) (aS 0) v_114, cM E a0 v_115, cM E a1 v_116, cH E aH (h0 0) (h1 0) (h2 0) (h3 0) v_117, cM E h0 v_118, cM E h1 v_119, cM E h2 v_120, cM E h3 v_121]) ((p_pk _ 0 _ rfl).trans (List.Perm.cons _ ((p_pk _ 0 _ rfl).trans (List.Perm.cons _ ((p_pk _ 0 _ rfl).trans (List.Perm.cons _ ((p_pk _ 2 _ rfl).trans (List.Perm.cons _ ((p_pk _ 2 _ rfl).trans (List.Perm.cons _ ((p_pk _ 2 _ rfl).trans (List.Perm.cons _ ((p_pk _ 2 _ rfl).trans (List.Perm.cons _ ((p_pk _ 2 _ rfl).trans (List.Perm.cons _ (List.Perm.refl _))))))))))))))))))
        refine lv_aload_n hx hb dL_law_465 rfl (lv_at hl 2 rfl) ?_
        refine lv_aload_n hx hb dL_law_466 rfl (lv_at hl 0 rfl) ?_
        refine lv_iload_n hx hb dL_law_467 rfl (lv_at hl 3 rfl) ?_
        refine lv_iconst (v := 1) hx hb dL_law_468 (by decide) ?_
        refine lv_iadd hx hb dL_law_469 ?_
        obtain ⟨hin, h⟩ := h
        refine va_sld hx hb hX hbl hbA hw.2.2 hin dL_law_470 ?_
        refine lv_aload_n hx hb dL_law_471 rfl (lv_at hl 0 rfl) ?_
        refine lv_iload_n hx hb dL_law_472 rfl (lv_at hl 3 rfl) ?_
        refine lv_iconst (v := 2) hx hb dL_law_473 (by decide) ?_
        refine lv_iadd hx hb dL_law_474 ?_
        obtain ⟨hin, h⟩ := h
        refine va_sld hx hb hX hbl hbA hw.2.2 hin dL_law_475 ?_
        refine lv_aload_n hx hb dL_law_476 rfl (lv_at hl 0 rfl) ?_
        refine lv_iload_n hx hb dL_law_477 rfl (lv_at hl 3 rfl) ?_
        refine lv_iconst (v := 3) hx hb dL_law_478 (by decide) ?_
        refine lv_iadd hx hb dL_law_479 ?_
        obtain ⟨hin, h⟩ := h
        refine va_sld hx hb hX hbl hbA hw.2.2 hin dL_law_480 ?_
        refine x_cV (As := [.int (xs (tn (x3 + 1))), .int (xs (tn (x3 + 2))), .int (xs (tn (x3 + 3)))]) (rest := [.int r_113]) (F := (List.flatten [cG aG (a0 0) (a1 0) (a2 0) (a3 0) (aH 0) (aS 0) v_114, cM E a0 v_115, cM E a1 v_116, cM E a2 v3, cM E a3 v4, cH E aH (h0 0) (h1 0) (h2 0) (h3 0) v_117, cM E h0 v_118, cM E h1 v_119, cM E h2 v_120, cM E h3 v_121, cS E aS v10])) C0 hw (p_fl1 ((p_pk _ 11 _ rfl).trans (List.Perm.cons _ (List.Perm.refl _)))) hl.1 190 7 rfl rfl (c_X7_grade l E aR h) 3 gL_law_X7_grade rfl ⟨rfl, rfl⟩ (by decide +kernel) ⟨Nat.le_of_ble_eq_true rfl, Nat.le_of_ble_eq_true rfl⟩ rfl rfl (Nat.le_of_ble_eq_true rfl) dL_law_481 ⟨Nat.le_of_ble_eq_true rfl, Nat.le_of_ble_eq_true rfl⟩ (fun r_122 v_123 H locs h hw => ?_)
        replace hw : mw E A s.heap H locs (List.flatten [cG aG (a0 0) (a1 0) (a2 0) (a3 0) (aH 0) (aS 0) v_114, cM E a0 v_115, cM E a1 v_116, cM E a2 v3, cM E a3 v4, cH E aH (h0 0) (h1 0) (h2 0) (h3 0) v_117, cM E h0 v_118, cM E h1 v_119, cM E h2 v_120, cM E h3 v_121, cS E aS v10, cR E aR v_123]) := hw.perm (p_bk1 ((p_pk _ 11 _ rfl).trans (List.Perm.cons _ (List.Perm.refl _))))
        refine lv_icmp_eq (tgt := 920) hx hb dL_law_484 (by decide) (fun c_124 => ?_) (fun c_124 => ?_)
        · replace h := h.1 c_124
          refine lv_iinc (v := (x3 + 5)) (lv' := [(3, .int (x3 + 5)), (0, .ref b), (1, .ref (aG 0)), (2, .ref (aR 0))]) hx hb dL_law_920 hl (k := 3) rfl rfl (by decide) rfl (fun ls hl => ?_)
          refine lv_goto (tgt := 18) hx hb dL_law_923 (by decide) ?_
          exact ih _ _ _ _ _ _ _ _ _ _ _ _ _ h _ _ _ hw (lv_sub hl [1, 2, 3, 0] rfl) hk0
        · replace h := h.2 c_124
          refine lv_iconst (v := 0) hx hb dL_law_487 (by decide) ?_
          exact False.elim h
      replace h := h.2
      by_cases c_140 : ((xs (tn x3)) &&& 31) = 9
      · replace h := h.1 c_140
        refine x_tabIn (tgt := 489) C0 9 c_140 dL_law_32 (by decide) (by decide) rfl (by decide) ?_
        refine lv_aload_n hx hb dL_law_489 rfl (lv_at hl 1 rfl) ?_
        refine lv_aload_n hx hb dL_law_490 rfl (lv_at hl 0 rfl) ?_
        refine lv_iload_n hx hb dL_law_491 rfl (lv_at hl 3 rfl) ?_
        refine lv_iconst (v := 1) hx hb dL_law_492 (by decide) ?_
        refine lv_iadd hx hb dL_law_493 ?_
        obtain ⟨hin, h⟩ := h
        refine va_sld hx hb hX hbl hbA hw.2.2 hin dL_law_494 ?_
        refine x_cV (As := [.int (xs (tn (x3 + 1)))]) (rest := []) (F := (List.flatten [cM E a2 v3, cM E a3 v4, cS E aS v10, cR E aR v11])) C0 hw (p_fl (ds := [cG aG (a0 0) (a1 0) (a2 0) (a3 0) (aH 0) (aS 0) v0, cM E a0 v1, cM E a1 v2, cH E aH (h0 0) (h1 0) (h2 0) (h3 0) v5, cM E h0 v6, cM E h1 v7, cM E h2 v8, cM E h3 v9]) ((p_pk _ 0 _ rfl).trans (List.Perm.cons _ ((p_pk _ 0 _ rfl).trans (List.Perm.cons _ ((p_pk _ 0 _ rfl).trans (List.Perm.cons _ ((p_pk _ 2 _ rfl).trans (List.Perm.cons _ ((p_pk _ 2 _ rfl).trans (List.Perm.cons _ ((p_pk _ 2 _ rfl).trans (List.Perm.cons _ ((p_pk _ 2 _ rfl).trans (List.Perm.cons _ ((p_pk _ 2 _ rfl).trans (List.Perm.cons _ (List.Perm.refl _)))))))))))))))))) hl.1 0 6 rfl rfl (c_X6_pause l E aG a0 a1 a2 a3 aH h0 h1 h2 h3 aS h) 1 gL_law_X6_pause rfl ⟨rfl, rfl⟩ (by decide +kernel) ⟨Nat.le_of_ble_eq_true rfl, Nat.le_of_ble_eq_true rfl⟩ rfl rfl (Nat.le_of_ble_eq_true rfl) dL_law_495 ⟨Nat.le_of_ble_eq_true rfl, Nat.le_of_ble_eq_true rfl⟩ (fun r_127 u_139 H locs h hw => ?_)
        obtain ⟨v_128, v_129, v_130, v_131, v_132, v_133, v_134, v_135⟩ := u_139
        replace hw : mw E A s.heap H locs (List.flatten [cG aG (a0 0) (a1 0) (a2 0) (a3 0) (aH 0) (aS 0) v_128, cM E a0 v_129, cM E a1 v_130, cM E a2 v3, cM E a3 v4, cH E aH (h0 0) (h1 0) (h2 0) (h3 0) v_131, cM E h0 v_132, cM E h1 v_133, cM E h2 v_134, cM E h3 v_135, cS E aS v10, cR E aR v11]) := hw.perm (p_bk (ds := [cG aG (a0 0) (a1 0) (a2 0) (a3 0) (aH 0) (aS 0) v_128, cM E a0 v_129, cM E a1 v_130, cH E aH (h0 0) (h1 0) (h2 0) (h3 0) v_131, cM E h0 v_132, cM E h1 v_133, cM E h2 v_134, cM E h3 v_135]) ((p_pk _ 0 _ rfl).trans (List.Perm.cons _ ((p_pk _ 0 _ rfl).trans (List.Perm.cons _ ((p_pk _ 0 _ rfl).trans (List.Perm.cons _ ((p_pk _ 2 _ rfl).trans (List.Perm.cons _ ((p_pk _ 2 _ rfl).trans (List.Perm.cons _ ((p_pk _ 2 _ rfl).trans (List.Perm.cons _ ((p_pk _ 2 _ rfl).trans (List.Perm.cons _ ((p_pk _ 2 _ rfl).trans (List.Perm.cons _ (List.Perm.refl _))))))))))))))))))
        refine lv_aload_n hx hb dL_law_498 rfl (lv_at hl 2 rfl) ?_
        refine lv_aload_n hx hb dL_law_499 rfl (lv_at hl 0 rfl) ?_
        refine lv_iload_n hx hb dL_law_500 rfl (lv_at hl 3 rfl) ?_
        refine lv_iconst (v := 1) hx hb dL_law_501 (by decide) ?_
        refine lv_iadd hx hb dL_law_502 ?_
        obtain ⟨hin, h⟩ := h
        refine va_sld hx hb hX hbl hbA hw.2.2 hin dL_law_503 ?_
        refine x_cV (As := [.int (xs (tn (x3 + 1)))]) (rest := [.int r_127]) (F := (List.flatten [cG aG (a0 0) (a1 0) (a2 0) (a3 0) (aH 0) (aS 0) v_128, cM E a0 v_129, cM E a1 v_130, cM E a2 v3, cM E a3 v4, cH E aH (h0 0) (h1 0) (h2 0) (h3 0) v_131, cM E h0 v_132, cM E h1 v_133, cM E h2 v_134, cM E h3 v_135, cS E aS v10])) C0 hw (p_fl1 ((p_pk _ 11 _ rfl).trans (List.Perm.cons _ (List.Perm.refl _)))) hl.1 190 7 rfl rfl (c_X7_pause l E aR h) 1 gL_law_X7_pause rfl ⟨rfl, rfl⟩ (by decide +kernel) ⟨Nat.le_of_ble_eq_true rfl, Nat.le_of_ble_eq_true rfl⟩ rfl rfl (Nat.le_of_ble_eq_true rfl) dL_law_504 ⟨Nat.le_of_ble_eq_true rfl, Nat.le_of_ble_eq_true rfl⟩ (fun r_136 v_137 H locs h hw => ?_)
        replace hw : mw E A s.heap H locs (List.flatten [cG aG (a0 0) (a1 0) (a2 0) (a3 0) (aH 0) (aS 0) v_128, cM E a0 v_129, cM E a1 v_130, cM E a2 v3, cM E a3 v4, cH E aH (h0 0) (h1 0) (h2 0) (h3 0) v_131, cM E h0 v_132, cM E h1 v_133, cM E h2 v_134, cM E h3 v_135, cS E aS v10, cR E aR v_137]) := hw.perm (p_bk1 ((p_pk _ 11 _ rfl).trans (List.Perm.cons _ (List.Perm.refl _))))
        refine lv_icmp_eq (tgt := 920) hx hb dL_law_507 (by decide) (fun c_138 => ?_) (fun c_138 => ?_)
        · replace h := h.1 c_138
          refine lv_iinc (v := (x3 + 5)) (lv' := [(3, .int (x3 + 5)), (0, .ref b), (1, .ref (aG 0)), (2, .ref (aR 0))]) hx hb dL_law_920 hl (k := 3) rfl rfl (by decide) rfl (fun ls hl => ?_)
          refine lv_goto (tgt := 18) hx hb dL_law_923 (by decide) ?_
          exact ih _ _ _ _ _ _ _ _ _ _ _ _ _ h _ _ _ hw (lv_sub hl [1, 2, 3, 0] rfl) hk0
        · replace h := h.2 c_138
          refine lv_iconst (v := 0) hx hb dL_law_510 (by decide) ?_
          exact False.elim h
      replace h := h.2
      by_cases c_154 : ((xs (tn x3)) &&& 31) = 10
      · replace h := h.1 c_154
        refine x_tabIn (tgt := 512) C0 10 c_154 dL_law_32 (by decide) (by decide) rfl (by decide) ?_
        refine lv_aload_n hx hb dL_law_512 rfl (lv_at hl 1 rfl) ?_
        refine lv_aload_n hx hb dL_law_513 rfl (lv_at hl 0 rfl) ?_
        refine lv_iload_n hx hb dL_law_514 rfl (lv_at hl 3 rfl) ?_
        refine lv_iconst (v := 1) hx hb dL_law_515 (by decide) ?_
        refine lv_iadd hx hb dL_law_516 ?_
        obtain ⟨hin, h⟩ := h
        refine va_sld hx hb hX hbl hbA hw.2.2 hin dL_law_517 ?_
        refine lv_aload_n hx hb dL_law_518 rfl (lv_at hl 0 rfl) ?_
        refine lv_iload_n hx hb dL_law_519 rfl (lv_at hl 3 rfl) ?_
        refine lv_iconst (v := 2) hx hb dL_law_520 (by decide) ?_
        refine lv_iadd hx hb dL_law_521 ?_
        obtain ⟨hin, h⟩ := h
        refine va_sld hx hb hX hbl hbA hw.2.2 hin dL_law_522 ?_
        refine x_cV (As := [.int (xs (tn (x3 + 1))), .int (xs (tn (x3 + 2)))]) (rest := []) (F := (List.flatten [cM E a2 v3, cM E a3 v4, cS E aS v10, cR E aR v11])) C0 hw (p_fl (ds := [cG aG (a0 0) (a1 0) (a2 0) (a3 0) (aH 0) (aS 0) v0, cM E a0 v1, cM E a1 v2, cH E aH (h0 0) (h1 0) (h2 0) (h3 0) v5, cM E h0 v6, cM E h1 v7, cM E h2 v8, cM E h3 v9]) ((p_pk _ 0 _ rfl).trans (List.Perm.cons _ ((p_pk _ 0 _ rfl).trans (List.Perm.cons _ ((p_pk _ 0 _ rfl).trans (List.Perm.cons _ ((p_pk _ 2 _ rfl).trans (List.Perm.cons _ ((p_pk _ 2 _ rfl).trans (List.Perm.cons _ ((p_pk _ 2 _ rfl).trans (List.Perm.cons _ ((p_pk _ 2 _ rfl).trans (List.Perm.cons _ ((p_pk _ 2 _ rfl).trans (List.Perm.cons _ (List.Perm.refl _)))))))))))))))))) hl.1 0 6 rfl rfl (c_X6_set l E aG a0 a1 a2 a3 aH h0 h1 h2 h3 aS h) 2 gL_law_X6_set rfl ⟨rfl, rfl⟩ (by decide +kernel) ⟨Nat.le_of_ble_eq_true rfl, Nat.le_of_ble_eq_true rfl⟩ rfl rfl (Nat.le_of_ble_eq_true rfl) dL_law_523 ⟨Nat.le_of_ble_eq_true rfl, Nat.le_of_ble_eq_true rfl⟩ (fun r_141 u_153 H locs h hw => ?_)
        obtain ⟨v_142, v_143, v_144, v_145, v_146, v_147, v_148, v_149⟩ := u_153
        replace hw : mw E A s.heap H locs (List.flatten [cG aG (a0 0) (a1 0) (a2 0) (a3 0) (aH 0) (aS 0) v_142, cM E a0 v_143, cM E a1 v_144, cM E a2 v3, cM E a3 v4, cH E aH (h0 0) (h1 0) (h2 0) (h3 0) v_145, cM E h0 v_146, cM E h1 v_147, cM E h2 v_148, cM E h3 v_149, cS E aS v10, cR E aR v11]) := hw.perm (p_bk (ds := [cG aG (a0 0) (a1 0) (a2 0) (a3 0) (aH 0) (aS 0) v_142, cM E a0 v_143, cM E a1 v_144, cH E aH (h0 0) (h1 0) (h2 0) (h3 0) v_145, cM E h0 v_146, cM E h1 v_147, cM E h2 v_148, cM E h3 v_149]) ((p_pk _ 0 _ rfl).trans (List.Perm.cons _ ((p_pk _ 0 _ rfl).trans (List.Perm.cons _ ((p_pk _ 0 _ rfl).trans (List.Perm.cons _ ((p_pk _ 2 _ rfl).trans (List.Perm.cons _ ((p_pk _ 2 _ rfl).trans (List.Perm.cons _ ((p_pk _ 2 _ rfl).trans (List.Perm.cons _ ((p_pk _ 2 _ rfl).trans (List.Perm.cons _ ((p_pk _ 2 _ rfl).trans (List.Perm.cons _ (List.Perm.refl _))))))))))))))))))
        refine lv_aload_n hx hb dL_law_526 rfl (lv_at hl 2 rfl) ?_
        refine lv_aload_n hx hb dL_law_527 rfl (lv_at hl 0 rfl) ?_
        refine lv_iload_n hx hb dL_law_528 rfl (lv_at hl 3 rfl) ?_
        refine lv_iconst (v := 1) hx hb dL_law_529 (by decide) ?_
        refine lv_iadd hx hb dL_law_530 ?_
        obtain ⟨hin, h⟩ := h
        refine va_sld hx hb hX hbl hbA hw.2.2 hin dL_law_531 ?_
        refine lv_aload_n hx hb dL_law_532 rfl (lv_at hl 0 rfl) ?_
        refine lv_iload_n hx hb dL_law_533 rfl (lv_at hl 3 rfl) ?_
        refine lv_iconst (v := 2) hx hb dL_law_534 (by decide) ?_
        refine lv_iadd hx hb dL_law_535 ?_
        obtain ⟨hin, h⟩ := h
        refine va_sld hx hb hX hbl hbA hw.2.2 hin dL_law_536 ?_
        refine x_cV (As := [.int (xs (tn (x3 + 1))), .int (xs (tn (x3 + 2)))]) (rest := [.int r_141]) (F := (List.flatten [cG aG (a0 0) (a1 0) (a2 0) (a3 0) (aH 0) (aS 0) v_142, cM E a0 v_143, cM E a1 v_144, cM E a2 v3, cM E a3 v4, cH E aH (h0 0) (h1 0) (h2 0) (h3 0) v_145, cM E h0 v_146, cM E h1 v_147, cM E h2 v_148, cM E h3 v_149, cS E aS v10])) C0 hw (p_fl1 ((p_pk _ 11 _ rfl).trans (List.Perm.cons _ (List.Perm.refl _)))) hl.1 190 7 rfl rfl (c_X7_set l E aR h) 2 gL_law_X7_set rfl ⟨rfl, rfl⟩ (by decide +kernel) ⟨Nat.le_of_ble_eq_true rfl, Nat.le_of_ble_eq_true rfl⟩ rfl rfl (Nat.le_of_ble_eq_true rfl) dL_law_537 ⟨Nat.le_of_ble_eq_true rfl, Nat.le_of_ble_eq_true rfl⟩ (fun r_150 v_151 H locs h hw => ?_)
        replace hw : mw E A s.heap H locs (List.flatten [cG aG (a0 0) (a1 0) (a2 0) (a3 0) (aH 0) (aS 0) v_142, cM E a0 v_143, cM E a1 v_144, cM E a2 v3, cM E a3 v4, cH E aH (h0 0) (h1 0) (h2 0) (h3 0) v_145, cM E h0 v_146, cM E h1 v_147, cM E h2 v_148, cM E h3 v_149, cS E aS v10, cR E aR v_151]) := hw.perm (p_bk1 ((p_pk _ 11 _ rfl).trans (List.Perm.cons _ (List.Perm.refl _))))
        refine lv_icmp_eq (tgt := 920) hx hb dL_law_540 (by decide) (fun c_152 => ?_) (fun c_152 => ?_)
        · replace h := h.1 c_152
          refine lv_iinc (v := (x3 + 5)) (lv' := [(3, .int (x3 + 5)), (0, .ref b), (1, .ref (aG 0)), (2, .ref (aR 0))]) hx hb dL_law_920 hl (k := 3) rfl rfl (by decide) rfl (fun ls hl => ?_)
          refine lv_goto (tgt := 18) hx hb dL_law_923 (by decide) ?_
          exact ih _ _ _ _ _ _ _ _ _ _ _ _ _ h _ _ _ hw (lv_sub hl [1, 2, 3, 0] rfl) hk0
        · replace h := h.2 c_152
          refine lv_iconst (v := 0) hx hb dL_law_543 (by decide) ?_
          exact False.elim h
      replace h := h.2
      by_cases c_162 : ((xs (tn x3)) &&& 31) = 11
      · replace h := h.1 c_162
        refine x_tabIn (tgt := 545) C0 11 c_162 dL_law_32 (by decide) (by decide) rfl (by decide) ?_
        refine lv_aload_n hx hb dL_law_545 rfl (lv_at hl 1 rfl) ?_
        refine lv_aload_n hx hb dL_law_546 rfl (lv_at hl 0 rfl) ?_
        refine lv_iload_n hx hb dL_law_547 rfl (lv_at hl 3 rfl) ?_
        refine lv_iconst (v := 1) hx hb dL_law_548 (by decide) ?_
        refine lv_iadd hx hb dL_law_549 ?_
        obtain ⟨hin, h⟩ := h
        refine va_sld hx hb hX hbl hbA hw.2.2 hin dL_law_550 ?_
        refine lv_aload_n hx hb dL_law_551 rfl (lv_at hl 0 rfl) ?_
        refine lv_iload_n hx hb dL_law_552 rfl (lv_at hl 3 rfl) ?_
        refine lv_iconst (v := 2) hx hb dL_law_553 (by decide) ?_
        refine lv_iadd hx hb dL_law_554 ?_
        obtain ⟨hin, h⟩ := h
        refine va_sld hx hb hX hbl hbA hw.2.2 hin dL_law_555 ?_
        refine x_cV (As := [.int (xs (tn (x3 + 1))), .int (xs (tn (x3 + 2)))]) (rest := []) (F := (List.flatten [cM E a1 v2, cM E a2 v3, cM E a3 v4, cH E aH (h0 0) (h1 0) (h2 0) (h3 0) v5, cM E h0 v6, cM E h1 v7, cM E h2 v8, cM E h3 v9, cS E aS v10, cR E aR v11])) C0 hw (p_fl (ds := [cG aG (a0 0) (a1 0) (a2 0) (a3 0) (aH 0) (aS 0) v0, cM E a0 v1]) (List.Perm.refl _)) hl.1 0 6 rfl rfl (c_X6_stoneOf l E aG a0 a1 a2 a3 aH h0 h1 h2 h3 aS h) 2 gL_law_X6_stoneOf rfl ⟨rfl, rfl⟩ (by decide +kernel) ⟨Nat.le_of_ble_eq_true rfl, Nat.le_of_ble_eq_true rfl⟩ rfl rfl (Nat.le_of_ble_eq_true rfl) dL_law_556 ⟨Nat.le_of_ble_eq_true rfl, Nat.le_of_ble_eq_true rfl⟩ (fun r_155 u_161 H locs h hw => ?_)
        obtain ⟨v_156, v_157⟩ := u_161
        replace hw : mw E A s.heap H locs (List.flatten [cG aG (a0 0) (a1 0) (a2 0) (a3 0) (aH 0) (aS 0) v_156, cM E a0 v_157, cM E a1 v2, cM E a2 v3, cM E a3 v4, cH E aH (h0 0) (h1 0) (h2 0) (h3 0) v5, cM E h0 v6, cM E h1 v7, cM E h2 v8, cM E h3 v9, cS E aS v10, cR E aR v11]) := hw.perm (p_bk (ds := [cG aG (a0 0) (a1 0) (a2 0) (a3 0) (aH 0) (aS 0) v_156, cM E a0 v_157]) (List.Perm.refl _))
        refine lv_aload_n hx hb dL_law_559 rfl (lv_at hl 2 rfl) ?_
        refine lv_aload_n hx hb dL_law_560 rfl (lv_at hl 0 rfl) ?_
        refine lv_iload_n hx hb dL_law_561 rfl (lv_at hl 3 rfl) ?_
        refine lv_iconst (v := 1) hx hb dL_law_562 (by decide) ?_
        refine lv_iadd hx hb dL_law_563 ?_
        obtain ⟨hin, h⟩ := h
        refine va_sld hx hb hX hbl hbA hw.2.2 hin dL_law_564 ?_
        refine lv_aload_n hx hb dL_law_565 rfl (lv_at hl 0 rfl) ?_
        refine lv_iload_n hx hb dL_law_566 rfl (lv_at hl 3 rfl) ?_
        refine lv_iconst (v := 2) hx hb dL_law_567 (by decide) ?_
        refine lv_iadd hx hb dL_law_568 ?_
        obtain ⟨hin, h⟩ := h
        refine va_sld hx hb hX hbl hbA hw.2.2 hin dL_law_569 ?_
        refine x_cV (As := [.int (xs (tn (x3 + 1))), .int (xs (tn (x3 + 2)))]) (rest := [.int r_155]) (F := (List.flatten [cG aG (a0 0) (a1 0) (a2 0) (a3 0) (aH 0) (aS 0) v_156, cM E a0 v_157, cM E a1 v2, cM E a2 v3, cM E a3 v4, cH E aH (h0 0) (h1 0) (h2 0) (h3 0) v5, cM E h0 v6, cM E h1 v7, cM E h2 v8, cM E h3 v9, cS E aS v10])) C0 hw (p_fl1 ((p_pk _ 11 _ rfl).trans (List.Perm.cons _ (List.Perm.refl _)))) hl.1 190 7 rfl rfl (c_X7_stoneOf l E aR h) 2 gL_law_X7_stoneOf rfl ⟨rfl, rfl⟩ (by decide +kernel) ⟨Nat.le_of_ble_eq_true rfl, Nat.le_of_ble_eq_true rfl⟩ rfl rfl (Nat.le_of_ble_eq_true rfl) dL_law_570 ⟨Nat.le_of_ble_eq_true rfl, Nat.le_of_ble_eq_true rfl⟩ (fun r_158 v_159 H locs h hw => ?_)
        replace hw : mw E A s.heap H locs (List.flatten [cG aG (a0 0) (a1 0) (a2 0) (a3 0) (aH 0) (aS 0) v_156, cM E a0 v_157, cM E a1 v2, cM E a2 v3, cM E a3 v4, cH E aH (h0 0) (h1 0) (h2 0) (h3 0) v5, cM E h0 v6, cM E h1 v7, cM E h2 v8, cM E h3 v9, cS E aS v10, cR E aR v_159]) := hw.perm (p_bk1 ((p_pk _ 11 _ rfl).trans (List.Perm.cons _ (List.Perm.refl _))))
        refine lv_icmp_eq (tgt := 920) hx hb dL_law_573 (by decide) (fun c_160 => ?_) (fun c_160 => ?_)
        · replace h := h.1 c_160
          refine lv_iinc (v := (x3 + 5)) (lv' := [(3, .int (x3 + 5)), (0, .ref b), (1, .ref (aG 0)), (2, .ref (aR 0))]) hx hb dL_law_920 hl (k := 3) rfl rfl (by decide) rfl (fun ls hl => ?_)
          refine lv_goto (tgt := 18) hx hb dL_law_923 (by decide) ?_
          exact ih _ _ _ _ _ _ _ _ _ _ _ _ _ h _ _ _ hw (lv_sub hl [1, 2, 3, 0] rfl) hk0
        · replace h := h.2 c_160
          refine lv_iconst (v := 0) hx hb dL_law_576 (by decide) ?_
          exact False.elim h
      replace h := h.2
      by_cases c_170 : ((xs (tn x3)) &&& 31) = 12
      · replace h := h.1 c_170
        refine x_tabIn (tgt := 578) C0 12 c_170 dL_law_32 (by decide) (by decide) rfl (by decide) ?_
        refine lv_aload_n hx hb dL_law_578 rfl (lv_at hl 1 rfl) ?_
        refine lv_aload_n hx hb dL_law_579 rfl (lv_at hl 0 rfl) ?_
        refine lv_iload_n hx hb dL_law_580 rfl (lv_at hl 3 rfl) ?_
        refine lv_iconst (v := 1) hx hb dL_law_581 (by decide) ?_
        refine lv_iadd hx hb dL_law_582 ?_
        obtain ⟨hin, h⟩ := h
        refine va_sld hx hb hX hbl hbA hw.2.2 hin dL_law_583 ?_
        refine lv_aload_n hx hb dL_law_584 rfl (lv_at hl 0 rfl) ?_
        refine lv_iload_n hx hb dL_law_585 rfl (lv_at hl 3 rfl) ?_
        refine lv_iconst (v := 2) hx hb dL_law_586 (by decide) ?_
        refine lv_iadd hx hb dL_law_587 ?_
        obtain ⟨hin, h⟩ := h
        refine va_sld hx hb hX hbl hbA hw.2.2 hin dL_law_588 ?_
        refine x_cV (As := [.int (xs (tn (x3 + 1))), .int (xs (tn (x3 + 2)))]) (rest := []) (F := (List.flatten [cM E a1 v2, cM E a2 v3, cM E a3 v4, cH E aH (h0 0) (h1 0) (h2 0) (h3 0) v5, cM E h0 v6, cM E h1 v7, cM E h2 v8, cM E h3 v9, cS E aS v10, cR E aR v11])) C0 hw (p_fl (ds := [cG aG (a0 0) (a1 0) (a2 0) (a3 0) (aH 0) (aS 0) v0, cM E a0 v1]) (List.Perm.refl _)) hl.1 0 6 rfl rfl (c_X6_dealerOf l E aG a0 a1 a2 a3 aH h0 h1 h2 h3 aS h) 2 gL_law_X6_dealerOf rfl ⟨rfl, rfl⟩ (by decide +kernel) ⟨Nat.le_of_ble_eq_true rfl, Nat.le_of_ble_eq_true rfl⟩ rfl rfl (Nat.le_of_ble_eq_true rfl) dL_law_589 ⟨Nat.le_of_ble_eq_true rfl, Nat.le_of_ble_eq_true rfl⟩ (fun r_163 u_169 H locs h hw => ?_)
        obtain ⟨v_164, v_165⟩ := u_169
        replace hw : mw E A s.heap H locs (List.flatten [cG aG (a0 0) (a1 0) (a2 0) (a3 0) (aH 0) (aS 0) v_164, cM E a0 v_165, cM E a1 v2, cM E a2 v3, cM E a3 v4, cH E aH (h0 0) (h1 0) (h2 0) (h3 0) v5, cM E h0 v6, cM E h1 v7, cM E h2 v8, cM E h3 v9, cS E aS v10, cR E aR v11]) := hw.perm (p_bk (ds := [cG aG (a0 0) (a1 0) (a2 0) (a3 0) (aH 0) (aS 0) v_164, cM E a0 v_165]) (List.Perm.refl _))
        refine lv_aload_n hx hb dL_law_592 rfl (lv_at hl 2 rfl) ?_
        refine lv_aload_n hx hb dL_law_593 rfl (lv_at hl 0 rfl) ?_
        refine lv_iload_n hx hb dL_law_594 rfl (lv_at hl 3 rfl) ?_
        refine lv_iconst (v := 1) hx hb dL_law_595 (by decide) ?_
        refine lv_iadd hx hb dL_law_596 ?_
        obtain ⟨hin, h⟩ := h
        refine va_sld hx hb hX hbl hbA hw.2.2 hin dL_law_597 ?_
        refine lv_aload_n hx hb dL_law_598 rfl (lv_at hl 0 rfl) ?_
        refine lv_iload_n hx hb dL_law_599 rfl (lv_at hl 3 rfl) ?_
        refine lv_iconst (v := 2) hx hb dL_law_600 (by decide) ?_
        refine lv_iadd hx hb dL_law_601 ?_
        obtain ⟨hin, h⟩ := h
        refine va_sld hx hb hX hbl hbA hw.2.2 hin dL_law_602 ?_
        refine x_cV (As := [.int (xs (tn (x3 + 1))), .int (xs (tn (x3 + 2)))]) (rest := [.int r_163]) (F := (List.flatten [cG aG (a0 0) (a1 0) (a2 0) (a3 0) (aH 0) (aS 0) v_164, cM E a0 v_165, cM E a1 v2, cM E a2 v3, cM E a3 v4, cH E aH (h0 0) (h1 0) (h2 0) (h3 0) v5, cM E h0 v6, cM E h1 v7, cM E h2 v8, cM E h3 v9, cS E aS v10])) C0 hw (p_fl1 ((p_pk _ 11 _ rfl).trans (List.Perm.cons _ (List.Perm.refl _)))) hl.1 190 7 rfl rfl (c_X7_dealerOf l E aR h) 2 gL_law_X7_dealerOf rfl ⟨rfl, rfl⟩ (by decide +kernel) ⟨Nat.le_of_ble_eq_true rfl, Nat.le_of_ble_eq_true rfl⟩ rfl rfl (Nat.le_of_ble_eq_true rfl) dL_law_603 ⟨Nat.le_of_ble_eq_true rfl, Nat.le_of_ble_eq_true rfl⟩ (fun r_166 v_167 H locs h hw => ?_)
        replace hw : mw E A s.heap H locs (List.flatten [cG aG (a0 0) (a1 0) (a2 0) (a3 0) (aH 0) (aS 0) v_164, cM E a0 v_165, cM E a1 v2, cM E a2 v3, cM E a3 v4, cH E aH (h0 0) (h1 0) (h2 0) (h3 0) v5, cM E h0 v6, cM E h1 v7, cM E h2 v8, cM E h3 v9, cS E aS v10, cR E aR v_167]) := hw.perm (p_bk1 ((p_pk _ 11 _ rfl).trans (List.Perm.cons _ (List.Perm.refl _))))
        refine lv_icmp_eq (tgt := 920) hx hb dL_law_606 (by decide) (fun c_168 => ?_) (fun c_168 => ?_)
        · replace h := h.1 c_168
          refine lv_iinc (v := (x3 + 5)) (lv' := [(3, .int (x3 + 5)), (0, .ref b), (1, .ref (aG 0)), (2, .ref (aR 0))]) hx hb dL_law_920 hl (k := 3) rfl rfl (by decide) rfl (fun ls hl => ?_)
          refine lv_goto (tgt := 18) hx hb dL_law_923 (by decide) ?_
          exact ih _ _ _ _ _ _ _ _ _ _ _ _ _ h _ _ _ hw (lv_sub hl [1, 2, 3, 0] rfl) hk0
        · replace h := h.2 c_168
          refine lv_iconst (v := 0) hx hb dL_law_609 (by decide) ?_
          exact False.elim h
      replace h := h.2
      by_cases c_178 : ((xs (tn x3)) &&& 31) = 13
      · replace h := h.1 c_178
        refine x_tabIn (tgt := 611) C0 13 c_178 dL_law_32 (by decide) (by decide) rfl (by decide) ?_
        refine lv_aload_n hx hb dL_law_611 rfl (lv_at hl 1 rfl) ?_
        refine lv_aload_n hx hb dL_law_612 rfl (lv_at hl 0 rfl) ?_
        refine lv_iload_n hx hb dL_law_613 rfl (lv_at hl 3 rfl) ?_
        refine lv_iconst (v := 1) hx hb dL_law_614 (by decide) ?_
        refine lv_iadd hx hb dL_law_615 ?_
        obtain ⟨hin, h⟩ := h
        refine va_sld hx hb hX hbl hbA hw.2.2 hin dL_law_616 ?_
        refine lv_aload_n hx hb dL_law_617 rfl (lv_at hl 0 rfl) ?_
        refine lv_iload_n hx hb dL_law_618 rfl (lv_at hl 3 rfl) ?_
        refine lv_iconst (v := 2) hx hb dL_law_619 (by decide) ?_
        refine lv_iadd hx hb dL_law_620 ?_
        obtain ⟨hin, h⟩ := h
        refine va_sld hx hb hX hbl hbA hw.2.2 hin dL_law_621 ?_
        refine x_cV (As := [.int (xs (tn (x3 + 1))), .int (xs (tn (x3 + 2)))]) (rest := []) (F := (List.flatten [cM E a1 v2, cM E a2 v3, cM E a3 v4, cH E aH (h0 0) (h1 0) (h2 0) (h3 0) v5, cM E h0 v6, cM E h1 v7, cM E h2 v8, cM E h3 v9, cS E aS v10, cR E aR v11])) C0 hw (p_fl (ds := [cG aG (a0 0) (a1 0) (a2 0) (a3 0) (aH 0) (aS 0) v0, cM E a0 v1]) (List.Perm.refl _)) hl.1 0 6 rfl rfl (c_X6_memoOf l E aG a0 a1 a2 a3 aH h0 h1 h2 h3 aS h) 2 gL_law_X6_memoOf rfl ⟨rfl, rfl⟩ (by decide +kernel) ⟨Nat.le_of_ble_eq_true rfl, Nat.le_of_ble_eq_true rfl⟩ rfl rfl (Nat.le_of_ble_eq_true rfl) dL_law_622 ⟨Nat.le_of_ble_eq_true rfl, Nat.le_of_ble_eq_true rfl⟩ (fun r_171 u_177 H locs h hw => ?_)
        obtain ⟨v_172, v_173⟩ := u_177
        replace hw : mw E A s.heap H locs (List.flatten [cG aG (a0 0) (a1 0) (a2 0) (a3 0) (aH 0) (aS 0) v_172, cM E a0 v_173, cM E a1 v2, cM E a2 v3, cM E a3 v4, cH E aH (h0 0) (h1 0) (h2 0) (h3 0) v5, cM E h0 v6, cM E h1 v7, cM E h2 v8, cM E h3 v9, cS E aS v10, cR E aR v11]) := hw.perm (p_bk (ds := [cG aG (a0 0) (a1 0) (a2 0) (a3 0) (aH 0) (aS 0) v_172, cM E a0 v_173]) (List.Perm.refl _))
        refine lv_aload_n hx hb dL_law_625 rfl (lv_at hl 2 rfl) ?_
        refine lv_aload_n hx hb dL_law_626 rfl (lv_at hl 0 rfl) ?_
        refine lv_iload_n hx hb dL_law_627 rfl (lv_at hl 3 rfl) ?_
        refine lv_iconst (v := 1) hx hb dL_law_628 (by decide) ?_
        refine lv_iadd hx hb dL_law_629 ?_
        obtain ⟨hin, h⟩ := h
        refine va_sld hx hb hX hbl hbA hw.2.2 hin dL_law_630 ?_
        refine lv_aload_n hx hb dL_law_631 rfl (lv_at hl 0 rfl) ?_
        refine lv_iload_n hx hb dL_law_632 rfl (lv_at hl 3 rfl) ?_
        refine lv_iconst (v := 2) hx hb dL_law_633 (by decide) ?_
        refine lv_iadd hx hb dL_law_634 ?_
        obtain ⟨hin, h⟩ := h
        refine va_sld hx hb hX hbl hbA hw.2.2 hin dL_law_635 ?_
        refine x_cV (As := [.int (xs (tn (x3 + 1))), .int (xs (tn (x3 + 2)))]) (rest := [.int r_171]) (F := (List.flatten [cG aG (a0 0) (a1 0) (a2 0) (a3 0) (aH 0) (aS 0) v_172, cM E a0 v_173, cM E a1 v2, cM E a2 v3, cM E a3 v4, cH E aH (h0 0) (h1 0) (h2 0) (h3 0) v5, cM E h0 v6, cM E h1 v7, cM E h2 v8, cM E h3 v9, cS E aS v10])) C0 hw (p_fl1 ((p_pk _ 11 _ rfl).trans (List.Perm.cons _ (List.Perm.refl _)))) hl.1 190 7 rfl rfl (c_X7_memoOf l E aR h) 2 gL_law_X7_memoOf rfl ⟨rfl, rfl⟩ (by decide +kernel) ⟨Nat.le_of_ble_eq_true rfl, Nat.le_of_ble_eq_true rfl⟩ rfl rfl (Nat.le_of_ble_eq_true rfl) dL_law_636 ⟨Nat.le_of_ble_eq_true rfl, Nat.le_of_ble_eq_true rfl⟩ (fun r_174 v_175 H locs h hw => ?_)
        replace hw : mw E A s.heap H locs (List.flatten [cG aG (a0 0) (a1 0) (a2 0) (a3 0) (aH 0) (aS 0) v_172, cM E a0 v_173, cM E a1 v2, cM E a2 v3, cM E a3 v4, cH E aH (h0 0) (h1 0) (h2 0) (h3 0) v5, cM E h0 v6, cM E h1 v7, cM E h2 v8, cM E h3 v9, cS E aS v10, cR E aR v_175]) := hw.perm (p_bk1 ((p_pk _ 11 _ rfl).trans (List.Perm.cons _ (List.Perm.refl _))))
        refine lv_icmp_eq (tgt := 920) hx hb dL_law_639 (by decide) (fun c_176 => ?_) (fun c_176 => ?_)
        · replace h := h.1 c_176
          refine lv_iinc (v := (x3 + 5)) (lv' := [(3, .int (x3 + 5)), (0, .ref b), (1, .ref (aG 0)), (2, .ref (aR 0))]) hx hb dL_law_920 hl (k := 3) rfl rfl (by decide) rfl (fun ls hl => ?_)
          refine lv_goto (tgt := 18) hx hb dL_law_923 (by decide) ?_
          exact ih _ _ _ _ _ _ _ _ _ _ _ _ _ h _ _ _ hw (lv_sub hl [1, 2, 3, 0] rfl) hk0
        · replace h := h.2 c_176
          refine lv_iconst (v := 0) hx hb dL_law_642 (by decide) ?_
          exact False.elim h
      replace h := h.2
      by_cases c_186 : ((xs (tn x3)) &&& 31) = 14
      · replace h := h.1 c_186
        refine x_tabIn (tgt := 644) C0 14 c_186 dL_law_32 (by decide) (by decide) rfl (by decide) ?_
        refine lv_aload_n hx hb dL_law_644 rfl (lv_at hl 1 rfl) ?_
        refine lv_aload_n hx hb dL_law_645 rfl (lv_at hl 0 rfl) ?_
        refine lv_iload_n hx hb dL_law_646 rfl (lv_at hl 3 rfl) ?_
        refine lv_iconst (v := 1) hx hb dL_law_647 (by decide) ?_
        refine lv_iadd hx hb dL_law_648 ?_
        obtain ⟨hin, h⟩ := h
        refine va_sld hx hb hX hbl hbA hw.2.2 hin dL_law_649 ?_
        refine lv_aload_n hx hb dL_law_650 rfl (lv_at hl 0 rfl) ?_
        refine lv_iload_n hx hb dL_law_651 rfl (lv_at hl 3 rfl) ?_
        refine lv_iconst (v := 2) hx hb dL_law_652 (by decide) ?_
        refine lv_iadd hx hb dL_law_653 ?_
        obtain ⟨hin, h⟩ := h
        refine va_sld hx hb hX hbl hbA hw.2.2 hin dL_law_654 ?_
        refine lv_aload_n hx hb dL_law_655 rfl (lv_at hl 0 rfl) ?_
        refine lv_iload_n hx hb dL_law_656 rfl (lv_at hl 3 rfl) ?_
        refine lv_iconst (v := 3) hx hb dL_law_657 (by decide) ?_
        refine lv_iadd hx hb dL_law_658 ?_
        obtain ⟨hin, h⟩ := h
        refine va_sld hx hb hX hbl hbA hw.2.2 hin dL_law_659 ?_
        refine lv_aload_n hx hb dL_law_660 rfl (lv_at hl 0 rfl) ?_
        refine lv_iload_n hx hb dL_law_661 rfl (lv_at hl 3 rfl) ?_
        refine lv_iconst (v := 4) hx hb dL_law_662 (by decide) ?_
        refine lv_iadd hx hb dL_law_663 ?_
        obtain ⟨hin, h⟩ := h
        refine va_sld hx hb hX hbl hbA hw.2.2 hin dL_law_664 ?_
        refine x_cV (As := [.int (xs (tn (x3 + 1))), .int (xs (tn (x3 + 2))), .int (xs (tn (x3 + 3))), .int (xs (tn (x3 + 4)))]) (rest := []) (F := (List.flatten [cM E a1 v2, cM E a2 v3, cM E a3 v4, cH E aH (h0 0) (h1 0) (h2 0) (h3 0) v5, cM E h0 v6, cM E h1 v7, cM E h2 v8, cM E h3 v9, cS E aS v10, cR E aR v11])) C0 hw (p_fl (ds := [cG aG (a0 0) (a1 0) (a2 0) (a3 0) (aH 0) (aS 0) v0, cM E a0 v1]) (List.Perm.refl _)) hl.1 0 6 rfl rfl (c_X6_rateOf l E aG a0 a1 a2 a3 aH h0 h1 h2 h3 aS h) 4 gL_law_X6_rateOf rfl ⟨rfl, rfl⟩ (by decide +kernel) ⟨Nat.le_of_ble_eq_true rfl, Nat.le_of_ble_eq_true rfl⟩ rfl rfl (Nat.le_of_ble_eq_true rfl) dL_law_665 ⟨Nat.le_of_ble_eq_true rfl, Nat.le_of_ble_eq_true rfl⟩ (fun r_179 u_185 H locs h hw => ?_)
        obtain ⟨v_180, v_181⟩ := u_185
        replace hw : mw E A s.heap H locs (List.flatten [cG aG (a0 0) (a1 0) (a2 0) (a3 0) (aH 0) (aS 0) v_180, cM E a0 v_181, cM E a1 v2, cM E a2 v3, cM E a3 v4, cH E aH (h0 0) (h1 0) (h2 0) (h3 0) v5, cM E h0 v6, cM E h1 v7, cM E h2 v8, cM E h3 v9, cS E aS v10, cR E aR v11]) := hw.perm (p_bk (ds := [cG aG (a0 0) (a1 0) (a2 0) (a3 0) (aH 0) (aS 0) v_180, cM E a0 v_181]) (List.Perm.refl _))
        refine lv_aload_n hx hb dL_law_668 rfl (lv_at hl 2 rfl) ?_
        refine lv_aload_n hx hb dL_law_669 rfl (lv_at hl 0 rfl) ?_
        refine lv_iload_n hx hb dL_law_670 rfl (lv_at hl 3 rfl) ?_
        refine lv_iconst (v := 1) hx hb dL_law_671 (by decide) ?_
        refine lv_iadd hx hb dL_law_672 ?_
        obtain ⟨hin, h⟩ := h
        refine va_sld hx hb hX hbl hbA hw.2.2 hin dL_law_673 ?_
        refine lv_aload_n hx hb dL_law_674 rfl (lv_at hl 0 rfl) ?_
        refine lv_iload_n hx hb dL_law_675 rfl (lv_at hl 3 rfl) ?_
        refine lv_iconst (v := 2) hx hb dL_law_676 (by decide) ?_
        refine lv_iadd hx hb dL_law_677 ?_
        obtain ⟨hin, h⟩ := h
        refine va_sld hx hb hX hbl hbA hw.2.2 hin dL_law_678 ?_
        refine lv_aload_n hx hb dL_law_679 rfl (lv_at hl 0 rfl) ?_
        refine lv_iload_n hx hb dL_law_680 rfl (lv_at hl 3 rfl) ?_
        refine lv_iconst (v := 3) hx hb dL_law_681 (by decide) ?_
        refine lv_iadd hx hb dL_law_682 ?_
        obtain ⟨hin, h⟩ := h
        refine va_sld hx hb hX hbl hbA hw.2.2 hin dL_law_683 ?_
        refine lv_aload_n hx hb dL_law_684 rfl (lv_at hl 0 rfl) ?_
        refine lv_iload_n hx hb dL_law_685 rfl (lv_at hl 3 rfl) ?_
        refine lv_iconst (v := 4) hx hb dL_law_686 (by decide) ?_
        refine lv_iadd hx hb dL_law_687 ?_
        obtain ⟨hin, h⟩ := h
        refine va_sld hx hb hX hbl hbA hw.2.2 hin dL_law_688 ?_
        refine x_cV (As := [.int (xs (tn (x3 + 1))), .int (xs (tn (x3 + 2))), .int (xs (tn (x3 + 3))), .int (xs (tn (x3 + 4)))]) (rest := [.int r_179]) (F := (List.flatten [cG aG (a0 0) (a1 0) (a2 0) (a3 0) (aH 0) (aS 0) v_180, cM E a0 v_181, cM E a1 v2, cM E a2 v3, cM E a3 v4, cH E aH (h0 0) (h1 0) (h2 0) (h3 0) v5, cM E h0 v6, cM E h1 v7, cM E h2 v8, cM E h3 v9, cS E aS v10])) C0 hw (p_fl1 ((p_pk _ 11 _ rfl).trans (List.Perm.cons _ (List.Perm.refl _)))) hl.1 190 7 rfl rfl (c_X7_rateOf l E aR h) 4 gL_law_X7_rateOf rfl ⟨rfl, rfl⟩ (by decide +kernel) ⟨Nat.le_of_ble_eq_true rfl, Nat.le_of_ble_eq_true rfl⟩ rfl rfl (Nat.le_of_ble_eq_true rfl) dL_law_689 ⟨Nat.le_of_ble_eq_true rfl, Nat.le_of_ble_eq_true rfl⟩ (fun r_182 v_183 H locs h hw => ?_)
        replace hw : mw E A s.heap H locs (List.flatten [cG aG (a0 0) (a1 0) (a2 0) (a3 0) (aH 0) (aS 0) v_180, cM E a0 v_181, cM E a1 v2, cM E a2 v3, cM E a3 v4, cH E aH (h0 0) (h1 0) (h2 0) (h3 0) v5, cM E h0 v6, cM E h1 v7, cM E h2 v8, cM E h3 v9, cS E aS v10, cR E aR v_183]) := hw.perm (p_bk1 ((p_pk _ 11 _ rfl).trans (List.Perm.cons _ (List.Perm.refl _))))
        refine lv_icmp_eq (tgt := 920) hx hb dL_law_692 (by decide) (fun c_184 => ?_) (fun c_184 => ?_)
        · replace h := h.1 c_184
          refine lv_iinc (v := (x3 + 5)) (lv' := [(3, .int (x3 + 5)), (0, .ref b), (1, .ref (aG 0)), (2, .ref (aR 0))]) hx hb dL_law_920 hl (k := 3) rfl rfl (by decide) rfl (fun ls hl => ?_)
          refine lv_goto (tgt := 18) hx hb dL_law_923 (by decide) ?_
          exact ih _ _ _ _ _ _ _ _ _ _ _ _ _ h _ _ _ hw (lv_sub hl [1, 2, 3, 0] rfl) hk0
        · replace h := h.2 c_184
          refine lv_iconst (v := 0) hx hb dL_law_695 (by decide) ?_
          exact False.elim h
      replace h := h.2
      by_cases c_196 : ((xs (tn x3)) &&& 31) = 15
      · replace h := h.1 c_196
        refine x_tabIn (tgt := 697) C0 15 c_196 dL_law_32 (by decide) (by decide) rfl (by decide) ?_
        refine lv_aload_n hx hb dL_law_697 rfl (lv_at hl 1 rfl) ?_
        refine lv_aload_n hx hb dL_law_698 rfl (lv_at hl 0 rfl) ?_
        refine lv_iload_n hx hb dL_law_699 rfl (lv_at hl 3 rfl) ?_
        refine lv_iconst (v := 1) hx hb dL_law_700 (by decide) ?_
        refine lv_iadd hx hb dL_law_701 ?_
        obtain ⟨hin, h⟩ := h
        refine va_sld hx hb hX hbl hbA hw.2.2 hin dL_law_702 ?_
        refine x_cV (As := [.int (xs (tn (x3 + 1)))]) (rest := []) (F := (List.flatten [cM E a1 v2, cM E a2 v3, cM E a3 v4, cM E h0 v6, cM E h1 v7, cM E h2 v8, cM E h3 v9, cR E aR v11])) C0 hw (p_fl (ds := [cG aG (a0 0) (a1 0) (a2 0) (a3 0) (aH 0) (aS 0) v0, cM E a0 v1, cH E aH (h0 0) (h1 0) (h2 0) (h3 0) v5, cS E aS v10]) ((p_pk _ 0 _ rfl).trans (List.Perm.cons _ ((p_pk _ 0 _ rfl).trans (List.Perm.cons _ ((p_pk _ 3 _ rfl).trans (List.Perm.cons _ ((p_pk _ 7 _ rfl).trans (List.Perm.cons _ (List.Perm.refl _)))))))))) hl.1 0 6 rfl rfl (c_X6_count l E aG a0 a1 a2 a3 aH h0 h1 h2 h3 aS h) 1 gL_law_X6_count rfl ⟨rfl, rfl⟩ (by decide +kernel) ⟨Nat.le_of_ble_eq_true rfl, Nat.le_of_ble_eq_true rfl⟩ rfl rfl (Nat.le_of_ble_eq_true rfl) dL_law_703 ⟨Nat.le_of_ble_eq_true rfl, Nat.le_of_ble_eq_true rfl⟩ (fun r_187 u_195 H locs h hw => ?_)
        obtain ⟨v_188, v_189, v_190, v_191⟩ := u_195
        replace hw : mw E A s.heap H locs (List.flatten [cG aG (a0 0) (a1 0) (a2 0) (a3 0) (aH 0) (aS 0) v_188, cM E a0 v_189, cM E a1 v2, cM E a2 v3, cM E a3 v4, cH E aH (h0 0) (h1 0) (h2 0) (h3 0) v_190, cM E h0 v6, cM E h1 v7, cM E h2 v8, cM E h3 v9, cS E aS v_191, cR E aR v11]) := hw.perm (p_bk (ds := [cG aG (a0 0) (a1 0) (a2 0) (a3 0) (aH 0) (aS 0) v_188, cM E a0 v_189, cH E aH (h0 0) (h1 0) (h2 0) (h3 0) v_190, cS E aS v_191]) ((p_pk _ 0 _ rfl).trans (List.Perm.cons _ ((p_pk _ 0 _ rfl).trans (List.Perm.cons _ ((p_pk _ 3 _ rfl).trans (List.Perm.cons _ ((p_pk _ 7 _ rfl).trans (List.Perm.cons _ (List.Perm.refl _))))))))))
        refine lv_aload_n hx hb dL_law_706 rfl (lv_at hl 2 rfl) ?_
        refine lv_aload_n hx hb dL_law_707 rfl (lv_at hl 0 rfl) ?_
        refine lv_iload_n hx hb dL_law_708 rfl (lv_at hl 3 rfl) ?_
        refine lv_iconst (v := 1) hx hb dL_law_709 (by decide) ?_
        refine lv_iadd hx hb dL_law_710 ?_
        obtain ⟨hin, h⟩ := h
        refine va_sld hx hb hX hbl hbA hw.2.2 hin dL_law_711 ?_
        refine x_cV (As := [.int (xs (tn (x3 + 1)))]) (rest := [.int r_187]) (F := (List.flatten [cG aG (a0 0) (a1 0) (a2 0) (a3 0) (aH 0) (aS 0) v_188, cM E a0 v_189, cM E a1 v2, cM E a2 v3, cM E a3 v4, cH E aH (h0 0) (h1 0) (h2 0) (h3 0) v_190, cM E h0 v6, cM E h1 v7, cM E h2 v8, cM E h3 v9, cS E aS v_191])) C0 hw (p_fl1 ((p_pk _ 11 _ rfl).trans (List.Perm.cons _ (List.Perm.refl _)))) hl.1 190 7 rfl rfl (c_X7_count l E aR h) 1 gL_law_X7_count rfl ⟨rfl, rfl⟩ (by decide +kernel) ⟨Nat.le_of_ble_eq_true rfl, Nat.le_of_ble_eq_true rfl⟩ rfl rfl (Nat.le_of_ble_eq_true rfl) dL_law_712 ⟨Nat.le_of_ble_eq_true rfl, Nat.le_of_ble_eq_true rfl⟩ (fun r_192 v_193 H locs h hw => ?_)
        replace hw : mw E A s.heap H locs (List.flatten [cG aG (a0 0) (a1 0) (a2 0) (a3 0) (aH 0) (aS 0) v_188, cM E a0 v_189, cM E a1 v2, cM E a2 v3, cM E a3 v4, cH E aH (h0 0) (h1 0) (h2 0) (h3 0) v_190, cM E h0 v6, cM E h1 v7, cM E h2 v8, cM E h3 v9, cS E aS v_191, cR E aR v_193]) := hw.perm (p_bk1 ((p_pk _ 11 _ rfl).trans (List.Perm.cons _ (List.Perm.refl _))))
        refine lv_icmp_eq (tgt := 920) hx hb dL_law_715 (by decide) (fun c_194 => ?_) (fun c_194 => ?_)
        · replace h := h.1 c_194
          refine lv_iinc (v := (x3 + 5)) (lv' := [(3, .int (x3 + 5)), (0, .ref b), (1, .ref (aG 0)), (2, .ref (aR 0))]) hx hb dL_law_920 hl (k := 3) rfl rfl (by decide) rfl (fun ls hl => ?_)
          refine lv_goto (tgt := 18) hx hb dL_law_923 (by decide) ?_
          exact ih _ _ _ _ _ _ _ _ _ _ _ _ _ h _ _ _ hw (lv_sub hl [1, 2, 3, 0] rfl) hk0
        · replace h := h.2 c_194
          refine lv_iconst (v := 0) hx hb dL_law_718 (by decide) ?_
          exact False.elim h
      replace h := h.2
      by_cases c_204 : ((xs (tn x3)) &&& 31) = 16
      · replace h := h.1 c_204
        refine x_tabIn (tgt := 720) C0 16 c_204 dL_law_32 (by decide) (by decide) rfl (by decide) ?_
        refine lv_aload_n hx hb dL_law_720 rfl (lv_at hl 1 rfl) ?_
        refine lv_aload_n hx hb dL_law_721 rfl (lv_at hl 0 rfl) ?_
        refine lv_iload_n hx hb dL_law_722 rfl (lv_at hl 3 rfl) ?_
        refine lv_iconst (v := 1) hx hb dL_law_723 (by decide) ?_
        refine lv_iadd hx hb dL_law_724 ?_
        obtain ⟨hin, h⟩ := h
        refine va_sld hx hb hX hbl hbA hw.2.2 hin dL_law_725 ?_
        refine lv_aload_n hx hb dL_law_726 rfl (lv_at hl 0 rfl) ?_
        refine lv_iload_n hx hb dL_law_727 rfl (lv_at hl 3 rfl) ?_
        refine lv_iconst (v := 2) hx hb dL_law_728 (by decide) ?_
        refine lv_iadd hx hb dL_law_729 ?_
        obtain ⟨hin, h⟩ := h
        refine va_sld hx hb hX hbl hbA hw.2.2 hin dL_law_730 ?_
        refine x_cV (As := [.int (xs (tn (x3 + 1))), .int (xs (tn (x3 + 2)))]) (rest := []) (F := (List.flatten [cM E a1 v2, cM E a2 v3, cM E a3 v4, cH E aH (h0 0) (h1 0) (h2 0) (h3 0) v5, cM E h0 v6, cM E h1 v7, cM E h2 v8, cM E h3 v9, cS E aS v10, cR E aR v11])) C0 hw (p_fl (ds := [cG aG (a0 0) (a1 0) (a2 0) (a3 0) (aH 0) (aS 0) v0, cM E a0 v1]) (List.Perm.refl _)) hl.1 0 6 rfl rfl (c_X6_best l E aG a0 a1 a2 a3 aH h0 h1 h2 h3 aS h) 2 gL_law_X6_best rfl ⟨rfl, rfl⟩ (by decide +kernel) ⟨Nat.le_of_ble_eq_true rfl, Nat.le_of_ble_eq_true rfl⟩ rfl rfl (Nat.le_of_ble_eq_true rfl) dL_law_731 ⟨Nat.le_of_ble_eq_true rfl, Nat.le_of_ble_eq_true rfl⟩ (fun r_197 u_203 H locs h hw => ?_)
        obtain ⟨v_198, v_199⟩ := u_203
        replace hw : mw E A s.heap H locs (List.flatten [cG aG (a0 0) (a1 0) (a2 0) (a3 0) (aH 0) (aS 0) v_198, cM E a0 v_199, cM E a1 v2, cM E a2 v3, cM E a3 v4, cH E aH (h0 0) (h1 0) (h2 0) (h3 0) v5, cM E h0 v6, cM E h1 v7, cM E h2 v8, cM E h3 v9, cS E aS v10, cR E aR v11]) := hw.perm (p_bk (ds := [cG aG (a0 0) (a1 0) (a2 0) (a3 0) (aH 0) (aS 0) v_198, cM E a0 v_199]) (List.Perm.refl _))
        refine lv_aload_n hx hb dL_law_734 rfl (lv_at hl 2 rfl) ?_
        refine lv_aload_n hx hb dL_law_735 rfl (lv_at hl 0 rfl) ?_
        refine lv_iload_n hx hb dL_law_736 rfl (lv_at hl 3 rfl) ?_
        refine lv_iconst (v := 1) hx hb dL_law_737 (by decide) ?_
        refine lv_iadd hx hb dL_law_738 ?_
        obtain ⟨hin, h⟩ := h
        refine va_sld hx hb hX hbl hbA hw.2.2 hin dL_law_739 ?_
        refine lv_aload_n hx hb dL_law_740 rfl (lv_at hl 0 rfl) ?_
        refine lv_iload_n hx hb dL_law_741 rfl (lv_at hl 3 rfl) ?_
        refine lv_iconst (v := 2) hx hb dL_law_742 (by decide) ?_
        refine lv_iadd hx hb dL_law_743 ?_
        obtain ⟨hin, h⟩ := h
        refine va_sld hx hb hX hbl hbA hw.2.2 hin dL_law_744 ?_
        refine x_cV (As := [.int (xs (tn (x3 + 1))), .int (xs (tn (x3 + 2)))]) (rest := [.int r_197]) (F := (List.flatten [cG aG (a0 0) (a1 0) (a2 0) (a3 0) (aH 0) (aS 0) v_198, cM E a0 v_199, cM E a1 v2, cM E a2 v3, cM E a3 v4, cH E aH (h0 0) (h1 0) (h2 0) (h3 0) v5, cM E h0 v6, cM E h1 v7, cM E h2 v8, cM E h3 v9, cS E aS v10])) C0 hw (p_fl1 ((p_pk _ 11 _ rfl).trans (List.Perm.cons _ (List.Perm.refl _)))) hl.1 190 7 rfl rfl (c_X7_best l E aR h) 2 gL_law_X7_best rfl ⟨rfl, rfl⟩ (by decide +kernel) ⟨Nat.le_of_ble_eq_true rfl, Nat.le_of_ble_eq_true rfl⟩ rfl rfl (Nat.le_of_ble_eq_true rfl) dL_law_745 ⟨Nat.le_of_ble_eq_true rfl, Nat.le_of_ble_eq_true rfl⟩ (fun r_200 v_201 H locs h hw => ?_)
        replace hw : mw E A s.heap H locs (List.flatten [cG aG (a0 0) (a1 0) (a2 0) (a3 0) (aH 0) (aS 0) v_198, cM E a0 v_199, cM E a1 v2, cM E a2 v3, cM E a3 v4, cH E aH (h0 0) (h1 0) (h2 0) (h3 0) v5, cM E h0 v6, cM E h1 v7, cM E h2 v8, cM E h3 v9, cS E aS v10, cR E aR v_201]) := hw.perm (p_bk1 ((p_pk _ 11 _ rfl).trans (List.Perm.cons _ (List.Perm.refl _))))
        refine lv_icmp_eq (tgt := 920) hx hb dL_law_748 (by decide) (fun c_202 => ?_) (fun c_202 => ?_)
        · replace h := h.1 c_202
          refine lv_iinc (v := (x3 + 5)) (lv' := [(3, .int (x3 + 5)), (0, .ref b), (1, .ref (aG 0)), (2, .ref (aR 0))]) hx hb dL_law_920 hl (k := 3) rfl rfl (by decide) rfl (fun ls hl => ?_)
          refine lv_goto (tgt := 18) hx hb dL_law_923 (by decide) ?_
          exact ih _ _ _ _ _ _ _ _ _ _ _ _ _ h _ _ _ hw (lv_sub hl [1, 2, 3, 0] rfl) hk0
        · replace h := h.2 c_202
          refine lv_iconst (v := 0) hx hb dL_law_751 (by decide) ?_
          exact False.elim h
      replace h := h.2
      by_cases c_212 : ((xs (tn x3)) &&& 31) = 17
      · replace h := h.1 c_212
        refine x_tabIn (tgt := 753) C0 17 c_212 dL_law_32 (by decide) (by decide) rfl (by decide) ?_
        refine lv_aload_n hx hb dL_law_753 rfl (lv_at hl 1 rfl) ?_
        refine lv_aload_n hx hb dL_law_754 rfl (lv_at hl 0 rfl) ?_
        refine lv_iload_n hx hb dL_law_755 rfl (lv_at hl 3 rfl) ?_
        refine lv_iconst (v := 1) hx hb dL_law_756 (by decide) ?_
        refine lv_iadd hx hb dL_law_757 ?_
        obtain ⟨hin, h⟩ := h
        refine va_sld hx hb hX hbl hbA hw.2.2 hin dL_law_758 ?_
        refine lv_aload_n hx hb dL_law_759 rfl (lv_at hl 0 rfl) ?_
        refine lv_iload_n hx hb dL_law_760 rfl (lv_at hl 3 rfl) ?_
        refine lv_iconst (v := 2) hx hb dL_law_761 (by decide) ?_
        refine lv_iadd hx hb dL_law_762 ?_
        obtain ⟨hin, h⟩ := h
        refine va_sld hx hb hX hbl hbA hw.2.2 hin dL_law_763 ?_
        refine x_cV (As := [.int (xs (tn (x3 + 1))), .int (xs (tn (x3 + 2)))]) (rest := []) (F := (List.flatten [cM E a1 v2, cM E a2 v3, cM E a3 v4, cH E aH (h0 0) (h1 0) (h2 0) (h3 0) v5, cM E h0 v6, cM E h1 v7, cM E h2 v8, cM E h3 v9, cS E aS v10, cR E aR v11])) C0 hw (p_fl (ds := [cG aG (a0 0) (a1 0) (a2 0) (a3 0) (aH 0) (aS 0) v0, cM E a0 v1]) (List.Perm.refl _)) hl.1 0 6 rfl rfl (c_X6_pair l E aG a0 a1 a2 a3 aH h0 h1 h2 h3 aS h) 2 gL_law_X6_pair rfl ⟨rfl, rfl⟩ (by decide +kernel) ⟨Nat.le_of_ble_eq_true rfl, Nat.le_of_ble_eq_true rfl⟩ rfl rfl (Nat.le_of_ble_eq_true rfl) dL_law_764 ⟨Nat.le_of_ble_eq_true rfl, Nat.le_of_ble_eq_true rfl⟩ (fun r_205 u_211 H locs h hw => ?_)
        obtain ⟨v_206, v_207⟩ := u_211
        replace hw : mw E A s.heap H locs (List.flatten [cG aG (a0 0) (a1 0) (a2 0) (a3 0) (aH 0) (aS 0) v_206, cM E a0 v_207, cM E a1 v2, cM E a2 v3, cM E a3 v4, cH E aH (h0 0) (h1 0) (h2 0) (h3 0) v5, cM E h0 v6, cM E h1 v7, cM E h2 v8, cM E h3 v9, cS E aS v10, cR E aR v11]) := hw.perm (p_bk (ds := [cG aG (a0 0) (a1 0) (a2 0) (a3 0) (aH 0) (aS 0) v_206, cM E a0 v_207]) (List.Perm.refl _))
        refine lv_aload_n hx hb dL_law_767 rfl (lv_at hl 2 rfl) ?_
        refine lv_aload_n hx hb dL_law_768 rfl (lv_at hl 0 rfl) ?_
        refine lv_iload_n hx hb dL_law_769 rfl (lv_at hl 3 rfl) ?_
        refine lv_iconst (v := 1) hx hb dL_law_770 (by decide) ?_
        refine lv_iadd hx hb dL_law_771 ?_
        obtain ⟨hin, h⟩ := h
        refine va_sld hx hb hX hbl hbA hw.2.2 hin dL_law_772 ?_
        refine lv_aload_n hx hb dL_law_773 rfl (lv_at hl 0 rfl) ?_
        refine lv_iload_n hx hb dL_law_774 rfl (lv_at hl 3 rfl) ?_
        refine lv_iconst (v := 2) hx hb dL_law_775 (by decide) ?_
        refine lv_iadd hx hb dL_law_776 ?_
        obtain ⟨hin, h⟩ := h
        refine va_sld hx hb hX hbl hbA hw.2.2 hin dL_law_777 ?_
        refine x_cV (As := [.int (xs (tn (x3 + 1))), .int (xs (tn (x3 + 2)))]) (rest := [.int r_205]) (F := (List.flatten [cG aG (a0 0) (a1 0) (a2 0) (a3 0) (aH 0) (aS 0) v_206, cM E a0 v_207, cM E a1 v2, cM E a2 v3, cM E a3 v4, cH E aH (h0 0) (h1 0) (h2 0) (h3 0) v5, cM E h0 v6, cM E h1 v7, cM E h2 v8, cM E h3 v9, cS E aS v10])) C0 hw (p_fl1 ((p_pk _ 11 _ rfl).trans (List.Perm.cons _ (List.Perm.refl _)))) hl.1 190 7 rfl rfl (c_X7_pair l E aR h) 2 gL_law_X7_pair rfl ⟨rfl, rfl⟩ (by decide +kernel) ⟨Nat.le_of_ble_eq_true rfl, Nat.le_of_ble_eq_true rfl⟩ rfl rfl (Nat.le_of_ble_eq_true rfl) dL_law_778 ⟨Nat.le_of_ble_eq_true rfl, Nat.le_of_ble_eq_true rfl⟩ (fun r_208 v_209 H locs h hw => ?_)
        replace hw : mw E A s.heap H locs (List.flatten [cG aG (a0 0) (a1 0) (a2 0) (a3 0) (aH 0) (aS 0) v_206, cM E a0 v_207, cM E a1 v2, cM E a2 v3, cM E a3 v4, cH E aH (h0 0) (h1 0) (h2 0) (h3 0) v5, cM E h0 v6, cM E h1 v7, cM E h2 v8, cM E h3 v9, cS E aS v10, cR E aR v_209]) := hw.perm (p_bk1 ((p_pk _ 11 _ rfl).trans (List.Perm.cons _ (List.Perm.refl _))))
        refine lv_icmp_eq (tgt := 920) hx hb dL_law_781 (by decide) (fun c_210 => ?_) (fun c_210 => ?_)
        · replace h := h.1 c_210
          refine lv_iinc (v := (x3 + 5)) (lv' := [(3, .int (x3 + 5)), (0, .ref b), (1, .ref (aG 0)), (2, .ref (aR 0))]) hx hb dL_law_920 hl (k := 3) rfl rfl (by decide) rfl (fun ls hl => ?_)
          refine lv_goto (tgt := 18) hx hb dL_law_923 (by decide) ?_
          exact ih _ _ _ _ _ _ _ _ _ _ _ _ _ h _ _ _ hw (lv_sub hl [1, 2, 3, 0] rfl) hk0
        · replace h := h.2 c_210
          refine lv_iconst (v := 0) hx hb dL_law_784 (by decide) ?_
          exact False.elim h
      replace h := h.2
      by_cases c_220 : ((xs (tn x3)) &&& 31) = 18
      · replace h := h.1 c_220
        refine x_tabIn (tgt := 786) C0 18 c_220 dL_law_32 (by decide) (by decide) rfl (by decide) ?_
        refine lv_aload_n hx hb dL_law_786 rfl (lv_at hl 1 rfl) ?_
        refine lv_aload_n hx hb dL_law_787 rfl (lv_at hl 0 rfl) ?_
        refine lv_iload_n hx hb dL_law_788 rfl (lv_at hl 3 rfl) ?_
        refine lv_iconst (v := 1) hx hb dL_law_789 (by decide) ?_
        refine lv_iadd hx hb dL_law_790 ?_
        obtain ⟨hin, h⟩ := h
        refine va_sld hx hb hX hbl hbA hw.2.2 hin dL_law_791 ?_
        refine x_cV (As := [.int (xs (tn (x3 + 1)))]) (rest := []) (F := (List.flatten [cM E a1 v2, cM E a2 v3, cM E a3 v4, cH E aH (h0 0) (h1 0) (h2 0) (h3 0) v5, cM E h0 v6, cM E h1 v7, cM E h2 v8, cM E h3 v9, cS E aS v10, cR E aR v11])) C0 hw (p_fl (ds := [cG aG (a0 0) (a1 0) (a2 0) (a3 0) (aH 0) (aS 0) v0, cM E a0 v1]) (List.Perm.refl _)) hl.1 0 6 rfl rfl (c_X6_grades l E aG a0 a1 a2 a3 aH h0 h1 h2 h3 aS h) 1 gL_law_X6_grades rfl ⟨rfl, rfl⟩ (by decide +kernel) ⟨Nat.le_of_ble_eq_true rfl, Nat.le_of_ble_eq_true rfl⟩ rfl rfl (Nat.le_of_ble_eq_true rfl) dL_law_792 ⟨Nat.le_of_ble_eq_true rfl, Nat.le_of_ble_eq_true rfl⟩ (fun r_213 u_219 H locs h hw => ?_)
        obtain ⟨v_214, v_215⟩ := u_219
        replace hw : mw E A s.heap H locs (List.flatten [cG aG (a0 0) (a1 0) (a2 0) (a3 0) (aH 0) (aS 0) v_214, cM E a0 v_215, cM E a1 v2, cM E a2 v3, cM E a3 v4, cH E aH (h0 0) (h1 0) (h2 0) (h3 0) v5, cM E h0 v6, cM E h1 v7, cM E h2 v8, cM E h3 v9, cS E aS v10, cR E aR v11]) := hw.perm (p_bk (ds := [cG aG (a0 0) (a1 0) (a2 0) (a3 0) (aH 0) (aS 0) v_214, cM E a0 v_215]) (List.Perm.refl _))
        refine lv_aload_n hx hb dL_law_795 rfl (lv_at hl 2 rfl) ?_
        refine lv_aload_n hx hb dL_law_796 rfl (lv_at hl 0 rfl) ?_
        refine lv_iload_n hx hb dL_law_797 rfl (lv_at hl 3 rfl) ?_
        refine lv_iconst (v := 1) hx hb dL_law_798 (by decide) ?_
        refine lv_iadd hx hb dL_law_799 ?_
        obtain ⟨hin, h⟩ := h
        refine va_sld hx hb hX hbl hbA hw.2.2 hin dL_law_800 ?_
        refine x_cV (As := [.int (xs (tn (x3 + 1)))]) (rest := [.int r_213]) (F := (List.flatten [cG aG (a0 0) (a1 0) (a2 0) (a3 0) (aH 0) (aS 0) v_214, cM E a0 v_215, cM E a1 v2, cM E a2 v3, cM E a3 v4, cH E aH (h0 0) (h1 0) (h2 0) (h3 0) v5, cM E h0 v6, cM E h1 v7, cM E h2 v8, cM E h3 v9, cS E aS v10])) C0 hw (p_fl1 ((p_pk _ 11 _ rfl).trans (List.Perm.cons _ (List.Perm.refl _)))) hl.1 190 7 rfl rfl (c_X7_grades l E aR h) 1 gL_law_X7_grades rfl ⟨rfl, rfl⟩ (by decide +kernel) ⟨Nat.le_of_ble_eq_true rfl, Nat.le_of_ble_eq_true rfl⟩ rfl rfl (Nat.le_of_ble_eq_true rfl) dL_law_801 ⟨Nat.le_of_ble_eq_true rfl, Nat.le_of_ble_eq_true rfl⟩ (fun r_216 v_217 H locs h hw => ?_)
        replace hw : mw E A s.heap H locs (List.flatten [cG aG (a0 0) (a1 0) (a2 0) (a3 0) (aH 0) (aS 0) v_214, cM E a0 v_215, cM E a1 v2, cM E a2 v3, cM E a3 v4, cH E aH (h0 0) (h1 0) (h2 0) (h3 0) v5, cM E h0 v6, cM E h1 v7, cM E h2 v8, cM E h3 v9, cS E aS v10, cR E aR v_217]) := hw.perm (p_bk1 ((p_pk _ 11 _ rfl).trans (List.Perm.cons _ (List.Perm.refl _))))
        refine lv_icmp_eq (tgt := 920) hx hb dL_law_804 (by decide) (fun c_218 => ?_) (fun c_218 => ?_)
        · replace h := h.1 c_218
          refine lv_iinc (v := (x3 + 5)) (lv' := [(3, .int (x3 + 5)), (0, .ref b), (1, .ref (aG 0)), (2, .ref (aR 0))]) hx hb dL_law_920 hl (k := 3) rfl rfl (by decide) rfl (fun ls hl => ?_)
          refine lv_goto (tgt := 18) hx hb dL_law_923 (by decide) ?_
          exact ih _ _ _ _ _ _ _ _ _ _ _ _ _ h _ _ _ hw (lv_sub hl [1, 2, 3, 0] rfl) hk0
        · replace h := h.2 c_218
          refine lv_iconst (v := 0) hx hb dL_law_807 (by decide) ?_
          exact False.elim h
      replace h := h.2
      by_cases c_229 : ((xs (tn x3)) &&& 31) = 19
      · replace h := h.1 c_229
        refine x_tabIn (tgt := 809) C0 19 c_229 dL_law_32 (by decide) (by decide) rfl (by decide) ?_
        refine lv_aload_n hx hb dL_law_809 rfl (lv_at hl 1 rfl) ?_
        refine x_cV (As := []) (rest := []) (F := (List.flatten [cM E a1 v2, cM E a2 v3, cH E aH (h0 0) (h1 0) (h2 0) (h3 0) v5, cM E h0 v6, cM E h1 v7, cM E h2 v8, cM E h3 v9, cS E aS v10, cR E aR v11])) C0 hw (p_fl (ds := [cG aG (a0 0) (a1 0) (a2 0) (a3 0) (aH 0) (aS 0) v0, cM E a0 v1, cM E a3 v4]) ((p_pk _ 0 _ rfl).trans (List.Perm.cons _ ((p_pk _ 0 _ rfl).trans (List.Perm.cons _ ((p_pk _ 2 _ rfl).trans (List.Perm.cons _ (List.Perm.refl _)))))))) hl.1 0 6 rfl rfl (c_X6_mark l E aG a0 a1 a2 a3 aH h0 h1 h2 h3 aS h) 0 gL_law_X6_mark rfl ⟨rfl, rfl⟩ (by decide +kernel) ⟨Nat.le_of_ble_eq_true rfl, Nat.le_of_ble_eq_true rfl⟩ rfl rfl (Nat.le_of_ble_eq_true rfl) dL_law_810 ⟨Nat.le_of_ble_eq_true rfl, Nat.le_of_ble_eq_true rfl⟩ (fun r_221 u_228 H locs h hw => ?_)
        obtain ⟨v_222, v_223, v_224⟩ := u_228
        replace hw : mw E A s.heap H locs (List.flatten [cG aG (a0 0) (a1 0) (a2 0) (a3 0) (aH 0) (aS 0) v_222, cM E a0 v_223, cM E a1 v2, cM E a2 v3, cM E a3 v_224, cH E aH (h0 0) (h1 0) (h2 0) (h3 0) v5, cM E h0 v6, cM E h1 v7, cM E h2 v8, cM E h3 v9, cS E aS v10, cR E aR v11]) := hw.perm (p_bk (ds := [cG aG (a0 0) (a1 0) (a2 0) (a3 0) (aH 0) (aS 0) v_222, cM E a0 v_223, cM E a3 v_224]) ((p_pk _ 0 _ rfl).trans (List.Perm.cons _ ((p_pk _ 0 _ rfl).trans (List.Perm.cons _ ((p_pk _ 2 _ rfl).trans (List.Perm.cons _ (List.Perm.refl _))))))))
        refine lv_aload_n hx hb dL_law_813 rfl (lv_at hl 2 rfl) ?_
        refine x_cV (As := []) (rest := [.int r_221]) (F := (List.flatten [cG aG (a0 0) (a1 0) (a2 0) (a3 0) (aH 0) (aS 0) v_222, cM E a0 v_223, cM E a1 v2, cM E a2 v3, cM E a3 v_224, cH E aH (h0 0) (h1 0) (h2 0) (h3 0) v5, cM E h0 v6, cM E h1 v7, cM E h2 v8, cM E h3 v9, cS E aS v10])) C0 hw (p_fl1 ((p_pk _ 11 _ rfl).trans (List.Perm.cons _ (List.Perm.refl _)))) hl.1 190 7 rfl rfl (c_X7_mark l E aR h) 0 gL_law_X7_mark rfl ⟨rfl, rfl⟩ (by decide +kernel) ⟨Nat.le_of_ble_eq_true rfl, Nat.le_of_ble_eq_true rfl⟩ rfl rfl (Nat.le_of_ble_eq_true rfl) dL_law_814 ⟨Nat.le_of_ble_eq_true rfl, Nat.le_of_ble_eq_true rfl⟩ (fun r_225 v_226 H locs h hw => ?_)
        replace hw : mw E A s.heap H locs (List.flatten [cG aG (a0 0) (a1 0) (a2 0) (a3 0) (aH 0) (aS 0) v_222, cM E a0 v_223, cM E a1 v2, cM E a2 v3, cM E a3 v_224, cH E aH (h0 0) (h1 0) (h2 0) (h3 0) v5, cM E h0 v6, cM E h1 v7, cM E h2 v8, cM E h3 v9, cS E aS v10, cR E aR v_226]) := hw.perm (p_bk1 ((p_pk _ 11 _ rfl).trans (List.Perm.cons _ (List.Perm.refl _))))
        refine lv_icmp_eq (tgt := 920) hx hb dL_law_817 (by decide) (fun c_227 => ?_) (fun c_227 => ?_)
        · replace h := h.1 c_227
          refine lv_iinc (v := (x3 + 5)) (lv' := [(3, .int (x3 + 5)), (0, .ref b), (1, .ref (aG 0)), (2, .ref (aR 0))]) hx hb dL_law_920 hl (k := 3) rfl rfl (by decide) rfl (fun ls hl => ?_)
          refine lv_goto (tgt := 18) hx hb dL_law_923 (by decide) ?_
          exact ih _ _ _ _ _ _ _ _ _ _ _ _ _ h _ _ _ hw (lv_sub hl [1, 2, 3, 0] rfl) hk0
        · replace h := h.2 c_227
          refine lv_iconst (v := 0) hx hb dL_law_820 (by decide) ?_
          exact False.elim h
      replace h := h.2
      by_cases c_243 : ((xs (tn x3)) &&& 31) = 20
      · replace h := h.1 c_243
        refine x_tabIn (tgt := 822) C0 20 c_243 dL_law_32 (by decide) (by decide) rfl (by decide) ?_
        refine lv_aload_n hx hb dL_law_822 rfl (lv_at hl 1 rfl) ?_
        refine x_cV (As := []) (rest := []) (F := (List.flatten [cM E a1 v2, cM E a2 v3, cS E aS v10, cR E aR v11])) C0 hw (p_fl (ds := [cG aG (a0 0) (a1 0) (a2 0) (a3 0) (aH 0) (aS 0) v0, cM E a0 v1, cM E a3 v4, cH E aH (h0 0) (h1 0) (h2 0) (h3 0) v5, cM E h0 v6, cM E h1 v7, cM E h2 v8, cM E h3 v9]) ((p_pk _ 0 _ rfl).trans (List.Perm.cons _ ((p_pk _ 0 _ rfl).trans (List.Perm.cons _ ((p_pk _ 2 _ rfl).trans (List.Perm.cons _ ((p_pk _ 2 _ rfl).trans (List.Perm.cons _ ((p_pk _ 2 _ rfl).trans (List.Perm.cons _ ((p_pk _ 2 _ rfl).trans (List.Perm.cons _ ((p_pk _ 2 _ rfl).trans (List.Perm.cons _ ((p_pk _ 2 _ rfl).trans (List.Perm.cons _ (List.Perm.refl _)))))))))))))))))) hl.1 0 6 rfl rfl (c_X6_restore l E aG a0 a1 a2 a3 aH h0 h1 h2 h3 aS h) 0 gL_law_X6_restore rfl ⟨rfl, rfl⟩ (by decide +kernel) ⟨Nat.le_of_ble_eq_true rfl, Nat.le_of_ble_eq_true rfl⟩ rfl rfl (Nat.le_of_ble_eq_true rfl) dL_law_823 ⟨Nat.le_of_ble_eq_true rfl, Nat.le_of_ble_eq_true rfl⟩ (fun r_230 u_242 H locs h hw => ?_)
        obtain ⟨v_231, v_232, v_233, v_234, v_235, v_236, v_237, v_238⟩ := u_242
        replace hw : mw E A s.heap H locs (List.flatten [cG aG (a0 0) (a1 0) (a2 0) (a3 0) (aH 0) (aS 0) v_231, cM E a0 v_232, cM E a1 v2, cM E a2 v3, cM E a3 v_233, cH E aH (h0 0) (h1 0) (h2 0) (h3 0) v_234, cM E h0 v_235, cM E h1 v_236, cM E h2 v_237, cM E h3 v_238, cS E aS v10, cR E aR v11]) := hw.perm (p_bk (ds := [cG aG (a0 0) (a1 0) (a2 0) (a3 0) (aH 0) (aS 0) v_231, cM E a0 v_232, cM E a3 v_233, cH E aH (h0 0) (h1 0) (h2 0) (h3 0) v_234, cM E h0 v_235, cM E h1 v_236, cM E h2 v_237, cM E h3 v_238]) ((p_pk _ 0 _ rfl).trans (List.Perm.cons _ ((p_pk _ 0 _ rfl).trans (List.Perm.cons _ ((p_pk _ 2 _ rfl).trans (List.Perm.cons _ ((p_pk _ 2 _ rfl).trans (List.Perm.cons _ ((p_pk _ 2 _ rfl).trans (List.Perm.cons _ ((p_pk _ 2 _ rfl).trans (List.Perm.cons _ ((p_pk _ 2 _ rfl).trans (List.Perm.cons _ ((p_pk _ 2 _ rfl).trans (List.Perm.cons _ (List.Perm.refl _))))))))))))))))))
        refine lv_aload_n hx hb dL_law_826 rfl (lv_at hl 2 rfl) ?_
        refine x_cV (As := []) (rest := [.int r_230]) (F := (List.flatten [cG aG (a0 0) (a1 0) (a2 0) (a3 0) (aH 0) (aS 0) v_231, cM E a0 v_232, cM E a1 v2, cM E a2 v3, cM E a3 v_233, cH E aH (h0 0) (h1 0) (h2 0) (h3 0) v_234, cM E h0 v_235, cM E h1 v_236, cM E h2 v_237, cM E h3 v_238, cS E aS v10])) C0 hw (p_fl1 ((p_pk _ 11 _ rfl).trans (List.Perm.cons _ (List.Perm.refl _)))) hl.1 190 7 rfl rfl (c_X7_restore l E aR h) 0 gL_law_X7_restore rfl ⟨rfl, rfl⟩ (by decide +kernel) ⟨Nat.le_of_ble_eq_true rfl, Nat.le_of_ble_eq_true rfl⟩ rfl rfl (Nat.le_of_ble_eq_true rfl) dL_law_827 ⟨Nat.le_of_ble_eq_true rfl, Nat.le_of_ble_eq_true rfl⟩ (fun r_239 v_240 H locs h hw => ?_)
        replace hw : mw E A s.heap H locs (List.flatten [cG aG (a0 0) (a1 0) (a2 0) (a3 0) (aH 0) (aS 0) v_231, cM E a0 v_232, cM E a1 v2, cM E a2 v3, cM E a3 v_233, cH E aH (h0 0) (h1 0) (h2 0) (h3 0) v_234, cM E h0 v_235, cM E h1 v_236, cM E h2 v_237, cM E h3 v_238, cS E aS v10, cR E aR v_240]) := hw.perm (p_bk1 ((p_pk _ 11 _ rfl).trans (List.Perm.cons _ (List.Perm.refl _))))
        refine lv_icmp_eq (tgt := 920) hx hb dL_law_830 (by decide) (fun c_241 => ?_) (fun c_241 => ?_)
        · replace h := h.1 c_241
          refine lv_iinc (v := (x3 + 5)) (lv' := [(3, .int (x3 + 5)), (0, .ref b), (1, .ref (aG 0)), (2, .ref (aR 0))]) hx hb dL_law_920 hl (k := 3) rfl rfl (by decide) rfl (fun ls hl => ?_)
          refine lv_goto (tgt := 18) hx hb dL_law_923 (by decide) ?_
          exact ih _ _ _ _ _ _ _ _ _ _ _ _ _ h _ _ _ hw (lv_sub hl [1, 2, 3, 0] rfl) hk0
        · replace h := h.2 c_241
          refine lv_iconst (v := 0) hx hb dL_law_833 (by decide) ?_
          exact False.elim h
      replace h := h.2
      by_cases c_256 : ((xs (tn x3)) &&& 31) = 21
      · replace h := h.1 c_256
        refine x_tabIn (tgt := 835) C0 21 c_256 dL_law_32 (by decide) (by decide) rfl (by decide) ?_
        refine lv_aload_n hx hb dL_law_835 rfl (lv_at hl 1 rfl) ?_
        refine x_cV (As := []) (rest := []) (F := (List.flatten [cM E a1 v2, cM E a2 v3, cM E a3 v4, cS E aS v10, cR E aR v11])) C0 hw (p_fl (ds := [cG aG (a0 0) (a1 0) (a2 0) (a3 0) (aH 0) (aS 0) v0, cM E a0 v1, cH E aH (h0 0) (h1 0) (h2 0) (h3 0) v5, cM E h0 v6, cM E h1 v7, cM E h2 v8, cM E h3 v9]) ((p_pk _ 0 _ rfl).trans (List.Perm.cons _ ((p_pk _ 0 _ rfl).trans (List.Perm.cons _ ((p_pk _ 3 _ rfl).trans (List.Perm.cons _ ((p_pk _ 3 _ rfl).trans (List.Perm.cons _ ((p_pk _ 3 _ rfl).trans (List.Perm.cons _ ((p_pk _ 3 _ rfl).trans (List.Perm.cons _ ((p_pk _ 3 _ rfl).trans (List.Perm.cons _ (List.Perm.refl _)))))))))))))))) hl.1 0 6 rfl rfl (c_X6_undo l E aG a0 a1 a2 a3 aH h0 h1 h2 h3 aS h) 0 gL_law_X6_undo rfl ⟨rfl, rfl⟩ (by decide +kernel) ⟨Nat.le_of_ble_eq_true rfl, Nat.le_of_ble_eq_true rfl⟩ rfl rfl (Nat.le_of_ble_eq_true rfl) dL_law_836 ⟨Nat.le_of_ble_eq_true rfl, Nat.le_of_ble_eq_true rfl⟩ (fun r_244 u_255 H locs h hw => ?_)
        obtain ⟨v_245, v_246, v_247, v_248, v_249, v_250, v_251⟩ := u_255
        replace hw : mw E A s.heap H locs (List.flatten [cG aG (a0 0) (a1 0) (a2 0) (a3 0) (aH 0) (aS 0) v_245, cM E a0 v_246, cM E a1 v2, cM E a2 v3, cM E a3 v4, cH E aH (h0 0) (h1 0) (h2 0) (h3 0) v_247, cM E h0 v_248, cM E h1 v_249, cM E h2 v_250, cM E h3 v_251, cS E aS v10, cR E aR v11]) := hw.perm (p_bk (ds := [cG aG (a0 0) (a1 0) (a2 0) (a3 0) (aH 0) (aS 0) v_245, cM E a0 v_246, cH E aH (h0 0) (h1 0) (h2 0) (h3 0) v_247, cM E h0 v_248, cM E h1 v_249, cM E h2 v_250, cM E h3 v_251]) ((p_pk _ 0 _ rfl).trans (List.Perm.cons _ ((p_pk _ 0 _ rfl).trans (List.Perm.cons _ ((p_pk _ 3 _ rfl).trans (List.Perm.cons _ ((p_pk _ 3 _ rfl).trans (List.Perm.cons _ ((p_pk _ 3 _ rfl).trans (List.Perm.cons _ ((p_pk _ 3 _ rfl).trans (List.Perm.cons _ ((p_pk _ 3 _ rfl).trans (List.Perm.cons _ (List.Perm.refl _))))))))))))))))
        refine lv_aload_n hx hb dL_law_839 rfl (lv_at hl 2 rfl) ?_
        refine x_cV (As := []) (rest := [.int r_244]) (F := (List.flatten [cG aG (a0 0) (a1 0) (a2 0) (a3 0) (aH 0) (aS 0) v_245, cM E a0 v_246, cM E a1 v2, cM E a2 v3, cM E a3 v4, cH E aH (h0 0) (h1 0) (h2 0) (h3 0) v_247, cM E h0 v_248, cM E h1 v_249, cM E h2 v_250, cM E h3 v_251, cS E aS v10])) C0 hw (p_fl1 ((p_pk _ 11 _ rfl).trans (List.Perm.cons _ (List.Perm.refl _)))) hl.1 190 7 rfl rfl (c_X7_undo l E aR h) 0 gL_law_X7_undo rfl ⟨rfl, rfl⟩ (by decide +kernel) ⟨Nat.le_of_ble_eq_true rfl, Nat.le_of_ble_eq_true rfl⟩ rfl rfl (Nat.le_of_ble_eq_true rfl) dL_law_840 ⟨Nat.le_of_ble_eq_true rfl, Nat.le_of_ble_eq_true rfl⟩ (fun r_252 v_253 H locs h hw => ?_)
        replace hw : mw E A s.heap H locs (List.flatten [cG aG (a0 0) (a1 0) (a2 0) (a3 0) (aH 0) (aS 0) v_245, cM E a0 v_246, cM E a1 v2, cM E a2 v3, cM E a3 v4, cH E aH (h0 0) (h1 0) (h2 0) (h3 0) v_247, cM E h0 v_248, cM E h1 v_249, cM E h2 v_250, cM E h3 v_251, cS E aS v10, cR E aR v_253]) := hw.perm (p_bk1 ((p_pk _ 11 _ rfl).trans (List.Perm.cons _ (List.Perm.refl _))))
        refine lv_icmp_eq (tgt := 920) hx hb dL_law_843 (by decide) (fun c_254 => ?_) (fun c_254 => ?_)
        · replace h := h.1 c_254
          refine lv_iinc (v := (x3 + 5)) (lv' := [(3, .int (x3 + 5)), (0, .ref b), (1, .ref (aG 0)), (2, .ref (aR 0))]) hx hb dL_law_920 hl (k := 3) rfl rfl (by decide) rfl (fun ls hl => ?_)
          refine lv_goto (tgt := 18) hx hb dL_law_923 (by decide) ?_
          exact ih _ _ _ _ _ _ _ _ _ _ _ _ _ h _ _ _ hw (lv_sub hl [1, 2, 3, 0] rfl) hk0
        · replace h := h.2 c_254
          refine lv_iconst (v := 0) hx hb dL_law_846 (by decide) ?_
          exact False.elim h
      replace h := h.2
      by_cases c_264 : ((xs (tn x3)) &&& 31) = 22
      · replace h := h.1 c_264
        refine x_tabIn (tgt := 848) C0 22 c_264 dL_law_32 (by decide) (by decide) rfl (by decide) ?_
        refine lv_aload_n hx hb dL_law_848 rfl (lv_at hl 1 rfl) ?_
        refine lv_aload_n hx hb dL_law_849 rfl (lv_at hl 0 rfl) ?_
        refine lv_iload_n hx hb dL_law_850 rfl (lv_at hl 3 rfl) ?_
        refine lv_iconst (v := 1) hx hb dL_law_851 (by decide) ?_
        refine lv_iadd hx hb dL_law_852 ?_
        obtain ⟨hin, h⟩ := h
        refine va_sld hx hb hX hbl hbA hw.2.2 hin dL_law_853 ?_
        refine x_cV (As := [.int (xs (tn (x3 + 1)))]) (rest := []) (F := (List.flatten [cM E a0 v1, cM E a1 v2, cM E a2 v3, cM E a3 v4, cH E aH (h0 0) (h1 0) (h2 0) (h3 0) v5, cM E h0 v6, cM E h1 v7, cM E h2 v8, cM E h3 v9, cR E aR v11])) C0 hw (p_fl (ds := [cG aG (a0 0) (a1 0) (a2 0) (a3 0) (aH 0) (aS 0) v0, cS E aS v10]) ((p_pk _ 0 _ rfl).trans (List.Perm.cons _ ((p_pk _ 9 _ rfl).trans (List.Perm.cons _ (List.Perm.refl _)))))) hl.1 0 6 rfl rfl (c_X6_type l E aG a0 a1 a2 a3 aH h0 h1 h2 h3 aS h) 1 gL_law_X6_type rfl ⟨rfl, rfl⟩ (by decide +kernel) ⟨Nat.le_of_ble_eq_true rfl, Nat.le_of_ble_eq_true rfl⟩ rfl rfl (Nat.le_of_ble_eq_true rfl) dL_law_854 ⟨Nat.le_of_ble_eq_true rfl, Nat.le_of_ble_eq_true rfl⟩ (fun r_257 u_263 H locs h hw => ?_)
        obtain ⟨v_258, v_259⟩ := u_263
        replace hw : mw E A s.heap H locs (List.flatten [cG aG (a0 0) (a1 0) (a2 0) (a3 0) (aH 0) (aS 0) v_258, cM E a0 v1, cM E a1 v2, cM E a2 v3, cM E a3 v4, cH E aH (h0 0) (h1 0) (h2 0) (h3 0) v5, cM E h0 v6, cM E h1 v7, cM E h2 v8, cM E h3 v9, cS E aS v_259, cR E aR v11]) := hw.perm (p_bk (ds := [cG aG (a0 0) (a1 0) (a2 0) (a3 0) (aH 0) (aS 0) v_258, cS E aS v_259]) ((p_pk _ 0 _ rfl).trans (List.Perm.cons _ ((p_pk _ 9 _ rfl).trans (List.Perm.cons _ (List.Perm.refl _))))))
        refine lv_aload_n hx hb dL_law_857 rfl (lv_at hl 2 rfl) ?_
        refine lv_aload_n hx hb dL_law_858 rfl (lv_at hl 0 rfl) ?_
        refine lv_iload_n hx hb dL_law_859 rfl (lv_at hl 3 rfl) ?_
        refine lv_iconst (v := 1) hx hb dL_law_860 (by decide) ?_
        refine lv_iadd hx hb dL_law_861 ?_
        obtain ⟨hin, h⟩ := h
        refine va_sld hx hb hX hbl hbA hw.2.2 hin dL_law_862 ?_
        refine x_cV (As := [.int (xs (tn (x3 + 1)))]) (rest := [.int r_257]) (F := (List.flatten [cG aG (a0 0) (a1 0) (a2 0) (a3 0) (aH 0) (aS 0) v_258, cM E a0 v1, cM E a1 v2, cM E a2 v3, cM E a3 v4, cH E aH (h0 0) (h1 0) (h2 0) (h3 0) v5, cM E h0 v6, cM E h1 v7, cM E h2 v8, cM E h3 v9, cS E aS v_259])) C0 hw (p_fl1 ((p_pk _ 11 _ rfl).trans (List.Perm.cons _ (List.Perm.refl _)))) hl.1 190 7 rfl rfl (c_X7_type l E aR h) 1 gL_law_X7_type rfl ⟨rfl, rfl⟩ (by decide +kernel) ⟨Nat.le_of_ble_eq_true rfl, Nat.le_of_ble_eq_true rfl⟩ rfl rfl (Nat.le_of_ble_eq_true rfl) dL_law_863 ⟨Nat.le_of_ble_eq_true rfl, Nat.le_of_ble_eq_true rfl⟩ (fun r_260 v_261 H locs h hw => ?_)
        replace hw : mw E A s.heap H locs (List.flatten [cG aG (a0 0) (a1 0) (a2 0) (a3 0) (aH 0) (aS 0) v_258, cM E a0 v1, cM E a1 v2, cM E a2 v3, cM E a3 v4, cH E aH (h0 0) (h1 0) (h2 0) (h3 0) v5, cM E h0 v6, cM E h1 v7, cM E h2 v8, cM E h3 v9, cS E aS v_259, cR E aR v_261]) := hw.perm (p_bk1 ((p_pk _ 11 _ rfl).trans (List.Perm.cons _ (List.Perm.refl _))))
        refine lv_icmp_eq (tgt := 920) hx hb dL_law_866 (by decide) (fun c_262 => ?_) (fun c_262 => ?_)
        · replace h := h.1 c_262
          refine lv_iinc (v := (x3 + 5)) (lv' := [(3, .int (x3 + 5)), (0, .ref b), (1, .ref (aG 0)), (2, .ref (aR 0))]) hx hb dL_law_920 hl (k := 3) rfl rfl (by decide) rfl (fun ls hl => ?_)
          refine lv_goto (tgt := 18) hx hb dL_law_923 (by decide) ?_
          exact ih _ _ _ _ _ _ _ _ _ _ _ _ _ h _ _ _ hw (lv_sub hl [1, 2, 3, 0] rfl) hk0
        · replace h := h.2 c_262
          refine lv_iconst (v := 0) hx hb dL_law_869 (by decide) ?_
          exact False.elim h
      replace h := h.2
      by_cases c_272 : ((xs (tn x3)) &&& 31) = 23
      · replace h := h.1 c_272
        refine x_tabIn (tgt := 871) C0 23 c_272 dL_law_32 (by decide) (by decide) rfl (by decide) ?_
        refine lv_aload_n hx hb dL_law_871 rfl (lv_at hl 1 rfl) ?_
        refine x_cV (As := []) (rest := []) (F := (List.flatten [cM E a0 v1, cM E a1 v2, cM E a2 v3, cM E a3 v4, cH E aH (h0 0) (h1 0) (h2 0) (h3 0) v5, cM E h0 v6, cM E h1 v7, cM E h2 v8, cM E h3 v9, cR E aR v11])) C0 hw (p_fl (ds := [cG aG (a0 0) (a1 0) (a2 0) (a3 0) (aH 0) (aS 0) v0, cS E aS v10]) ((p_pk _ 0 _ rfl).trans (List.Perm.cons _ ((p_pk _ 9 _ rfl).trans (List.Perm.cons _ (List.Perm.refl _)))))) hl.1 0 6 rfl rfl (c_X6_clearText l E aG a0 a1 a2 a3 aH h0 h1 h2 h3 aS h) 0 gL_law_X6_clearText rfl ⟨rfl, rfl⟩ (by decide +kernel) ⟨Nat.le_of_ble_eq_true rfl, Nat.le_of_ble_eq_true rfl⟩ rfl rfl (Nat.le_of_ble_eq_true rfl) dL_law_872 ⟨Nat.le_of_ble_eq_true rfl, Nat.le_of_ble_eq_true rfl⟩ (fun r_265 u_271 H locs h hw => ?_)
        obtain ⟨v_266, v_267⟩ := u_271
        replace hw : mw E A s.heap H locs (List.flatten [cG aG (a0 0) (a1 0) (a2 0) (a3 0) (aH 0) (aS 0) v_266, cM E a0 v1, cM E a1 v2, cM E a2 v3, cM E a3 v4, cH E aH (h0 0) (h1 0) (h2 0) (h3 0) v5, cM E h0 v6, cM E h1 v7, cM E h2 v8, cM E h3 v9, cS E aS v_267, cR E aR v11]) := hw.perm (p_bk (ds := [cG aG (a0 0) (a1 0) (a2 0) (a3 0) (aH 0) (aS 0) v_266, cS E aS v_267]) ((p_pk _ 0 _ rfl).trans (List.Perm.cons _ ((p_pk _ 9 _ rfl).trans (List.Perm.cons _ (List.Perm.refl _))))))
        refine lv_aload_n hx hb dL_law_875 rfl (lv_at hl 2 rfl) ?_
        refine x_cV (As := []) (rest := [.int r_265]) (F := (List.flatten [cG aG (a0 0) (a1 0) (a2 0) (a3 0) (aH 0) (aS 0) v_266, cM E a0 v1, cM E a1 v2, cM E a2 v3, cM E a3 v4, cH E aH (h0 0) (h1 0) (h2 0) (h3 0) v5, cM E h0 v6, cM E h1 v7, cM E h2 v8, cM E h3 v9, cS E aS v_267])) C0 hw (p_fl1 ((p_pk _ 11 _ rfl).trans (List.Perm.cons _ (List.Perm.refl _)))) hl.1 190 7 rfl rfl (c_X7_clearText l E aR h) 0 gL_law_X7_clearText rfl ⟨rfl, rfl⟩ (by decide +kernel) ⟨Nat.le_of_ble_eq_true rfl, Nat.le_of_ble_eq_true rfl⟩ rfl rfl (Nat.le_of_ble_eq_true rfl) dL_law_876 ⟨Nat.le_of_ble_eq_true rfl, Nat.le_of_ble_eq_true rfl⟩ (fun r_268 v_269 H locs h hw => ?_)
        replace hw : mw E A s.heap H locs (List.flatten [cG aG (a0 0) (a1 0) (a2 0) (a3 0) (aH 0) (aS 0) v_266, cM E a0 v1, cM E a1 v2, cM E a2 v3, cM E a3 v4, cH E aH (h0 0) (h1 0) (h2 0) (h3 0) v5, cM E h0 v6, cM E h1 v7, cM E h2 v8, cM E h3 v9, cS E aS v_267, cR E aR v_269]) := hw.perm (p_bk1 ((p_pk _ 11 _ rfl).trans (List.Perm.cons _ (List.Perm.refl _))))
        refine lv_icmp_eq (tgt := 920) hx hb dL_law_879 (by decide) (fun c_270 => ?_) (fun c_270 => ?_)
        · replace h := h.1 c_270
          refine lv_iinc (v := (x3 + 5)) (lv' := [(3, .int (x3 + 5)), (0, .ref b), (1, .ref (aG 0)), (2, .ref (aR 0))]) hx hb dL_law_920 hl (k := 3) rfl rfl (by decide) rfl (fun ls hl => ?_)
          refine lv_goto (tgt := 18) hx hb dL_law_923 (by decide) ?_
          exact ih _ _ _ _ _ _ _ _ _ _ _ _ _ h _ _ _ hw (lv_sub hl [1, 2, 3, 0] rfl) hk0
        · replace h := h.2 c_270
          refine lv_iconst (v := 0) hx hb dL_law_882 (by decide) ?_
          exact False.elim h
      replace h := h.2
      by_cases c_282 : ((xs (tn x3)) &&& 31) = 24
      · replace h := h.1 c_282
        refine x_tabIn (tgt := 884) C0 24 c_282 dL_law_32 (by decide) (by decide) rfl (by decide) ?_
        refine lv_aload_n hx hb dL_law_884 rfl (lv_at hl 1 rfl) ?_
        refine lv_aload_n hx hb dL_law_885 rfl (lv_at hl 0 rfl) ?_
        refine lv_iload_n hx hb dL_law_886 rfl (lv_at hl 3 rfl) ?_
        refine lv_iconst (v := 1) hx hb dL_law_887 (by decide) ?_
        refine lv_iadd hx hb dL_law_888 ?_
        obtain ⟨hin, h⟩ := h
        refine va_sld hx hb hX hbl hbA hw.2.2 hin dL_law_889 ?_
        refine x_cV (As := [.int (xs (tn (x3 + 1)))]) (rest := []) (F := (List.flatten [cM E a1 v2, cM E a3 v4, cH E aH (h0 0) (h1 0) (h2 0) (h3 0) v5, cM E h0 v6, cM E h1 v7, cM E h2 v8, cM E h3 v9, cR E aR v11])) C0 hw (p_fl (ds := [cG aG (a0 0) (a1 0) (a2 0) (a3 0) (aH 0) (aS 0) v0, cM E a0 v1, cM E a2 v3, cS E aS v10]) ((p_pk _ 0 _ rfl).trans (List.Perm.cons _ ((p_pk _ 0 _ rfl).trans (List.Perm.cons _ ((p_pk _ 1 _ rfl).trans (List.Perm.cons _ ((p_pk _ 7 _ rfl).trans (List.Perm.cons _ (List.Perm.refl _)))))))))) hl.1 0 6 rfl rfl (c_X6_fault l E aG a0 a1 a2 a3 aH h0 h1 h2 h3 aS h) 1 gL_law_X6_fault rfl ⟨rfl, rfl⟩ (by decide +kernel) ⟨Nat.le_of_ble_eq_true rfl, Nat.le_of_ble_eq_true rfl⟩ rfl rfl (Nat.le_of_ble_eq_true rfl) dL_law_890 ⟨Nat.le_of_ble_eq_true rfl, Nat.le_of_ble_eq_true rfl⟩ (fun r_273 u_281 H locs h hw => ?_)
        obtain ⟨v_274, v_275, v_276, v_277⟩ := u_281
        replace hw : mw E A s.heap H locs (List.flatten [cG aG (a0 0) (a1 0) (a2 0) (a3 0) (aH 0) (aS 0) v_274, cM E a0 v_275, cM E a1 v2, cM E a2 v_276, cM E a3 v4, cH E aH (h0 0) (h1 0) (h2 0) (h3 0) v5, cM E h0 v6, cM E h1 v7, cM E h2 v8, cM E h3 v9, cS E aS v_277, cR E aR v11]) := hw.perm (p_bk (ds := [cG aG (a0 0) (a1 0) (a2 0) (a3 0) (aH 0) (aS 0) v_274, cM E a0 v_275, cM E a2 v_276, cS E aS v_277]) ((p_pk _ 0 _ rfl).trans (List.Perm.cons _ ((p_pk _ 0 _ rfl).trans (List.Perm.cons _ ((p_pk _ 1 _ rfl).trans (List.Perm.cons _ ((p_pk _ 7 _ rfl).trans (List.Perm.cons _ (List.Perm.refl _))))))))))
        refine lv_aload_n hx hb dL_law_893 rfl (lv_at hl 2 rfl) ?_
        refine lv_aload_n hx hb dL_law_894 rfl (lv_at hl 0 rfl) ?_
        refine lv_iload_n hx hb dL_law_895 rfl (lv_at hl 3 rfl) ?_
        refine lv_iconst (v := 1) hx hb dL_law_896 (by decide) ?_
        refine lv_iadd hx hb dL_law_897 ?_
        obtain ⟨hin, h⟩ := h
        refine va_sld hx hb hX hbl hbA hw.2.2 hin dL_law_898 ?_
        refine x_cV (As := [.int (xs (tn (x3 + 1)))]) (rest := [.int r_273]) (F := (List.flatten [cG aG (a0 0) (a1 0) (a2 0) (a3 0) (aH 0) (aS 0) v_274, cM E a0 v_275, cM E a1 v2, cM E a2 v_276, cM E a3 v4, cH E aH (h0 0) (h1 0) (h2 0) (h3 0) v5, cM E h0 v6, cM E h1 v7, cM E h2 v8, cM E h3 v9, cS E aS v_277])) C0 hw (p_fl1 ((p_pk _ 11 _ rfl).trans (List.Perm.cons _ (List.Perm.refl _)))) hl.1 190 7 rfl rfl (c_X7_fault l E aR h) 1 gL_law_X7_fault rfl ⟨rfl, rfl⟩ (by decide +kernel) ⟨Nat.le_of_ble_eq_true rfl, Nat.le_of_ble_eq_true rfl⟩ rfl rfl (Nat.le_of_ble_eq_true rfl) dL_law_899 ⟨Nat.le_of_ble_eq_true rfl, Nat.le_of_ble_eq_true rfl⟩ (fun r_278 v_279 H locs h hw => ?_)
        replace hw : mw E A s.heap H locs (List.flatten [cG aG (a0 0) (a1 0) (a2 0) (a3 0) (aH 0) (aS 0) v_274, cM E a0 v_275, cM E a1 v2, cM E a2 v_276, cM E a3 v4, cH E aH (h0 0) (h1 0) (h2 0) (h3 0) v5, cM E h0 v6, cM E h1 v7, cM E h2 v8, cM E h3 v9, cS E aS v_277, cR E aR v_279]) := hw.perm (p_bk1 ((p_pk _ 11 _ rfl).trans (List.Perm.cons _ (List.Perm.refl _))))
        refine lv_icmp_eq (tgt := 920) hx hb dL_law_902 (by decide) (fun c_280 => ?_) (fun c_280 => ?_)
        · replace h := h.1 c_280
          refine lv_iinc (v := (x3 + 5)) (lv' := [(3, .int (x3 + 5)), (0, .ref b), (1, .ref (aG 0)), (2, .ref (aR 0))]) hx hb dL_law_920 hl (k := 3) rfl rfl (by decide) rfl (fun ls hl => ?_)
          refine lv_goto (tgt := 18) hx hb dL_law_923 (by decide) ?_
          exact ih _ _ _ _ _ _ _ _ _ _ _ _ _ h _ _ _ hw (lv_sub hl [1, 2, 3, 0] rfl) hk0
        · replace h := h.2 c_280
          refine lv_iconst (v := 0) hx hb dL_law_905 (by decide) ?_
          exact False.elim h
      replace h := h.2
      by_cases c_297 : ((xs (tn x3)) &&& 31) = 25
      · replace h := h.1 c_297
        refine x_tabIn (tgt := 907) C0 25 c_297 dL_law_32 (by decide) (by decide) rfl (by decide) ?_
        refine lv_aload_n hx hb dL_law_907 rfl (lv_at hl 1 rfl) ?_
        refine x_cV (As := []) (rest := []) (F := (List.flatten [cM E a1 v2, cM E a3 v4, cR E aR v11])) C0 hw (p_fl (ds := [cG aG (a0 0) (a1 0) (a2 0) (a3 0) (aH 0) (aS 0) v0, cM E a0 v1, cM E a2 v3, cH E aH (h0 0) (h1 0) (h2 0) (h3 0) v5, cM E h0 v6, cM E h1 v7, cM E h2 v8, cM E h3 v9, cS E aS v10]) ((p_pk _ 0 _ rfl).trans (List.Perm.cons _ ((p_pk _ 0 _ rfl).trans (List.Perm.cons _ ((p_pk _ 1 _ rfl).trans (List.Perm.cons _ ((p_pk _ 2 _ rfl).trans (List.Perm.cons _ ((p_pk _ 2 _ rfl).trans (List.Perm.cons _ ((p_pk _ 2 _ rfl).trans (List.Perm.cons _ ((p_pk _ 2 _ rfl).trans (List.Perm.cons _ ((p_pk _ 2 _ rfl).trans (List.Perm.cons _ ((p_pk _ 2 _ rfl).trans (List.Perm.cons _ (List.Perm.refl _)))))))))))))))))))) hl.1 0 6 rfl rfl (c_X6_play l E aG a0 a1 a2 a3 aH h0 h1 h2 h3 aS h) 0 gL_law_X6_play rfl ⟨rfl, rfl⟩ (by decide +kernel) ⟨Nat.le_of_ble_eq_true rfl, Nat.le_of_ble_eq_true rfl⟩ rfl rfl (Nat.le_of_ble_eq_true rfl) dL_law_908 ⟨Nat.le_of_ble_eq_true rfl, Nat.le_of_ble_eq_true rfl⟩ (fun r_283 u_296 H locs h hw => ?_)
        obtain ⟨v_284, v_285, v_286, v_287, v_288, v_289, v_290, v_291, v_292⟩ := u_296
        replace hw : mw E A s.heap H locs (List.flatten [cG aG (a0 0) (a1 0) (a2 0) (a3 0) (aH 0) (aS 0) v_284, cM E a0 v_285, cM E a1 v2, cM E a2 v_286, cM E a3 v4, cH E aH (h0 0) (h1 0) (h2 0) (h3 0) v_287, cM E h0 v_288, cM E h1 v_289, cM E h2 v_290, cM E h3 v_291, cS E aS v_292, cR E aR v11]) := hw.perm (p_bk (ds := [cG aG (a0 0) (a1 0) (a2 0) (a3 0) (aH 0) (aS 0) v_284, cM E a0 v_285, cM E a2 v_286, cH E aH (h0 0) (h1 0) (h2 0) (h3 0) v_287, cM E h0 v_288, cM E h1 v_289, cM E h2 v_290, cM E h3 v_291, cS E aS v_292]) ((p_pk _ 0 _ rfl).trans (List.Perm.cons _ ((p_pk _ 0 _ rfl).trans (List.Perm.cons _ ((p_pk _ 1 _ rfl).trans (List.Perm.cons _ ((p_pk _ 2 _ rfl).trans (List.Perm.cons _ ((p_pk _ 2 _ rfl).trans (List.Perm.cons _ ((p_pk _ 2 _ rfl).trans (List.Perm.cons _ ((p_pk _ 2 _ rfl).trans (List.Perm.cons _ ((p_pk _ 2 _ rfl).trans (List.Perm.cons _ ((p_pk _ 2 _ rfl).trans (List.Perm.cons _ (List.Perm.refl _))))))))))))))))))))
        refine lv_aload_n hx hb dL_law_911 rfl (lv_at hl 2 rfl) ?_
        refine x_cV (As := []) (rest := [.int r_283]) (F := (List.flatten [cG aG (a0 0) (a1 0) (a2 0) (a3 0) (aH 0) (aS 0) v_284, cM E a0 v_285, cM E a1 v2, cM E a2 v_286, cM E a3 v4, cH E aH (h0 0) (h1 0) (h2 0) (h3 0) v_287, cM E h0 v_288, cM E h1 v_289, cM E h2 v_290, cM E h3 v_291, cS E aS v_292])) C0 hw (p_fl1 ((p_pk _ 11 _ rfl).trans (List.Perm.cons _ (List.Perm.refl _)))) hl.1 190 7 rfl rfl (c_X7_play l E aR h) 0 gL_law_X7_play rfl ⟨rfl, rfl⟩ (by decide +kernel) ⟨Nat.le_of_ble_eq_true rfl, Nat.le_of_ble_eq_true rfl⟩ rfl rfl (Nat.le_of_ble_eq_true rfl) dL_law_912 ⟨Nat.le_of_ble_eq_true rfl, Nat.le_of_ble_eq_true rfl⟩ (fun r_293 v_294 H locs h hw => ?_)
        replace hw : mw E A s.heap H locs (List.flatten [cG aG (a0 0) (a1 0) (a2 0) (a3 0) (aH 0) (aS 0) v_284, cM E a0 v_285, cM E a1 v2, cM E a2 v_286, cM E a3 v4, cH E aH (h0 0) (h1 0) (h2 0) (h3 0) v_287, cM E h0 v_288, cM E h1 v_289, cM E h2 v_290, cM E h3 v_291, cS E aS v_292, cR E aR v_294]) := hw.perm (p_bk1 ((p_pk _ 11 _ rfl).trans (List.Perm.cons _ (List.Perm.refl _))))
        refine lv_icmp_eq (tgt := 920) hx hb dL_law_915 (by decide) (fun c_295 => ?_) (fun c_295 => ?_)
        · replace h := h.1 c_295
          refine lv_iinc (v := (x3 + 5)) (lv' := [(3, .int (x3 + 5)), (0, .ref b), (1, .ref (aG 0)), (2, .ref (aR 0))]) hx hb dL_law_920 hl (k := 3) rfl rfl (by decide) rfl (fun ls hl => ?_)
          refine lv_goto (tgt := 18) hx hb dL_law_923 (by decide) ?_
          exact ih _ _ _ _ _ _ _ _ _ _ _ _ _ h _ _ _ hw (lv_sub hl [1, 2, 3, 0] rfl) hk0
        · replace h := h.2 c_295
          refine lv_iconst (v := 0) hx hb dL_law_918 (by decide) ?_
          exact False.elim h
      replace h := h.2
      have cD : ((xs (tn x3)) &&& 31).toInt < 0 ∨ 25 < ((xs (tn x3)) &&& 31).toInt := by
        have := ne_toInt (z := 0) (by decide) c_14
        have := ne_toInt (z := 1) (by decide) c_28
        have := ne_toInt (z := 2) (by decide) c_42
        have := ne_toInt (z := 3) (by decide) c_56
        have := ne_toInt (z := 4) (by decide) c_70
        have := ne_toInt (z := 5) (by decide) c_84
        have := ne_toInt (z := 6) (by decide) c_98
        have := ne_toInt (z := 7) (by decide) c_112
        have := ne_toInt (z := 8) (by decide) c_126
        have := ne_toInt (z := 9) (by decide) c_140
        have := ne_toInt (z := 10) (by decide) c_154
        have := ne_toInt (z := 11) (by decide) c_162
        have := ne_toInt (z := 12) (by decide) c_170
        have := ne_toInt (z := 13) (by decide) c_178
        have := ne_toInt (z := 14) (by decide) c_186
        have := ne_toInt (z := 15) (by decide) c_196
        have := ne_toInt (z := 16) (by decide) c_204
        have := ne_toInt (z := 17) (by decide) c_212
        have := ne_toInt (z := 18) (by decide) c_220
        have := ne_toInt (z := 19) (by decide) c_229
        have := ne_toInt (z := 20) (by decide) c_243
        have := ne_toInt (z := 21) (by decide) c_256
        have := ne_toInt (z := 22) (by decide) c_264
        have := ne_toInt (z := 23) (by decide) c_272
        have := ne_toInt (z := 24) (by decide) c_282
        have := ne_toInt (z := 25) (by decide) c_297
        omega
      replace h := h cD
      refine lv_tableOut (tgt := 920) hx hb dL_law_32 cD (by decide) ?_
      refine lv_iinc (v := (x3 + 5)) (lv' := [(3, .int (x3 + 5)), (0, .ref b), (1, .ref (aG 0)), (2, .ref (aR 0))]) hx hb dL_law_920 hl (k := 3) rfl rfl (by decide) rfl (fun ls hl => ?_)
      refine lv_goto (tgt := 18) hx hb dL_law_923 (by decide) ?_
      exact ih _ _ _ _ _ _ _ _ _ _ _ _ _ h _ _ _ hw (lv_sub hl [1, 2, 3, 0] rfl) hk0
