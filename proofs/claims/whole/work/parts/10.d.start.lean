/-! THE BEGINNING 3: the walk from the entry to the loop, the loop, the end -/
set_option maxRecDepth 100000 in
set_option maxHeartbeats 8000000 in
/-- YOUR PART: from the entry, for every script of at most 2560 ints, the law comes to its end with true ('hflags': the launch's flags, for a law that throws: no stack traces) -/
theorem whole_start {p : Program} {e : Env} {s : State} {m : MethodId} {below : List Frame} {meth : Method} {c : Code} (l : Launch) (hflags : l.flags = flags0) {b L : Nat} {xs : Nat → Int32} (hL : L ≤ 2560) (C0 : lw_At p s m meth c b L xs) : W p l e room_1 s m #[Value.ref b] below meth c s.heap [] 0 0 (lw_Z below #[Value.ref b] s) (entryFrame m ([Value.ref b] : List Value).toArray 4) := by
  obtain ⟨E, hC⟩ := law_frame C0
  obtain ⟨hx, hb, hr, hml, hown, hts, hX, hbl, hlocks, hgv⟩ := id C0
  have hbA : ¬ (fun q : Nat => s.heap.size ≤ q) b := Nat.not_le.mpr hbl
  have hw : mw E (fun q : Nat => s.heap.size ≤ q) s.heap s.heap [] (List.flatten ([] : List va_W)) := ⟨fun k q h => by simp at h, ⟨fun i j p q h => by simp at h, fun k q h => by simp at h⟩, va_S.rf⟩
  have hl := lv_entry ([.ref b]) (n := 4) (Nat.le_of_ble_eq_true rfl)
  rw [lg_entry_eq]
  generalize (lg_sl ([.ref b]) ++ List.replicate (4 - (lg_sl ([.ref b])).length) Slot.unset).toArray = ls at hl ⊢
  have hl : lv_has ls 4 [(0, .ref b)] := hl
  refine x_new hC hw 6 inlX6 rfl tyX6 tyX6_ok 0 1 2 (by decide +kernel) (by decide +kernel) (by decide +kernel) (fs := [.null, .null, .null, .null, .null, .null, .int 0]) (fun j hj => by rcases (show j = 0 ∨ j = 1 ∨ j = 2 ∨ j = 3 ∨ j = 4 ∨ j = 5 ∨ j = 6 by omega) with rfl | rfl | rfl | rfl | rfl | rfl | rfl <;> rfl) (Nat.le_of_ble_eq_true rfl) (Nat.le_of_ble_eq_true rfl) dL_law_0 (fun q_1 H (hw : mw E (fun q : Nat => s.heap.size ≤ q) s.heap H _ (List.flatten [[(q_1, .inr (6, [.null, .null, .null, .null, .null, .null, .int 0]))]])) => ?_)
  refine lv_dup hx hb dL_law_3 rfl ?_
  refine x_cI (rest := [.ref q_1]) (F := (List.flatten ([] : List va_W))) hC hw (p_fl1 (d := [(q_1, .inr (6, [.null, .null, .null, .null, .null, .null, .int 0]))]) (List.Perm.refl _)) hl.1 (c_X6_init l E q_1) gL_law_X6_init rfl ⟨rfl, rfl⟩ 2 6 7 (by decide +kernel) (by decide +kernel) (by decide +kernel) rfl (by decide +kernel) ⟨(Nat.le_of_ble_eq_true rfl), (Nat.le_of_ble_eq_true rfl)⟩ rfl (Nat.le_of_ble_eq_true rfl) dL_law_4 ⟨(Nat.le_of_ble_eq_true rfl), (Nat.le_of_ble_eq_true rfl)⟩ (fun u H locs e_1 hv => ?_)
  obtain ⟨aG, a0, a1, a2, a3, aH, h0, h1, h2, h3, aS⟩ := u
  replace e_1 : aG 0 = q_1 := e_1
  subst e_1
  have hw : mw E (fun q : Nat => s.heap.size ≤ q) s.heap H locs (List.flatten [cG aG (a0 0) (a1 0) (a2 0) (a3 0) (aH 0) (aS 0) z0, cM E a0 iM, cM E a1 iM, cM E a2 iM, cM E a3 iM, cH E aH (h0 0) (h1 0) (h2 0) (h3 0) z0, cM E h0 iM, cM E h1 iM, cM E h2 iM, cM E h3 iM, cS E aS iS]) := by
    rw [List.flatten_nil, List.append_nil] at hv
    exact hv
  refine lv_astore_n (lv' := [(1, .ref (aG 0)), (0, .ref b)]) hx hb dL_law_7 rfl hl (by decide) rfl (fun ls hl => ?_)
  refine x_new hC hw 7 inlX7 rfl tyX7 tyX7_ok 3 4 5 (by decide +kernel) (by decide +kernel) (by decide +kernel) (fs := [.null, .null, .null, .int 0, .null, .int 0, .null, .int 0, .int 0, .int 0, .int 0, .int 0, .null]) (fun j hj => by rcases (show j = 0 ∨ j = 1 ∨ j = 2 ∨ j = 3 ∨ j = 4 ∨ j = 5 ∨ j = 6 ∨ j = 7 ∨ j = 8 ∨ j = 9 ∨ j = 10 ∨ j = 11 ∨ j = 12 by omega) with rfl | rfl | rfl | rfl | rfl | rfl | rfl | rfl | rfl | rfl | rfl | rfl | rfl <;> rfl) (Nat.le_of_ble_eq_true rfl) (Nat.le_of_ble_eq_true rfl) dL_law_8 (fun q_2 H hw => ?_)
  refine lv_dup hx hb dL_law_11 rfl ?_
  refine x_cI (rest := [.ref q_2]) (w0 := [(q_2, .inr (7, [.null, .null, .null, .int 0, .null, .int 0, .null, .int 0, .int 0, .int 0, .int 0, .int 0, .null]))]) (F := (List.flatten [cG aG (a0 0) (a1 0) (a2 0) (a3 0) (aH 0) (aS 0) z0, cM E a0 iM, cM E a1 iM, cM E a2 iM, cM E a3 iM, cH E aH (h0 0) (h1 0) (h2 0) (h3 0) z0, cM E h0 iM, cM E h1 iM, cM E h2 iM, cM E h3 iM, cS E aS iS])) hC hw List.perm_append_comm hl.1 (c_X7_init l E q_2) gL_law_X7_init rfl ⟨rfl, rfl⟩ 5 99 100 (by decide +kernel) (by decide +kernel) (by decide +kernel) rfl (by decide +kernel) ⟨(Nat.le_of_ble_eq_true rfl), (Nat.le_of_ble_eq_true rfl)⟩ rfl (Nat.le_of_ble_eq_true rfl) dL_law_12 ⟨(Nat.le_of_ble_eq_true rfl), (Nat.le_of_ble_eq_true rfl)⟩ (fun aR H locs e_2 hv => ?_)
  replace e_2 : aR 0 = q_2 := e_2
  subst e_2
  have hw : mw E (fun q : Nat => s.heap.size ≤ q) s.heap H locs (List.flatten [cG aG (a0 0) (a1 0) (a2 0) (a3 0) (aH 0) (aS 0) z0, cM E a0 iM, cM E a1 iM, cM E a2 iM, cM E a3 iM, cH E aH (h0 0) (h1 0) (h2 0) (h3 0) z0, cM E h0 iM, cM E h1 iM, cM E h2 iM, cM E h3 iM, cS E aS iS, cR E aR iR]) := by
    have h := hv.perm List.perm_append_comm
    have e : ∀ (as : List va_W) (z : va_W), List.flatten as ++ z = List.flatten (as ++ [z]) := fun as z => by simp
    rw [e] at h
    exact h
  refine lv_astore_n (lv' := [(2, .ref (aR 0)), (1, .ref (aG 0)), (0, .ref b)]) hx hb dL_law_15 rfl hl (by decide) rfl (fun ls hl => ?_)
  refine lv_iconst (v := 0) hx hb dL_law_16 (by decide) ?_
  refine lv_istore_n (lv' := [(3, .int 0), (2, .ref (aR 0)), (1, .ref (aG 0)), (0, .ref b)]) hx hb dL_law_17 rfl hl (by decide) rfl (fun ls hl => ?_)
  obtain ⟨n, hn⟩ := law_ends (xs := xs) (L := L) hL
  refine W.widen (k := 600000) (n := 7302250) (Nat.le_of_ble_eq_true rfl) (Nat.le_of_ble_eq_true rfl) ?_
  refine w_L_law_18 hC hX hbl hbA (fun _ h => h) n 0 z0 iM iM iM iM z0 iM iM iM iM iS iR hn H locs ls hw (lv_sub hl [3, 2, 1, 0] rfl) (fun x3 v0 v1 v2 v3 v4 v5 v6 v7 v8 v9 v10 v11 H locs ls _ hw hl => ?_)
  refine lv_iconst (v := 1) hx hb dL_law_926 (by decide) ?_
  refine va_forget (fun q hq => hw.2.2.2.2 q hq) ?_
  exact lw_ret hx hb hr hlocks dL_law_927
