/-! THE BEGINNING 3: the walk from the entry to the law -/
set_option maxRecDepth 100000 in
set_option maxHeartbeats 8000000 in
/-- YOUR PART: from the entry, for every script of at most 260 ints, the law comes to its end with true ('hflags': the launch's flags, for a law that throws: no stack traces) -/
theorem whole_start {p : Program} {e : Env} {s : State} {m : MethodId} {below : List Frame} {meth : Method} {c : Code} (l : Launch) (hflags : l.flags = flags0) {b L : Nat} {xs : Nat → Int32} (hL : L ≤ 260) (C0 : lw_At p s m meth c b L xs) : W p l e room_1 s m #[Value.ref b] below meth c s.heap [] 0 0 (lw_Z below #[Value.ref b] s) (entryFrame m ([Value.ref b] : List Value).toArray 11) := by
  obtain ⟨E, hC⟩ := law_frame C0
  obtain ⟨hx, hb, hr, hml, hown, hts, hX, hbl, hlocks, hgv⟩ := id C0
  have hbA : ¬ (fun q : Nat => s.heap.size ≤ q) b := Nat.not_le.mpr hbl
  have hw : mw E (fun q : Nat => s.heap.size ≤ q) s.heap s.heap [] (List.flatten ([] : List va_W)) := ⟨fun k q h => by simp at h, ⟨fun i j p q h => by simp at h, fun k q h => by simp at h⟩, va_S.rf⟩
  have hl := lv_entry ([.ref b]) (n := 11) (Nat.le_of_ble_eq_true rfl)
  rw [lg_entry_eq]
  generalize (lg_sl ([.ref b]) ++ List.replicate (11 - (lg_sl ([.ref b])).length) Slot.unset).toArray = ls at hl ⊢
  have hl : lv_has ls 11 [(0, .ref b)] := hl
  refine x_new hC hw 6 inlX6 rfl tyX6 tyX6_ok 0 1 2 (by decide +kernel) (by decide +kernel) (by decide +kernel) (fs := [.null, .null, .null, .null, .null, .null, .int 0]) (fun j hj => by rcases (show j = 0 ∨ j = 1 ∨ j = 2 ∨ j = 3 ∨ j = 4 ∨ j = 5 ∨ j = 6 by omega) with rfl | rfl | rfl | rfl | rfl | rfl | rfl <;> rfl) (Nat.le_of_ble_eq_true rfl) (Nat.le_of_ble_eq_true rfl) dL_law_0 (fun q_1 H (hw : mw E (fun q : Nat => s.heap.size ≤ q) s.heap H _ (List.flatten [[(q_1, .inr (6, [.null, .null, .null, .null, .null, .null, .int 0]))]])) => ?_)
  refine lv_dup hx hb dL_law_3 rfl ?_
  refine x_cI (rest := [.ref q_1]) (F := (List.flatten ([] : List va_W))) hC hw (p_fl1 (d := [(q_1, .inr (6, [.null, .null, .null, .null, .null, .null, .int 0]))]) (List.Perm.refl _)) hl.1 (c_X6_init l E q_1) gL_law_X6_init rfl ⟨rfl, rfl⟩ 2 4 5 (by decide +kernel) (by decide +kernel) (by decide +kernel) rfl (by decide +kernel) ⟨(Nat.le_of_ble_eq_true rfl), (Nat.le_of_ble_eq_true rfl)⟩ rfl (Nat.le_of_ble_eq_true rfl) dL_law_4 ⟨(Nat.le_of_ble_eq_true rfl), (Nat.le_of_ble_eq_true rfl)⟩ (fun u H locs e_1 hv => ?_)
  obtain ⟨aG, a0, a1, a2, a3, aH, h0, h1, h2, h3, aS⟩ := u
  replace e_1 : aG 0 = q_1 := e_1
  subst e_1
  have hw : mw E (fun q : Nat => s.heap.size ≤ q) s.heap H locs (List.flatten [cG aG (a0 0) (a1 0) (a2 0) (a3 0) (aH 0) (aS 0) z0, cM E a0 iM, cM E a1 iM, cM E a2 iM, cM E a3 iM, cH E aH (h0 0) (h1 0) (h2 0) (h3 0) z0, cM E h0 iM, cM E h1 iM, cM E h2 iM, cM E h3 iM, cS E aS iS]) := by
    rw [List.flatten_nil, List.append_nil] at hv
    exact hv
  refine lv_astore_n (lv' := [(1, .ref (aG 0)), (0, .ref b)]) hx hb dL_law_7 rfl hl (by decide) rfl (fun ls hl => ?_)
  refine W.widen (k := 600000) (n := 7302250) (Nat.le_of_ble_eq_true rfl) (Nat.le_of_ble_eq_true rfl) ?_
  exact w_L_law hC hX hbl hbA hL (fun _ h => h) z0 iM iM iM iM z0 iM iM iM iM iS (law_ends xs L) H locs ls hw (lv_sub hl [1, 0] rfl)
