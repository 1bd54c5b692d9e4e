/-! PURE 37: the beginning -/
theorem cz_0 {f : Nat → Int32} : ∀ n, (∀ i, i < n → f i = 0) → cz f n = 0
  | 0, _ => rfl
  | n + 1, h => by rw [cz, cz_0 n (fun i hi => h i (by omega)), if_pos (h n (by omega))]
theorem R_new {v : V} {S : Nat → Int32} (h4 : v 0 4 = 0) (h5 : v 0 5 = 0) (h6 : v 0 6 = 3) (h7 : v 0 7 = 10) (h8 : v 0 8 = 0) (h60 : v 6 0 = 0) (h160 : v 16 0 = 0) (hc : ∀ i, i < 24 → v 5 i = 0) (hb : ∀ i, i < 6 → v 22 i = 0) (s6 : S 6 = 3) (s7 : S 7 = 10) (hs : ∀ j, j < 664 → j ≠ 6 → j ≠ 7 → S j = 0) : R v S := by
  refine ⟨0, 0, 0, 0, 3, 10, ?_, fun d hd => ⟨?_, fun _ => hs _ (by omega) (by omega) (by omega)⟩, ⟨⟨fun i hi => Or.inl (hc i hi), fun i j hi _ z => absurd (hc i hi) z, fun a b c ha hb hc' z => absurd (hs _ (by omega) (by omega) (by omega)) z⟩, fun j hj => ⟨0, by omega, hs _ (by omega) (by omega) (by omega)⟩⟩, fun k hk => by omega, fun k _ hk => ⟨hs _ (by omega) (by omega) (by omega), hs _ (by omega) (by omega) (by omega), hs _ (by omega) (by omega) (by omega)⟩, fun m hm => by omega, fun d hd => ?_, ?_, ⟨0, hs _ (by omega) (by omega) (by omega), Nat.zero_le _⟩, ⟨0, 0, by omega, by omega, hs _ (by omega) (by omega) (by omega), hs _ (by omega) (by omega) (by omega), fun m hm => by omega⟩⟩
  · unfold Rg
    rw [h4, h5, h6, h7, h8, h60, h160, s6, s7, hs 0 (by omega) (by omega) (by omega), hs 1 (by omega) (by omega) (by omega), hs 2 (by omega) (by omega) (by omega), hs 3 (by omega) (by omega) (by omega), hs 4 (by omega) (by omega) (by omega), hs 5 (by omega) (by omega) (by omega), cz_0 24 hc]
    exact ⟨by omega, by omega, by omega, by omega, by omega, by omega, rfl, rfl, rfl, rfl, rfl, rfl, rfl, rfl, rfl, rfl, rfl, rfl, rfl, rfl⟩
  · rw [hb d hd, hs _ (by omega) (by omega) (by omega)]
  · rw [hs _ (by omega) (by omega) (by omega)]
    have e : (0 : Int32).toInt = 0 := by decide
    rw [e]
    omega
  · have z : ∀ (f : Nat → Int32) n, (∀ i, i < n → f i = 0) → sI f n = 0 := by
      intro f n
      induction n with
      | zero => intro _; rfl
      | succ n ih => intro h; rw [sI, ih (fun i hi => h i (by omega)), h n (by omega)]; rfl
    unfold J1
    rw [z _ 6 (fun i hi => hs _ (by omega) (by omega) (by omega)), z _ 20 (fun i hi => hs _ (by omega) (by omega) (by omega))]
theorem R_start : R iM (iR 1) := by
  refine R_new rfl rfl rfl rfl rfl rfl rfl (fun i _ => rfl) (fun i _ => rfl) rfl rfl (fun j _ h6 h7 => ?_)
  show upd (upd (fun _ => 0) 6 3) 7 10 j = 0
  rw [u_n h7, u_n h6]
