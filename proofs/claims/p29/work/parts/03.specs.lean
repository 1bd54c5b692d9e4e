def s_J9_floorMod_7cf53   (p0 : Int32) (p1 : Int32) (post : Int32 → Prop) : Prop :=
  ¬ p1 = 0 ∧ ((0 ≤ (p0 ^^^ p1) → (post (p0 - p0 / p1 * p1))) ∧ (¬ 0 ≤ (p0 ^^^ p1) → (((p0 - p0 / p1 * p1) = 0 → (post (p0 - p0 / p1 * p1))) ∧ (¬ (p0 - p0 / p1 * p1) = 0 → (post ((p0 - p0 / p1 * p1) + p1))))))

def s_X2_copyFrom (v0 : V) (v1 : V)   (post : V → V → Prop) : Prop :=
  ∀ v_1 : V, v_1 = sc v0 16 0 (v1 16 0) → (∀ v_2 : V, v_2 = sa v_1 17 (va_cpy (v1 17) (v_1 17) 0 0 10) → (∀ v_3 : V, v_3 = sa v_2 18 (va_cpy (v1 18) (v_2 18) 0 0 10) → (∀ v_4 : V, v_4 = sa v_3 19 (va_cpy (v1 19) (v_3 19) 0 0 10) → (∀ v_5 : V, v_5 = sa v_4 20 (va_cpy (v1 20) (v_4 20) 0 0 10) → (∀ v_6 : V, v_6 = sa v_5 21 (va_cpy (v1 21) (v_5 21) 0 0 10) → post v_6 v1)))))

def s_X3_copyFrom (v0 : V) (v1 : V)   (post : V → V → Prop) : Prop :=
  ∀ v_1 : V, v_1 = sa v0 2 (va_cpy (v1 2) (v0 2) 0 0 24) → (∀ v_2 : V, v_2 = sa v_1 3 (va_cpy (v1 3) (v_1 3) 0 0 24) → (∀ v_3 : V, v_3 = sa v_2 4 (va_cpy (v1 4) (v_2 4) 0 0 24) → (∀ v_4 : V, v_4 = sa v_3 5 (va_cpy (v1 5) (v_3 5) 0 0 24) → post v_4 v1)))

def s_X5_copyFrom (v0 : V) (v1 : V)   (post : V → V → Prop) : Prop :=
  ∀ v_1 : V, v_1 = sc v0 6 0 (v1 6 0) → (∀ v_2 : V, v_2 = sa v_1 7 (va_cpy (v1 7) (v_1 7) 0 0 20) → (∀ v_3 : V, v_3 = sa v_2 8 (va_cpy (v1 8) (v_2 8) 0 0 20) → (∀ v_4 : V, v_4 = sa v_3 9 (va_cpy (v1 9) (v_3 9) 0 0 20) → (∀ v_5 : V, v_5 = sa v_4 10 (va_cpy (v1 10) (v_4 10) 0 0 20) → (∀ v_6 : V, v_6 = sa v_5 11 (va_cpy (v1 11) (v_5 11) 0 0 20) → (∀ v_7 : V, v_7 = sa v_6 12 (va_cpy (v1 12) (v_6 12) 0 0 20) → (∀ v_8 : V, v_8 = sa v_7 13 (va_cpy (v1 13) (v_7 13) 0 0 20) → (∀ v_9 : V, v_9 = sa v_8 14 (va_cpy (v1 14) (v_8 14) 0 0 20) → (∀ v_10 : V, v_10 = sa v_9 15 (va_cpy (v1 15) (v_9 15) 0 0 20) → post v_10 v1)))))))))

def s_X1_copyFrom (v0 : V) (v1 : V)   (post : V → V → Prop) : Prop :=
  s_X3_copyFrom v0 v1 (fun (v_1 : V) (v_2 : V) => s_X5_copyFrom v_1 v_2 (fun (v_3 : V) (v_4 : V) => s_X2_copyFrom v_3 v_4 (fun (v_5 : V) (v_6 : V) => ∀ v_7 : V, v_7 = sa v_5 22 (va_cpy (v_6 22) (v_5 22) 0 0 6) → (∀ v_8 : V, v_8 = sc v_7 0 4 (v_6 0 4) → (∀ v_9 : V, v_9 = sc v_8 0 5 (v_6 0 5) → (∀ v_10 : V, v_10 = sc v_9 0 6 (v_6 0 6) → (∀ v_11 : V, v_11 = sc v_10 0 7 (v_6 0 7) → (∀ v_12 : V, v_12 = sc v_11 0 8 (v_6 0 8) → post v_12 v_6))))))))

def s_X0_push (v0 : V) (v1 : V) (v2 : V) (v3 : V) (v4 : V) (v5 : V)   (post : V → V → V → V → V → V → Prop) : Prop :=
  (¬ (v0 0 2) = 4 → (s_J9_floorMod_7cf53 ((v0 0 1) + (v0 0 2)) 4 (fun (r_1 : Int32) => vp_in r_1 4 ∧ ((r_1 = 0 → (s_X1_copyFrom v1 v5 (fun (v_2 : V) (v_3 : V) => ∀ v_4 : V, v_4 = sc v0 0 2 ((v0 0 2) + 1) → post v_4 v_2 v2 v3 v4 v_3))) ∧ ((r_1 = 1 → (s_X1_copyFrom v2 v5 (fun (v_6 : V) (v_7 : V) => ∀ v_8 : V, v_8 = sc v0 0 2 ((v0 0 2) + 1) → post v_8 v1 v_6 v3 v4 v_7))) ∧ ((r_1 = 2 → (s_X1_copyFrom v3 v5 (fun (v_10 : V) (v_11 : V) => ∀ v_12 : V, v_12 = sc v0 0 2 ((v0 0 2) + 1) → post v_12 v1 v2 v_10 v4 v_11))) ∧ (r_1 = 3 → (s_X1_copyFrom v4 v5 (fun (v_14 : V) (v_15 : V) => ∀ v_16 : V, v_16 = sc v0 0 2 ((v0 0 2) + 1) → post v_16 v1 v2 v3 v_14 v_15))))))))) ∧ ((v0 0 2) = 4 → (∀ v_19 : V, v_19 = sc v0 0 1 (((v0 0 1) + 1) - ((v0 0 1) + 1) / 4 * 4) → (∀ v_20 : V, v_20 = sc v_19 0 2 ((v_19 0 2) - 1) → (s_J9_floorMod_7cf53 ((v_20 0 1) + (v_20 0 2)) 4 (fun (r_21 : Int32) => vp_in r_21 4 ∧ ((r_21 = 0 → (s_X1_copyFrom v1 v5 (fun (v_22 : V) (v_23 : V) => ∀ v_24 : V, v_24 = sc v_20 0 2 ((v_20 0 2) + 1) → post v_24 v_22 v2 v3 v4 v_23))) ∧ ((r_21 = 1 → (s_X1_copyFrom v2 v5 (fun (v_26 : V) (v_27 : V) => ∀ v_28 : V, v_28 = sc v_20 0 2 ((v_20 0 2) + 1) → post v_28 v1 v_26 v3 v4 v_27))) ∧ ((r_21 = 2 → (s_X1_copyFrom v3 v5 (fun (v_30 : V) (v_31 : V) => ∀ v_32 : V, v_32 = sc v_20 0 2 ((v_20 0 2) + 1) → post v_32 v1 v2 v_30 v4 v_31))) ∧ (r_21 = 3 → (s_X1_copyFrom v4 v5 (fun (v_34 : V) (v_35 : V) => ∀ v_36 : V, v_36 = sc v_20 0 2 ((v_20 0 2) + 1) → post v_36 v1 v2 v3 v_34 v_35)))))))))))

def s_X0_popInto (v0 : V) (v1 : V) (v2 : V) (v3 : V) (v4 : V) (v5 : V)   (post : V → V → V → V → V → V → Prop) : Prop :=
  (¬ (v0 0 2) = 0 → (s_J9_floorMod_7cf53 (((v0 0 1) + (v0 0 2)) - 1) 4 (fun (r_1 : Int32) => vp_in r_1 4 ∧ ((r_1 = 0 → (s_X1_copyFrom v5 v1 (fun (v_2 : V) (v_3 : V) => ∀ v_4 : V, v_4 = sc v0 0 2 ((v0 0 2) - 1) → post v_4 v_3 v2 v3 v4 v_2))) ∧ ((r_1 = 1 → (s_X1_copyFrom v5 v2 (fun (v_6 : V) (v_7 : V) => ∀ v_8 : V, v_8 = sc v0 0 2 ((v0 0 2) - 1) → post v_8 v1 v_7 v3 v4 v_6))) ∧ ((r_1 = 2 → (s_X1_copyFrom v5 v3 (fun (v_10 : V) (v_11 : V) => ∀ v_12 : V, v_12 = sc v0 0 2 ((v0 0 2) - 1) → post v_12 v1 v2 v_11 v4 v_10))) ∧ (r_1 = 3 → (s_X1_copyFrom v5 v4 (fun (v_14 : V) (v_15 : V) => ∀ v_16 : V, v_16 = sc v0 0 2 ((v0 0 2) - 1) → post v_16 v1 v2 v3 v_15 v_14))))))))) ∧ ((v0 0 2) = 0 → post v0 v1 v2 v3 v4 v5)

def s_X1_hasDealer (v : V)  (p1 : Int32) (post : Int32 → V → Prop) : Prop :=
  (p1 < 0 → post 0 v) ∧ (¬ p1 < 0 → (((v 0 4) ≤ p1 → post 0 v) ∧ (¬ (v 0 4) ≤ p1 → ((6 ≤ p1 → post 0 v) ∧ (¬ 6 ≤ p1 → post 1 v)))))

def s_X1_addDealer (v : V)   (post : Int32 → V → Prop) : Prop :=
  ((v 0 4) < 0 → (post (-10000003) v)) ∧ (¬ (v 0 4) < 0 → (((v 0 4) < 6 → (vp_in (v 0 4) 6 ∧ (∀ v_1 : V, v_1 = st v 22 (tn (v 0 4)) 0 → (∀ v_2 : V, v_2 = sc v_1 0 4 ((v_1 0 4) + 1) → (post ((v_2 0 4) - 1) v_2))))) ∧ (¬ (v 0 4) < 6 → (post (-10000003) v))))

def s_X5_add (v : V)  (p1 : Int32) (p2 : Int32) (p3 : Int32) (p4 : Int32) (post : Int32 → V → Prop) : Prop :=
  ((v 6 0) < 0 → (post (-1) v)) ∧ (¬ (v 6 0) < 0 → (((v 6 0) < 20 → (vp_in (v 6 0) 20 ∧ (∀ v_1 : V, v_1 = st v 7 (tn (v 6 0)) p2 → (vp_in (v 6 0) 20 ∧ (∀ v_2 : V, v_2 = st v_1 8 (tn (v 6 0)) p3 → (vp_in (v 6 0) 20 ∧ (∀ v_3 : V, v_3 = st v_2 9 (tn (v 6 0)) p4 → (vp_in (v 6 0) 20 ∧ (∀ v_4 : V, v_4 = st v_3 10 (tn (v 6 0)) p1 → (vp_in (v 6 0) 20 ∧ (∀ v_5 : V, v_5 = st v_4 11 (tn (v 6 0)) p1 → (vp_in (v 6 0) 20 ∧ (∀ v_6 : V, v_6 = st v_5 12 (tn (v 6 0)) (-1) → (vp_in (v 6 0) 20 ∧ (∀ v_7 : V, v_7 = st v_6 13 (tn (v 6 0)) 0 → (vp_in (v 6 0) 20 ∧ (∀ v_8 : V, v_8 = st v_7 14 (tn (v 6 0)) 0 → (vp_in (v 6 0) 20 ∧ (∀ v_9 : V, v_9 = st v_8 15 (tn (v 6 0)) 0 → (∀ v_10 : V, v_10 = sc v_9 6 0 ((v_9 6 0) + 1) → (post (v 6 0) v_10))))))))))))))))))))) ∧ (¬ (v 6 0) < 20 → (post (-1) v))))

def s_X6_isLook   (p0 : Int32) (p1 : Int32) (post : Int32 → Prop) : Prop :=
  (p0 < 0 → post 0) ∧ (¬ p0 < 0 → ((10 ≤ p0 → post 0) ∧ (¬ 10 ≤ p0 → ((p1 < 0 → post 0) ∧ (¬ p1 < 0 → ((8 ≤ p1 → post 0) ∧ (¬ 8 ≤ p1 → post 1)))))))

def s_X1_addStone (v : V)  (p1 : Int32) (p2 : Int32) (p3 : Int32) (p4 : Int32) (post : Int32 → V → Prop) : Prop :=
  s_X1_hasDealer v p1 (fun (r_1 : Int32) (v_2 : V) => (r_1 = 0 → (post (-10000001) v_2)) ∧ (¬ r_1 = 0 → ((p2 < 1 → (post (-10000001) v_2)) ∧ (¬ p2 < 1 → ((999 < p2 → (post (-10000001) v_2)) ∧ (¬ 999 < p2 → (s_X6_isLook p3 p4 (fun (r_3 : Int32) => (¬ r_3 = 0 → (s_X5_add v_2 p1 p2 p3 p4 (fun (r_4 : Int32) (v_5 : V) => (¬ r_4 = (-1) → post r_4 v_5) ∧ (r_4 = (-1) → (post (-10000003) v_5))))) ∧ (r_3 = 0 → (post (-10000001) v_2))))))))))

def sb_X3_add_3 (post : Int32 → V → Prop)  (f1 : Int32) (f2 : Int32) (f3 : Int32) (f4 : Int32) (k0 : Int32 → V → Prop) (rec : Int32 → V → Prop) (x5 : Int32) (v : V) : Prop :=
  (24 ≤ x5 → k0 x5 v) ∧ (¬ 24 ≤ x5 → (vp_in x5 24 ∧ ((¬ (v 5 (tn x5)) = 0 → (rec (x5 + 1) v)) ∧ ((v 5 (tn x5)) = 0 → (vp_in x5 24 ∧ (∀ v_1 : V, v_1 = st v 2 (tn x5) f1 → (vp_in x5 24 ∧ (∀ v_2 : V, v_2 = st v_1 3 (tn x5) f2 → (vp_in x5 24 ∧ (∀ v_3 : V, v_3 = st v_2 4 (tn x5) f3 → (vp_in x5 24 ∧ (∀ v_4 : V, v_4 = st v_3 5 (tn x5) f4 → post 1 v_4))))))))))))
def sl_X3_add_3 (post : Int32 → V → Prop)  (f1 : Int32) (f2 : Int32) (f3 : Int32) (f4 : Int32) (k0 : Int32 → V → Prop) : Nat → Int32 → V → Prop
  | 0 => fun _ _ => False
  | n + 1 => sb_X3_add_3 post f1 f2 f3 f4 k0 (sl_X3_add_3 post f1 f2 f3 f4 k0 n)
def s_X3_add (v : V)  (p1 : Int32) (p2 : Int32) (p3 : Int32) (p4 : Int32) (post : Int32 → V → Prop) : Prop :=
  ∃ n_7 : Nat, sl_X3_add_3 post p1 p2 p3 p4 (fun (x5_8 : Int32) (v_9 : V) => post 0 v_9) n_7 0 v

def s_X3_isEntryOf (v : V)  (p1 : Int32) (p2 : Int32) (p3 : Int32) (p4 : Int32) (post : Int32 → V → Prop) : Prop :=
  vp_in p1 24 ∧ (((v 5 (tn p1)) = 0 → post 0 v) ∧ (¬ (v 5 (tn p1)) = 0 → (vp_in p1 24 ∧ ((¬ (v 2 (tn p1)) = p2 → post 0 v) ∧ ((v 2 (tn p1)) = p2 → (vp_in p1 24 ∧ ((¬ (v 3 (tn p1)) = p3 → post 0 v) ∧ ((v 3 (tn p1)) = p3 → (vp_in p1 24 ∧ ((¬ (v 4 (tn p1)) = p4 → post 0 v) ∧ ((v 4 (tn p1)) = p4 → post 1 v)))))))))))

def sb_X3_change_3 (post : V → Prop)  (f1 : Int32) (f2 : Int32) (f3 : Int32) (f4 : Int32) (k0 : Int32 → V → Prop) (rec : Int32 → V → Prop) (x5 : Int32) (v : V) : Prop :=
  (24 ≤ x5 → k0 x5 v) ∧ (¬ 24 ≤ x5 → (s_X3_isEntryOf v x5 f1 f2 f3 (fun (r_1 : Int32) (v_2 : V) => (r_1 = 0 → (rec (x5 + 1) v_2)) ∧ (¬ r_1 = 0 → (vp_in x5 24 ∧ (∀ v_3 : V, v_3 = st v_2 5 (tn x5) f4 → (rec (x5 + 1) v_3)))))))
def sl_X3_change_3 (post : V → Prop)  (f1 : Int32) (f2 : Int32) (f3 : Int32) (f4 : Int32) (k0 : Int32 → V → Prop) : Nat → Int32 → V → Prop
  | 0 => fun _ _ => False
  | n + 1 => sb_X3_change_3 post f1 f2 f3 f4 k0 (sl_X3_change_3 post f1 f2 f3 f4 k0 n)
def s_X3_change (v : V)  (p1 : Int32) (p2 : Int32) (p3 : Int32) (p4 : Int32) (post : V → Prop) : Prop :=
  ∃ n_6 : Nat, sl_X3_change_3 post p1 p2 p3 p4 (fun (x5_7 : Int32) (v_8 : V) => post v_8) n_6 0 v

def sb_X3_ownRate_3 (post : Int32 → V → Prop)  (f1 : Int32) (f2 : Int32) (f3 : Int32) (k0 : Int32 → V → Prop) (rec : Int32 → V → Prop) (x4 : Int32) (v : V) : Prop :=
  (24 ≤ x4 → k0 x4 v) ∧ (¬ 24 ≤ x4 → (s_X3_isEntryOf v x4 f1 f2 f3 (fun (r_1 : Int32) (v_2 : V) => (r_1 = 0 → (rec (x4 + 1) v_2)) ∧ (¬ r_1 = 0 → (vp_in x4 24 ∧ (post (v_2 5 (tn x4)) v_2))))))
def sl_X3_ownRate_3 (post : Int32 → V → Prop)  (f1 : Int32) (f2 : Int32) (f3 : Int32) (k0 : Int32 → V → Prop) : Nat → Int32 → V → Prop
  | 0 => fun _ _ => False
  | n + 1 => sb_X3_ownRate_3 post f1 f2 f3 k0 (sl_X3_ownRate_3 post f1 f2 f3 k0 n)
def s_X3_ownRate (v : V)  (p1 : Int32) (p2 : Int32) (p3 : Int32) (post : Int32 → V → Prop) : Prop :=
  ∃ n_5 : Nat, sl_X3_ownRate_3 post p1 p2 p3 (fun (x4_6 : Int32) (v_7 : V) => post 0 v_7) n_5 0 v

def s_X6_isGrade   (p0 : Int32) (p1 : Int32) (p2 : Int32) (post : Int32 → Prop) : Prop :=
  (p0 < 0 → post 0) ∧ (¬ p0 < 0 → ((5 ≤ p0 → post 0) ∧ (¬ 5 ≤ p0 → (s_X6_isLook p1 p2 (fun (r_1 : Int32) => (r_1 = 0 → post 0) ∧ (¬ r_1 = 0 → post 1))))))

def s_X1_putRate (v : V)  (p1 : Int32) (p2 : Int32) (p3 : Int32) (p4 : Int32) (post : Int32 → V → Prop) : Prop :=
  s_X6_isGrade p1 p2 p3 (fun (r_1 : Int32) => (r_1 = 0 → (post (-10000001) v)) ∧ (¬ r_1 = 0 → ((p4 < 1 → (post (-10000001) v)) ∧ (¬ p4 < 1 → ((p4 ≤ 9999 → (s_X3_ownRate v p1 p2 p3 (fun (r_2 : Int32) (v_3 : V) => (r_2 = 0 → (s_X3_add v_3 p1 p2 p3 p4 (fun (r_4 : Int32) (v_5 : V) => (r_4 = 0 → (post (-10000003) v_5)) ∧ (¬ r_4 = 0 → post 0 v_5)))) ∧ (¬ r_2 = 0 → (s_X3_change v_3 p1 p2 p3 p4 (fun (v_7 : V) => post r_2 v_7)))))) ∧ (¬ p4 ≤ 9999 → (post (-10000001) v)))))))

def s_X1_takeRate (v : V)  (p1 : Int32) (p2 : Int32) (p3 : Int32) (post : Int32 → V → Prop) : Prop :=
  s_X6_isGrade p1 p2 p3 (fun (r_1 : Int32) => (¬ r_1 = 0 → (s_X3_ownRate v p1 p2 p3 (fun (r_2 : Int32) (v_3 : V) => (¬ r_2 = 0 → (s_X3_change v_3 p1 p2 p3 0 (fun (v_4 : V) => post r_2 v_4))) ∧ (r_2 = 0 → (post (-10000002) v_3))))) ∧ (r_1 = 0 → (post (-10000001) v)))

def sb_X3_rateFor_6 (post : Int32 → V → Prop)  (f1 : Int32) (f2 : Int32) (f3 : Int32) (k0 : Int32 → Int32 → V → Prop) (rec : Int32 → Int32 → V → Prop) (x4 : Int32) (x5 : Int32) (v : V) : Prop :=
  (24 ≤ x5 → k0 x4 x5 v) ∧ (¬ 24 ≤ x5 → (vp_in x5 24 ∧ (((v 5 (tn x5)) = 0 → (rec x4 (x5 + 1) v)) ∧ (¬ (v 5 (tn x5)) = 0 → (vp_in x5 24 ∧ ((¬ (v 2 (tn x5)) = f1 → (rec x4 (x5 + 1) v)) ∧ ((v 2 (tn x5)) = f1 → (vp_in x5 24 ∧ (((v 3 (tn x5)) < f2 → (rec x4 (x5 + 1) v)) ∧ (¬ (v 3 (tn x5)) < f2 → (vp_in x5 24 ∧ ((f3 ≤ (v 4 (tn x5)) → (vp_in x5 24 ∧ ((¬ (v 3 (tn x5)) = f2 → (vp_in x5 24 ∧ (((v 5 (tn x5)) ≤ x4 → (rec x4 (x5 + 1) v)) ∧ (¬ (v 5 (tn x5)) ≤ x4 → (vp_in x5 24 ∧ (rec (v 5 (tn x5)) (x5 + 1) v)))))) ∧ ((v 3 (tn x5)) = f2 → (vp_in x5 24 ∧ ((¬ (v 4 (tn x5)) = f3 → (vp_in x5 24 ∧ (((v 5 (tn x5)) ≤ x4 → (rec x4 (x5 + 1) v)) ∧ (¬ (v 5 (tn x5)) ≤ x4 → (vp_in x5 24 ∧ (rec (v 5 (tn x5)) (x5 + 1) v)))))) ∧ ((v 4 (tn x5)) = f3 → (vp_in x5 24 ∧ (post (v 5 (tn x5)) v))))))))) ∧ (¬ f3 ≤ (v 4 (tn x5)) → (rec x4 (x5 + 1) v))))))))))))))
def sl_X3_rateFor_6 (post : Int32 → V → Prop)  (f1 : Int32) (f2 : Int32) (f3 : Int32) (k0 : Int32 → Int32 → V → Prop) : Nat → Int32 → Int32 → V → Prop
  | 0 => fun _ _ _ => False
  | n + 1 => sb_X3_rateFor_6 post f1 f2 f3 k0 (sl_X3_rateFor_6 post f1 f2 f3 k0 n)
def s_X3_rateFor (v : V)  (p1 : Int32) (p2 : Int32) (p3 : Int32) (post : Int32 → V → Prop) : Prop :=
  ∃ n_10 : Nat, sl_X3_rateFor_6 post p1 p2 p3 (fun (x4_11 : Int32) (x5_12 : Int32) (v_13 : V) => post x4_11 v_13) n_10 0 0 v

def s_X5_sieveOf (v : V)  (p1 : Int32) (post : Int32 → V → Prop) : Prop :=
  vp_in p1 20 ∧ ((10 ≤ (v 7 (tn p1)) → ((25 ≤ (v 7 (tn p1)) → ((50 ≤ (v 7 (tn p1)) → ((100 ≤ (v 7 (tn p1)) → post 4 v) ∧ (¬ 100 ≤ (v 7 (tn p1)) → post 3 v))) ∧ (¬ 50 ≤ (v 7 (tn p1)) → post 2 v))) ∧ (¬ 25 ≤ (v 7 (tn p1)) → post 1 v))) ∧ (¬ 10 ≤ (v 7 (tn p1)) → post 0 v))

def s_X1_priceOf (v : V)  (p1 : Int32) (post : Int32 → V → Prop) : Prop :=
  s_X5_sieveOf v p1 (fun (r_1 : Int32) (v_2 : V) => vp_in p1 20 ∧ (vp_in p1 20 ∧ (s_X3_rateFor v_2 r_1 (v_2 8 (tn p1)) (v_2 9 (tn p1)) (fun (r_3 : Int32) (v_4 : V) => (¬ r_3 = 0 → (vp_in p1 20 ∧ (post (((v_4 7 (tn p1)) * r_3) / 100) v_4))) ∧ (r_3 = 0 → (post (-1) v_4))))))

def sb_X1_canLend_2 (post : Int32 → V → Prop)  (f1 : Int32) (f2 : Int32) (k0 : Int32 → V → Prop) (rec : Int32 → V → Prop) (x3 : Int32) (v : V) : Prop :=
  ((v 6 0) ≤ x3 → k0 x3 v) ∧ (¬ (v 6 0) ≤ x3 → ((¬ ((f2 >>> (x3 &&& 31)) &&& 1) = 1 → (rec (x3 + 1) v)) ∧ (((f2 >>> (x3 &&& 31)) &&& 1) = 1 → (vp_in x3 20 ∧ ((¬ (v 10 (tn x3)) = f1 → post 0 v) ∧ ((v 10 (tn x3)) = f1 → (vp_in x3 20 ∧ ((¬ (v 11 (tn x3)) = f1 → post 0 v) ∧ ((v 11 (tn x3)) = f1 → (s_X1_priceOf v x3 (fun (r_1 : Int32) (v_2 : V) => (¬ r_1 = (-1) → (rec (x3 + 1) v_2)) ∧ (r_1 = (-1) → post 0 v_2))))))))))))
def sl_X1_canLend_2 (post : Int32 → V → Prop)  (f1 : Int32) (f2 : Int32) (k0 : Int32 → V → Prop) : Nat → Int32 → V → Prop
  | 0 => fun _ _ => False
  | n + 1 => sb_X1_canLend_2 post f1 f2 k0 (sl_X1_canLend_2 post f1 f2 k0 n)
def s_X1_canLend (v : V)  (p1 : Int32) (p2 : Int32) (post : Int32 → V → Prop) : Prop :=
  ∃ n_8 : Nat, sl_X1_canLend_2 post p1 p2 (fun (x3_9 : Int32) (v_10 : V) => post 1 v_10) n_8 0 v

def s_X2_add (v : V)  (p1 : Int32) (p2 : Int32) (p3 : Int32) (p4 : Int32) (post : Int32 → V → Prop) : Prop :=
  ((v 16 0) < 0 → (post (-1) v)) ∧ (¬ (v 16 0) < 0 → (((v 16 0) < 10 → (vp_in (v 16 0) 10 ∧ (∀ v_1 : V, v_1 = st v 17 (tn (v 16 0)) p1 → (vp_in (v 16 0) 10 ∧ (∀ v_2 : V, v_2 = st v_1 18 (tn (v 16 0)) p2 → (vp_in (v 16 0) 10 ∧ (∀ v_3 : V, v_3 = st v_2 19 (tn (v 16 0)) p3 → (vp_in (v 16 0) 10 ∧ (∀ v_4 : V, v_4 = st v_3 20 (tn (v 16 0)) p4 → (vp_in (v 16 0) 10 ∧ (∀ v_5 : V, v_5 = st v_4 21 (tn (v 16 0)) 0 → (∀ v_6 : V, v_6 = sc v_5 16 0 ((v_5 16 0) + 1) → (post (v 16 0) v_6))))))))))))) ∧ (¬ (v 16 0) < 10 → (post (-1) v))))

def sb_X1_lendStones_97 (post : Int32 → V → Prop)  (f2 : Int32) (f4 : Int32) (f5 : Int32) (k0 : Int32 → V → Prop) (rec : Int32 → V → Prop) (x6 : Int32) (v : V) : Prop :=
  ((v 6 0) ≤ x6 → k0 x6 v) ∧ (¬ (v 6 0) ≤ x6 → ((¬ ((f4 >>> (x6 &&& 31)) &&& 1) = 1 → (rec (x6 + 1) v)) ∧ (((f4 >>> (x6 &&& 31)) &&& 1) = 1 → (vp_in x6 20 ∧ (∀ v_9 : V, v_9 = st v 11 (tn x6) f2 → (vp_in x6 20 ∧ (∀ v_10 : V, v_10 = st v_9 12 (tn x6) f5 → (s_X1_priceOf v_10 x6 (fun (r_11 : Int32) (v_12 : V) => vp_in x6 20 ∧ (∀ v_13 : V, v_13 = st v_12 13 (tn x6) r_11 → (rec (x6 + 1) v_13)))))))))))
def sl_X1_lendStones_97 (post : Int32 → V → Prop)  (f2 : Int32) (f4 : Int32) (f5 : Int32) (k0 : Int32 → V → Prop) : Nat → Int32 → V → Prop
  | 0 => fun _ _ => False
  | n + 1 => sb_X1_lendStones_97 post f2 f4 f5 k0 (sl_X1_lendStones_97 post f2 f4 f5 k0 n)
def s_X1_lendStones (v : V)  (p1 : Int32) (p2 : Int32) (p3 : Int32) (p4 : Int32) (post : Int32 → V → Prop) : Prop :=
  s_X1_hasDealer v p1 (fun (r_1 : Int32) (v_2 : V) => (r_1 = 0 → (post (-10000001) v_2)) ∧ (¬ r_1 = 0 → (s_X1_hasDealer v_2 p2 (fun (r_3 : Int32) (v_4 : V) => (r_3 = 0 → (post (-10000001) v_4)) ∧ (¬ r_3 = 0 → ((p1 = p2 → (post (-10000001) v_4)) ∧ (¬ p1 = p2 → ((p3 < 1 → (post (-10000001) v_4)) ∧ (¬ p3 < 1 → ((90 < p3 → (post (-10000001) v_4)) ∧ (¬ 90 < p3 → ((p4 ≤ 0 → (post (-10000001) v_4)) ∧ (¬ p4 ≤ 0 → (((p4 >>> ((v_4 6 0) &&& 31)) = 0 → (s_X1_canLend v_4 p1 p4 (fun (r_5 : Int32) (v_6 : V) => (¬ r_5 = 0 → (s_X2_add v_6 p1 p2 ((v_6 0 5) + p3) p4 (fun (r_7 : Int32) (v_8 : V) => (¬ r_7 = (-1) → (∃ n_16 : Nat, sl_X1_lendStones_97 post p2 p4 r_7 (fun (x6_17 : Int32) (v_18 : V) => post r_7 v_18) n_16 0 v_8)) ∧ (r_7 = (-1) → (post (-10000003) v_8))))) ∧ (r_5 = 0 → (post (-10000002) v_6))))) ∧ (¬ (p4 >>> ((v_4 6 0) &&& 31)) = 0 → (post (-10000001) v_4))))))))))))))))

def s_J6_bitCount_0f7a4   (p0 : Int32) (post : Int32 → Prop) : Prop :=
  post ((((((((p0 - (((p0.toUInt32 >>> ((1 : Int32).toUInt32 &&& Int32.toUInt32 31)).toInt32) &&& 1431655765)) &&& 858993459) + (((((p0 - (((p0.toUInt32 >>> ((1 : Int32).toUInt32 &&& Int32.toUInt32 31)).toInt32) &&& 1431655765)) : Int32).toUInt32 >>> ((2 : Int32).toUInt32 &&& Int32.toUInt32 31)).toInt32) &&& 858993459)) + ((((((p0 - (((p0.toUInt32 >>> ((1 : Int32).toUInt32 &&& Int32.toUInt32 31)).toInt32) &&& 1431655765)) &&& 858993459) + (((((p0 - (((p0.toUInt32 >>> ((1 : Int32).toUInt32 &&& Int32.toUInt32 31)).toInt32) &&& 1431655765)) : Int32).toUInt32 >>> ((2 : Int32).toUInt32 &&& Int32.toUInt32 31)).toInt32) &&& 858993459)) : Int32).toUInt32 >>> ((4 : Int32).toUInt32 &&& Int32.toUInt32 31)).toInt32)) &&& 252645135) + ((((((((p0 - (((p0.toUInt32 >>> ((1 : Int32).toUInt32 &&& Int32.toUInt32 31)).toInt32) &&& 1431655765)) &&& 858993459) + (((((p0 - (((p0.toUInt32 >>> ((1 : Int32).toUInt32 &&& Int32.toUInt32 31)).toInt32) &&& 1431655765)) : Int32).toUInt32 >>> ((2 : Int32).toUInt32 &&& Int32.toUInt32 31)).toInt32) &&& 858993459)) + ((((((p0 - (((p0.toUInt32 >>> ((1 : Int32).toUInt32 &&& Int32.toUInt32 31)).toInt32) &&& 1431655765)) &&& 858993459) + (((((p0 - (((p0.toUInt32 >>> ((1 : Int32).toUInt32 &&& Int32.toUInt32 31)).toInt32) &&& 1431655765)) : Int32).toUInt32 >>> ((2 : Int32).toUInt32 &&& Int32.toUInt32 31)).toInt32) &&& 858993459)) : Int32).toUInt32 >>> ((4 : Int32).toUInt32 &&& Int32.toUInt32 31)).toInt32)) &&& 252645135) : Int32).toUInt32 >>> ((8 : Int32).toUInt32 &&& Int32.toUInt32 31)).toInt32)) + (((((((((p0 - (((p0.toUInt32 >>> ((1 : Int32).toUInt32 &&& Int32.toUInt32 31)).toInt32) &&& 1431655765)) &&& 858993459) + (((((p0 - (((p0.toUInt32 >>> ((1 : Int32).toUInt32 &&& Int32.toUInt32 31)).toInt32) &&& 1431655765)) : Int32).toUInt32 >>> ((2 : Int32).toUInt32 &&& Int32.toUInt32 31)).toInt32) &&& 858993459)) + ((((((p0 - (((p0.toUInt32 >>> ((1 : Int32).toUInt32 &&& Int32.toUInt32 31)).toInt32) &&& 1431655765)) &&& 858993459) + (((((p0 - (((p0.toUInt32 >>> ((1 : Int32).toUInt32 &&& Int32.toUInt32 31)).toInt32) &&& 1431655765)) : Int32).toUInt32 >>> ((2 : Int32).toUInt32 &&& Int32.toUInt32 31)).toInt32) &&& 858993459)) : Int32).toUInt32 >>> ((4 : Int32).toUInt32 &&& Int32.toUInt32 31)).toInt32)) &&& 252645135) + ((((((((p0 - (((p0.toUInt32 >>> ((1 : Int32).toUInt32 &&& Int32.toUInt32 31)).toInt32) &&& 1431655765)) &&& 858993459) + (((((p0 - (((p0.toUInt32 >>> ((1 : Int32).toUInt32 &&& Int32.toUInt32 31)).toInt32) &&& 1431655765)) : Int32).toUInt32 >>> ((2 : Int32).toUInt32 &&& Int32.toUInt32 31)).toInt32) &&& 858993459)) + ((((((p0 - (((p0.toUInt32 >>> ((1 : Int32).toUInt32 &&& Int32.toUInt32 31)).toInt32) &&& 1431655765)) &&& 858993459) + (((((p0 - (((p0.toUInt32 >>> ((1 : Int32).toUInt32 &&& Int32.toUInt32 31)).toInt32) &&& 1431655765)) : Int32).toUInt32 >>> ((2 : Int32).toUInt32 &&& Int32.toUInt32 31)).toInt32) &&& 858993459)) : Int32).toUInt32 >>> ((4 : Int32).toUInt32 &&& Int32.toUInt32 31)).toInt32)) &&& 252645135) : Int32).toUInt32 >>> ((8 : Int32).toUInt32 &&& Int32.toUInt32 31)).toInt32)) : Int32).toUInt32 >>> ((16 : Int32).toUInt32 &&& Int32.toUInt32 31)).toInt32)) &&& 63)

def s_X5_has (v : V)  (p1 : Int32) (post : Int32 → V → Prop) : Prop :=
  (p1 < 0 → post 0 v) ∧ (¬ p1 < 0 → (((v 6 0) ≤ p1 → post 0 v) ∧ (¬ (v 6 0) ≤ p1 → ((20 ≤ p1 → post 0 v) ∧ (¬ 20 ≤ p1 → post 1 v)))))

def s_X5_isOut (v : V)  (p1 : Int32) (post : Int32 → V → Prop) : Prop :=
  vp_in p1 20 ∧ (((v 12 (tn p1)) = (-1) → post 0 v) ∧ (¬ (v 12 (tn p1)) = (-1) → post 1 v))

def sb_X5_setWhere_12_5 (post : Int32 → V → Prop)  (f2 : Int32) (k0 : Int32 → Int32 → V → Prop) (rec : Int32 → Int32 → V → Prop) (x3 : Int32) (x4 : Int32) (v : V) : Prop :=
  ((v 6 0) ≤ x4 → k0 x3 x4 v) ∧ (¬ (v 6 0) ≤ x4 → (vp_in x4 20 ∧ ((¬ (v 12 (tn x4)) = f2 → (rec x3 (x4 + 1) v)) ∧ ((v 12 (tn x4)) = f2 → (rec (x3 ||| (1 <<< (x4 &&& 31))) (x4 + 1) v)))))
def sl_X5_setWhere_12_5 (post : Int32 → V → Prop)  (f2 : Int32) (k0 : Int32 → Int32 → V → Prop) : Nat → Int32 → Int32 → V → Prop
  | 0 => fun _ _ _ => False
  | n + 1 => sb_X5_setWhere_12_5 post f2 k0 (sl_X5_setWhere_12_5 post f2 k0 n)
def s_X5_setWhere_12 (v : V)  (p2 : Int32) (post : Int32 → V → Prop) : Prop :=
  ∃ n_3 : Nat, sl_X5_setWhere_12_5 post p2 (fun (x3_4 : Int32) (x4_5 : Int32) (v_6 : V) => post x3_4 v_6) n_3 0 0 v

def s_X1_giveBack (v : V)  (p1 : Int32) (post : Int32 → V → Prop) : Prop :=
  s_X5_has v p1 (fun (r_1 : Int32) (v_2 : V) => (¬ r_1 = 0 → (s_X5_isOut v_2 p1 (fun (r_3 : Int32) (v_4 : V) => (¬ r_3 = 0 → (vp_in p1 20 ∧ (vp_in p1 20 ∧ (vp_in p1 20 ∧ (∀ v_5 : V, v_5 = st v_4 11 (tn p1) (v_4 10 (tn p1)) → (vp_in p1 20 ∧ (∀ v_6 : V, v_6 = st v_5 12 (tn p1) (-1) → (s_X5_setWhere_12 v_6 (v_4 12 (tn p1)) (fun (r_7 : Int32) (v_8 : V) => s_J6_bitCount_0f7a4 r_7 (fun (r_9 : Int32) => post r_9 v_8)))))))))) ∧ (r_3 = 0 → (post (-10000002) v_4))))) ∧ (r_1 = 0 → (post (-10000001) v_2)))

def s_X2_has (v : V)  (p1 : Int32) (post : Int32 → V → Prop) : Prop :=
  (p1 < 0 → post 0 v) ∧ (¬ p1 < 0 → (((v 16 0) ≤ p1 → post 0 v) ∧ (¬ (v 16 0) ≤ p1 → ((10 ≤ p1 → post 0 v) ∧ (¬ 10 ≤ p1 → post 1 v)))))

def s_X1_keepFor (v : V)  (p1 : Int32) (p2 : Int32) (post : V → Prop) : Prop :=
  vp_in p1 20 ∧ (vp_in p1 20 ∧ (vp_in p1 20 ∧ (s_X1_hasDealer v (v 10 (tn p1)) (fun (r_1 : Int32) (v_2 : V) => (r_1 = 0 → post v_2) ∧ (¬ r_1 = 0 → (s_X1_hasDealer v_2 (v 11 (tn p1)) (fun (r_3 : Int32) (v_4 : V) => (r_3 = 0 → post v_4) ∧ (¬ r_3 = 0 → (s_X2_has v_4 (v 12 (tn p1)) (fun (r_5 : Int32) (v_6 : V) => (¬ r_5 = 0 → (vp_in (v 11 (tn p1)) 6 ∧ (vp_in (v 11 (tn p1)) 6 ∧ (∀ v_7 : V, v_7 = st v_6 22 (tn (v 11 (tn p1))) ((v_6 22 (tn (v 11 (tn p1)))) - p2) → (vp_in (v 10 (tn p1)) 6 ∧ (vp_in (v 10 (tn p1)) 6 ∧ (∀ v_8 : V, v_8 = st v_7 22 (tn (v 10 (tn p1))) ((v_7 22 (tn (v 10 (tn p1)))) + p2) → (vp_in (v 12 (tn p1)) 10 ∧ (vp_in (v 12 (tn p1)) 10 ∧ (∀ v_9 : V, v_9 = st v_8 21 (tn (v 12 (tn p1))) ((v_8 21 (tn (v 12 (tn p1)))) + 1) → (vp_in p1 20 ∧ (∀ v_10 : V, v_10 = st v_9 10 (tn p1) (v 11 (tn p1)) → (vp_in p1 20 ∧ (∀ v_11 : V, v_11 = st v_10 12 (tn p1) (-1) → (vp_in p1 20 ∧ (vp_in p1 20 ∧ (∀ v_12 : V, v_12 = st v_11 15 (tn p1) ((v_11 15 (tn p1)) + 1) → post v_12))))))))))))))))) ∧ (r_5 = 0 → post v_6)))))))))))

def s_X1_keepStone (v : V)  (p1 : Int32) (post : Int32 → V → Prop) : Prop :=
  s_X5_has v p1 (fun (r_1 : Int32) (v_2 : V) => (¬ r_1 = 0 → (s_X5_isOut v_2 p1 (fun (r_3 : Int32) (v_4 : V) => (¬ r_3 = 0 → (vp_in p1 20 ∧ (s_X1_keepFor v_4 p1 (v_4 13 (tn p1)) (fun (v_5 : V) => post (v_4 13 (tn p1)) v_5)))) ∧ (r_3 = 0 → (post (-10000002) v_4))))) ∧ (r_1 = 0 → (post (-10000001) v_2)))

def s_X5_isSold (v : V)  (p1 : Int32) (post : Int32 → V → Prop) : Prop :=
  vp_in p1 20 ∧ (((v 14 (tn p1)) = 0 → post 0 v) ∧ (¬ (v 14 (tn p1)) = 0 → post 1 v))

def s_X1_sellStone (v : V)  (p1 : Int32) (p2 : Int32) (post : Int32 → V → Prop) : Prop :=
  s_X5_has v p1 (fun (r_1 : Int32) (v_2 : V) => (r_1 = 0 → (post (-10000001) v_2)) ∧ (¬ r_1 = 0 → ((p2 < 1 → (post (-10000001) v_2)) ∧ (¬ p2 < 1 → ((p2 ≤ 9999 → (vp_in p1 20 ∧ (s_X5_isOut v_2 p1 (fun (r_3 : Int32) (v_4 : V) => (¬ r_3 = 0 → (post (-10000002) v_4)) ∧ (r_3 = 0 → (s_X5_isSold v_4 p1 (fun (r_5 : Int32) (v_6 : V) => (¬ r_5 = 0 → (post (-10000002) v_6)) ∧ (r_5 = 0 → (s_X1_hasDealer v_6 (v_2 10 (tn p1)) (fun (r_7 : Int32) (v_8 : V) => (¬ r_7 = 0 → (vp_in p1 20 ∧ (∀ v_9 : V, v_9 = st v_8 14 (tn p1) p2 → (vp_in p1 20 ∧ (∀ v_10 : V, v_10 = st v_9 10 (tn p1) (-1) → (vp_in p1 20 ∧ (∀ v_11 : V, v_11 = st v_10 11 (tn p1) (-1) → (vp_in (v_2 10 (tn p1)) 6 ∧ (vp_in (v_2 10 (tn p1)) 6 ∧ (∀ v_12 : V, v_12 = st v_11 22 (tn (v_2 10 (tn p1))) ((v_11 22 (tn (v_2 10 (tn p1)))) + p2) → (vp_in (v_2 10 (tn p1)) 6 ∧ (post ((v_12 22 (tn (v_2 10 (tn p1)))) + 100000000) v_12)))))))))))) ∧ (r_7 = 0 → (post (-10000002) v_8)))))))))))) ∧ (¬ p2 ≤ 9999 → (post (-10000001) v_2)))))))

def s_X1_regrade (v : V)  (p1 : Int32) (p2 : Int32) (p3 : Int32) (post : Int32 → V → Prop) : Prop :=
  s_X5_has v p1 (fun (r_1 : Int32) (v_2 : V) => (r_1 = 0 → (post (-10000001) v_2)) ∧ (¬ r_1 = 0 → (s_X6_isLook p2 p3 (fun (r_3 : Int32) => (¬ r_3 = 0 → (s_X5_isSold v_2 p1 (fun (r_4 : Int32) (v_5 : V) => (r_4 = 0 → (vp_in p1 20 ∧ (vp_in p1 20 ∧ (vp_in p1 20 ∧ (∀ v_6 : V, v_6 = st v_5 8 (tn p1) p2 → (vp_in p1 20 ∧ (∀ v_7 : V, v_7 = st v_6 9 (tn p1) p3 → (s_X1_priceOf v_7 p1 (fun (r_8 : Int32) (v_9 : V) => s_X5_isOut v_9 p1 (fun (r_10 : Int32) (v_11 : V) => (r_10 = 0 → (post ((10 * (v_5 8 (tn p1))) + (v_5 9 (tn p1))) v_11)) ∧ (¬ r_10 = 0 → ((r_8 = (-1) → (post ((10 * (v_5 8 (tn p1))) + (v_5 9 (tn p1))) v_11)) ∧ (¬ r_8 = (-1) → (vp_in p1 20 ∧ (∀ v_12 : V, v_12 = st v_11 13 (tn p1) r_8 → (post ((10 * (v_5 8 (tn p1))) + (v_5 9 (tn p1))) v_12)))))))))))))))) ∧ (¬ r_4 = 0 → (post (-10000002) v_5))))) ∧ (r_3 = 0 → (post (-10000001) v_2))))))

def sb_X1_keepLateOnes_41 (post : Int32 → V → Prop)  (f2 : Int32) (k0 : Int32 → Int32 → V → Prop) (rec : Int32 → Int32 → V → Prop) (x1 : Int32) (x3 : Int32) (v : V) : Prop :=
  ((v 6 0) ≤ x3 → k0 x1 x3 v) ∧ (¬ (v 6 0) ≤ x3 → (vp_in x3 20 ∧ ((¬ (v 12 (tn x3)) = f2 → (rec x1 (x3 + 1) v)) ∧ ((v 12 (tn x3)) = f2 → (vp_in x3 20 ∧ (vp_in x3 20 ∧ (s_X1_keepFor v x3 ((v 13 (tn x3)) + (((v 13 (tn x3)) * (v 0 7)) / 100)) (fun (v_1 : V) => rec (x1 + 1) (x3 + 1) v_1))))))))
def sl_X1_keepLateOnes_41 (post : Int32 → V → Prop)  (f2 : Int32) (k0 : Int32 → Int32 → V → Prop) : Nat → Int32 → Int32 → V → Prop
  | 0 => fun _ _ _ => False
  | n + 1 => sb_X1_keepLateOnes_41 post f2 k0 (sl_X1_keepLateOnes_41 post f2 k0 n)
def sb_X1_keepLateOnes_4 (post : Int32 → V → Prop)   (k0 : Int32 → Int32 → V → Prop) (rec : Int32 → Int32 → V → Prop) (x1 : Int32) (x2 : Int32) (v : V) : Prop :=
  ((v 16 0) ≤ x2 → k0 x1 x2 v) ∧ (¬ (v 16 0) ≤ x2 → (vp_in x2 10 ∧ (((v 0 6) < ((v 0 5) - (v 19 (tn x2))) → (∃ n_4 : Nat, sl_X1_keepLateOnes_41 post x2 (fun (x1_5 : Int32) (x3_6 : Int32) (v_7 : V) => rec x1_5 (x2 + 1) v_7) n_4 x1 0 v)) ∧ (¬ (v 0 6) < ((v 0 5) - (v 19 (tn x2))) → (rec x1 (x2 + 1) v)))))
def sl_X1_keepLateOnes_4 (post : Int32 → V → Prop)   (k0 : Int32 → Int32 → V → Prop) : Nat → Int32 → Int32 → V → Prop
  | 0 => fun _ _ _ => False
  | n + 1 => sb_X1_keepLateOnes_4 post k0 (sl_X1_keepLateOnes_4 post k0 n)
def s_X1_keepLateOnes (v : V)   (post : Int32 → V → Prop) : Prop :=
  ∃ n_10 : Nat, sl_X1_keepLateOnes_4 post (fun (x1_11 : Int32) (x2_12 : Int32) (v_13 : V) => post x1_11 v_13) n_10 0 0 v

def sb_X1_passDays_33 (post : Int32 → V → Prop)  (f1 : Int32) (k0 : Int32 → Int32 → V → Prop) (rec : Int32 → Int32 → V → Prop) (x2 : Int32) (x3 : Int32) (v : V) : Prop :=
  (f1 ≤ x3 → k0 x2 x3 v) ∧ (¬ f1 ≤ x3 → (∀ v_1 : V, v_1 = sc v 0 5 ((v 0 5) + 1) → (s_X1_keepLateOnes v_1 (fun (r_2 : Int32) (v_3 : V) => rec (x2 + r_2) (x3 + 1) v_3))))
def sl_X1_passDays_33 (post : Int32 → V → Prop)  (f1 : Int32) (k0 : Int32 → Int32 → V → Prop) : Nat → Int32 → Int32 → V → Prop
  | 0 => fun _ _ _ => False
  | n + 1 => sb_X1_passDays_33 post f1 k0 (sl_X1_passDays_33 post f1 k0 n)
def s_X1_passDays (v : V)  (p1 : Int32) (post : Int32 → V → Prop) : Prop :=
  (p1 < 1 → (post (-10000001) v)) ∧ (¬ p1 < 1 → ((p1 ≤ 99 → ((((v 0 5) + p1) ≤ 2000 → (∃ n_5 : Nat, sl_X1_passDays_33 post p1 (fun (x2_6 : Int32) (x3_7 : Int32) (v_8 : V) => ∀ v_9 : V, v_9 = sc v_8 0 8 ((v_8 0 8) + x2_6) → post x2_6 v_9) n_5 0 0 v)) ∧ (¬ ((v 0 5) + p1) ≤ 2000 → (post (-10000003) v)))) ∧ (¬ p1 ≤ 99 → (post (-10000001) v))))

def s_X1_putSetting (v : V)  (p1 : Int32) (p2 : Int32) (post : Int32 → V → Prop) : Prop :=
  (p1 < 0 → (post (-10000001) v)) ∧ (¬ p1 < 0 → ((1 < p1 → (post (-10000001) v)) ∧ (¬ 1 < p1 → ((p2 < 0 → (post (-10000001) v)) ∧ (¬ p2 < 0 → ((¬ p1 = 0 → ((p2 ≤ 100 → ((¬ p1 = 0 → ((¬ p1 = 0 → (∀ v_1 : V, v_1 = sc v 0 7 p2 → (post (v 0 7) v_1))) ∧ (p1 = 0 → (∀ v_2 : V, v_2 = sc v 0 6 p2 → (post (v 0 7) v_2))))) ∧ (p1 = 0 → ((¬ p1 = 0 → (∀ v_4 : V, v_4 = sc v 0 7 p2 → (post (v 0 6) v_4))) ∧ (p1 = 0 → (∀ v_5 : V, v_5 = sc v 0 6 p2 → (post (v 0 6) v_5))))))) ∧ (¬ p2 ≤ 100 → (post (-10000001) v)))) ∧ (p1 = 0 → ((p2 ≤ 30 → ((¬ p1 = 0 → ((¬ p1 = 0 → (∀ v_9 : V, v_9 = sc v 0 7 p2 → (post (v 0 7) v_9))) ∧ (p1 = 0 → (∀ v_10 : V, v_10 = sc v 0 6 p2 → (post (v 0 7) v_10))))) ∧ (p1 = 0 → ((¬ p1 = 0 → (∀ v_12 : V, v_12 = sc v 0 7 p2 → (post (v 0 6) v_12))) ∧ (p1 = 0 → (∀ v_13 : V, v_13 = sc v 0 6 p2 → (post (v 0 6) v_13))))))) ∧ (¬ p2 ≤ 30 → (post (-10000001) v))))))))))

def s_X1_tellStone (v : V)  (p1 : Int32) (p2 : Int32) (post : Int32 → V → Prop) : Prop :=
  (p2 = 0 → (vp_in p1 20 ∧ (post (v 7 (tn p1)) v))) ∧ ((p2 = 1 → (vp_in p1 20 ∧ (post (v 8 (tn p1)) v))) ∧ ((p2 = 2 → (vp_in p1 20 ∧ (post (v 9 (tn p1)) v))) ∧ ((p2 = 3 → (s_X5_sieveOf v p1 (fun (r_4 : Int32) (v_5 : V) => post r_4 v_5))) ∧ ((p2 = 4 → (s_X5_isSold v p1 (fun (r_7 : Int32) (v_8 : V) => (r_7 = 0 → (vp_in p1 20 ∧ (post (v_8 10 (tn p1)) v_8))) ∧ (¬ r_7 = 0 → (post (-10000004) v_8))))) ∧ ((p2 = 5 → (s_X5_isSold v p1 (fun (r_11 : Int32) (v_12 : V) => (r_11 = 0 → (vp_in p1 20 ∧ (post (v_12 11 (tn p1)) v_12))) ∧ (¬ r_11 = 0 → (post (-10000004) v_12))))) ∧ ((p2 = 6 → (s_X1_priceOf v p1 (fun (r_15 : Int32) (v_16 : V) => (¬ r_15 = (-1) → post r_15 v_16) ∧ (r_15 = (-1) → (post (-10000004) v_16))))) ∧ ((p2 = 7 → (s_X5_isOut v p1 (fun (r_19 : Int32) (v_20 : V) => (r_19 = 0 → (post (-10000004) v_20)) ∧ (¬ r_19 = 0 → (vp_in p1 20 ∧ (post (v_20 12 (tn p1)) v_20)))))) ∧ ((p2 = 8 → (s_X5_isOut v p1 (fun (r_23 : Int32) (v_24 : V) => (r_23 = 0 → (post (-10000004) v_24)) ∧ (¬ r_23 = 0 → (vp_in p1 20 ∧ (post (v_24 13 (tn p1)) v_24)))))) ∧ ((p2 = 9 → (s_X5_isSold v p1 (fun (r_27 : Int32) (v_28 : V) => (r_27 = 0 → (post (-10000004) v_28)) ∧ (¬ r_27 = 0 → (vp_in p1 20 ∧ (post (v_28 14 (tn p1)) v_28)))))) ∧ ((p2 = 10 → (vp_in p1 20 ∧ (post (v 15 (tn p1)) v))) ∧ ((p2.toInt < 0 ∨ 10 < p2.toInt → (post (-10000001) v)))))))))))))

def sb_X1_worthOf_4 (post : Int32 → V → Prop)  (f1 : Int32) (k0 : Int32 → Int32 → V → Prop) (rec : Int32 → Int32 → V → Prop) (x2 : Int32) (x3 : Int32) (v : V) : Prop :=
  ((v 6 0) ≤ x3 → k0 x2 x3 v) ∧ (¬ (v 6 0) ≤ x3 → (s_X1_priceOf v x3 (fun (r_1 : Int32) (v_2 : V) => vp_in x3 20 ∧ ((¬ (v_2 10 (tn x3)) = f1 → (rec x2 (x3 + 1) v_2)) ∧ ((v_2 10 (tn x3)) = f1 → ((r_1 = (-1) → (rec x2 (x3 + 1) v_2)) ∧ (¬ r_1 = (-1) → (rec (x2 + r_1) (x3 + 1) v_2))))))))
def sl_X1_worthOf_4 (post : Int32 → V → Prop)  (f1 : Int32) (k0 : Int32 → Int32 → V → Prop) : Nat → Int32 → Int32 → V → Prop
  | 0 => fun _ _ _ => False
  | n + 1 => sb_X1_worthOf_4 post f1 k0 (sl_X1_worthOf_4 post f1 k0 n)
def s_X1_worthOf (v : V)  (p1 : Int32) (post : Int32 → V → Prop) : Prop :=
  ∃ n_6 : Nat, sl_X1_worthOf_4 post p1 (fun (x2_7 : Int32) (x3_8 : Int32) (v_9 : V) => post x2_7 v_9) n_6 0 0 v

def sb_X5_setWhere_10_5 (post : Int32 → V → Prop)  (f2 : Int32) (k0 : Int32 → Int32 → V → Prop) (rec : Int32 → Int32 → V → Prop) (x3 : Int32) (x4 : Int32) (v : V) : Prop :=
  ((v 6 0) ≤ x4 → k0 x3 x4 v) ∧ (¬ (v 6 0) ≤ x4 → (vp_in x4 20 ∧ ((¬ (v 10 (tn x4)) = f2 → (rec x3 (x4 + 1) v)) ∧ ((v 10 (tn x4)) = f2 → (rec (x3 ||| (1 <<< (x4 &&& 31))) (x4 + 1) v)))))
def sl_X5_setWhere_10_5 (post : Int32 → V → Prop)  (f2 : Int32) (k0 : Int32 → Int32 → V → Prop) : Nat → Int32 → Int32 → V → Prop
  | 0 => fun _ _ _ => False
  | n + 1 => sb_X5_setWhere_10_5 post f2 k0 (sl_X5_setWhere_10_5 post f2 k0 n)
def s_X5_setWhere_10 (v : V)  (p2 : Int32) (post : Int32 → V → Prop) : Prop :=
  ∃ n_3 : Nat, sl_X5_setWhere_10_5 post p2 (fun (x3_4 : Int32) (x4_5 : Int32) (v_6 : V) => post x3_4 v_6) n_3 0 0 v

def sb_X5_setWhere_11_5 (post : Int32 → V → Prop)  (f2 : Int32) (k0 : Int32 → Int32 → V → Prop) (rec : Int32 → Int32 → V → Prop) (x3 : Int32) (x4 : Int32) (v : V) : Prop :=
  ((v 6 0) ≤ x4 → k0 x3 x4 v) ∧ (¬ (v 6 0) ≤ x4 → (vp_in x4 20 ∧ ((¬ (v 11 (tn x4)) = f2 → (rec x3 (x4 + 1) v)) ∧ ((v 11 (tn x4)) = f2 → (rec (x3 ||| (1 <<< (x4 &&& 31))) (x4 + 1) v)))))
def sl_X5_setWhere_11_5 (post : Int32 → V → Prop)  (f2 : Int32) (k0 : Int32 → Int32 → V → Prop) : Nat → Int32 → Int32 → V → Prop
  | 0 => fun _ _ _ => False
  | n + 1 => sb_X5_setWhere_11_5 post f2 k0 (sl_X5_setWhere_11_5 post f2 k0 n)
def s_X5_setWhere_11 (v : V)  (p2 : Int32) (post : Int32 → V → Prop) : Prop :=
  ∃ n_3 : Nat, sl_X5_setWhere_11_5 post p2 (fun (x3_4 : Int32) (x4_5 : Int32) (v_6 : V) => post x3_4 v_6) n_3 0 0 v

def sb_X5_sumAsked_10_5 (post : Int32 → V → Prop)  (f2 : Int32) (k0 : Int32 → Int32 → V → Prop) (rec : Int32 → Int32 → V → Prop) (x3 : Int32) (x4 : Int32) (v : V) : Prop :=
  ((v 6 0) ≤ x4 → k0 x3 x4 v) ∧ (¬ (v 6 0) ≤ x4 → (s_X5_isOut v x4 (fun (r_1 : Int32) (v_2 : V) => (r_1 = 0 → (rec x3 (x4 + 1) v_2)) ∧ (¬ r_1 = 0 → (vp_in x4 20 ∧ ((¬ (v_2 10 (tn x4)) = f2 → (rec x3 (x4 + 1) v_2)) ∧ ((v_2 10 (tn x4)) = f2 → (vp_in x4 20 ∧ (rec (x3 + (v_2 13 (tn x4))) (x4 + 1) v_2)))))))))
def sl_X5_sumAsked_10_5 (post : Int32 → V → Prop)  (f2 : Int32) (k0 : Int32 → Int32 → V → Prop) : Nat → Int32 → Int32 → V → Prop
  | 0 => fun _ _ _ => False
  | n + 1 => sb_X5_sumAsked_10_5 post f2 k0 (sl_X5_sumAsked_10_5 post f2 k0 n)
def s_X5_sumAsked_10 (v : V)  (p2 : Int32) (post : Int32 → V → Prop) : Prop :=
  ∃ n_6 : Nat, sl_X5_sumAsked_10_5 post p2 (fun (x3_7 : Int32) (x4_8 : Int32) (v_9 : V) => post x3_7 v_9) n_6 0 0 v

def sb_X5_sumAsked_11_5 (post : Int32 → V → Prop)  (f2 : Int32) (k0 : Int32 → Int32 → V → Prop) (rec : Int32 → Int32 → V → Prop) (x3 : Int32) (x4 : Int32) (v : V) : Prop :=
  ((v 6 0) ≤ x4 → k0 x3 x4 v) ∧ (¬ (v 6 0) ≤ x4 → (s_X5_isOut v x4 (fun (r_1 : Int32) (v_2 : V) => (r_1 = 0 → (rec x3 (x4 + 1) v_2)) ∧ (¬ r_1 = 0 → (vp_in x4 20 ∧ ((¬ (v_2 11 (tn x4)) = f2 → (rec x3 (x4 + 1) v_2)) ∧ ((v_2 11 (tn x4)) = f2 → (vp_in x4 20 ∧ (rec (x3 + (v_2 13 (tn x4))) (x4 + 1) v_2)))))))))
def sl_X5_sumAsked_11_5 (post : Int32 → V → Prop)  (f2 : Int32) (k0 : Int32 → Int32 → V → Prop) : Nat → Int32 → Int32 → V → Prop
  | 0 => fun _ _ _ => False
  | n + 1 => sb_X5_sumAsked_11_5 post f2 k0 (sl_X5_sumAsked_11_5 post f2 k0 n)
def s_X5_sumAsked_11 (v : V)  (p2 : Int32) (post : Int32 → V → Prop) : Prop :=
  ∃ n_6 : Nat, sl_X5_sumAsked_11_5 post p2 (fun (x3_7 : Int32) (x4_8 : Int32) (v_9 : V) => post x3_7 v_9) n_6 0 0 v

def s_X1_tellDealer (v : V)  (p1 : Int32) (p2 : Int32) (post : Int32 → V → Prop) : Prop :=
  (p2 = 0 → (vp_in p1 6 ∧ (post ((v 22 (tn p1)) + 100000000) v))) ∧ ((p2 = 1 → (s_X5_setWhere_10 v p1 (fun (r_2 : Int32) (v_3 : V) => post r_2 v_3))) ∧ ((p2 = 2 → (s_X5_setWhere_11 v p1 (fun (r_5 : Int32) (v_6 : V) => post r_5 v_6))) ∧ ((p2 = 3 → (s_X1_worthOf v p1 (fun (r_8 : Int32) (v_9 : V) => post r_8 v_9))) ∧ ((p2 = 4 → (s_X5_sumAsked_11 v p1 (fun (r_11 : Int32) (v_12 : V) => post r_11 v_12))) ∧ ((p2 = 5 → (s_X5_sumAsked_10 v p1 (fun (r_14 : Int32) (v_15 : V) => post r_14 v_15))) ∧ ((p2.toInt < 0 ∨ 5 < p2.toInt → (post (-10000001) v))))))))

def s_X1_isOpen (v : V)  (p1 : Int32) (post : Int32 → V → Prop) : Prop :=
  s_X5_setWhere_12 v p1 (fun (r_1 : Int32) (v_2 : V) => (r_1 = 0 → post 0 v_2) ∧ (¬ r_1 = 0 → post 1 v_2))

def s_X1_tellMemo (v : V)  (p1 : Int32) (p2 : Int32) (post : Int32 → V → Prop) : Prop :=
  (p2 = 0 → (vp_in p1 10 ∧ (post (v 17 (tn p1)) v))) ∧ ((p2 = 1 → (vp_in p1 10 ∧ (post (v 18 (tn p1)) v))) ∧ ((p2 = 2 → (vp_in p1 10 ∧ (post (v 19 (tn p1)) v))) ∧ ((p2 = 3 → (s_X5_setWhere_12 v p1 (fun (r_4 : Int32) (v_5 : V) => post r_4 v_5))) ∧ ((p2 = 4 → (vp_in p1 10 ∧ (post (v 20 (tn p1)) v))) ∧ ((p2 = 5 → (vp_in p1 10 ∧ (post (v 21 (tn p1)) v))) ∧ ((p2 = 6 → (s_X1_isOpen v p1 (fun (r_9 : Int32) (v_10 : V) => (r_9 = 0 → post 0 v_10) ∧ (¬ r_9 = 0 → post 1 v_10)))) ∧ ((p2 = 7 → (vp_in p1 10 ∧ (post (if 0 < ((v 19 (tn p1)) - (v 0 5)) then ((v 19 (tn p1)) - (v 0 5)) else 0) v))) ∧ ((p2.toInt < 0 ∨ 7 < p2.toInt → (post (-10000001) v))))))))))

def sb_X1_countOpen_4 (post : Int32 → V → Prop)   (k0 : Int32 → Int32 → V → Prop) (rec : Int32 → Int32 → V → Prop) (x1 : Int32) (x2 : Int32) (v : V) : Prop :=
  ((v 16 0) ≤ x2 → k0 x1 x2 v) ∧ (¬ (v 16 0) ≤ x2 → (s_X1_isOpen v x2 (fun (r_1 : Int32) (v_2 : V) => (r_1 = 0 → (rec x1 (x2 + 1) v_2)) ∧ (¬ r_1 = 0 → (rec (x1 + 1) (x2 + 1) v_2)))))
def sl_X1_countOpen_4 (post : Int32 → V → Prop)   (k0 : Int32 → Int32 → V → Prop) : Nat → Int32 → Int32 → V → Prop
  | 0 => fun _ _ _ => False
  | n + 1 => sb_X1_countOpen_4 post k0 (sl_X1_countOpen_4 post k0 n)
def s_X1_countOpen (v : V)   (post : Int32 → V → Prop) : Prop :=
  ∃ n_5 : Nat, sl_X1_countOpen_4 post (fun (x1_6 : Int32) (x2_7 : Int32) (v_8 : V) => post x1_6 v_8) n_5 0 0 v

def sb_X1_sumOfBalances_4 (post : Int32 → V → Prop)   (k0 : Int32 → Int32 → V → Prop) (rec : Int32 → Int32 → V → Prop) (x1 : Int32) (x2 : Int32) (v : V) : Prop :=
  ((v 0 4) ≤ x2 → k0 x1 x2 v) ∧ (¬ (v 0 4) ≤ x2 → (vp_in x2 6 ∧ (rec (x1 + (v 22 (tn x2))) (x2 + 1) v)))
def sl_X1_sumOfBalances_4 (post : Int32 → V → Prop)   (k0 : Int32 → Int32 → V → Prop) : Nat → Int32 → Int32 → V → Prop
  | 0 => fun _ _ _ => False
  | n + 1 => sb_X1_sumOfBalances_4 post k0 (sl_X1_sumOfBalances_4 post k0 n)
def s_X1_sumOfBalances (v : V)   (post : Int32 → V → Prop) : Prop :=
  ∃ n_2 : Nat, sl_X1_sumOfBalances_4 post (fun (x1_3 : Int32) (x2_4 : Int32) (v_5 : V) => post x1_3 v_5) n_2 0 0 v

def sb_X3_entries_4 (post : Int32 → V → Prop)   (k0 : Int32 → Int32 → V → Prop) (rec : Int32 → Int32 → V → Prop) (x1 : Int32) (x2 : Int32) (v : V) : Prop :=
  (24 ≤ x2 → k0 x1 x2 v) ∧ (¬ 24 ≤ x2 → (vp_in x2 24 ∧ (((v 5 (tn x2)) = 0 → (rec x1 (x2 + 1) v)) ∧ (¬ (v 5 (tn x2)) = 0 → (rec (x1 + 1) (x2 + 1) v)))))
def sl_X3_entries_4 (post : Int32 → V → Prop)   (k0 : Int32 → Int32 → V → Prop) : Nat → Int32 → Int32 → V → Prop
  | 0 => fun _ _ _ => False
  | n + 1 => sb_X3_entries_4 post k0 (sl_X3_entries_4 post k0 n)
def s_X3_entries (v : V)   (post : Int32 → V → Prop) : Prop :=
  ∃ n_3 : Nat, sl_X3_entries_4 post (fun (x1_4 : Int32) (x2_5 : Int32) (v_6 : V) => post x1_4 v_6) n_3 0 0 v

def sb_X5_countOut_4 (post : Int32 → V → Prop)   (k0 : Int32 → Int32 → V → Prop) (rec : Int32 → Int32 → V → Prop) (x1 : Int32) (x2 : Int32) (v : V) : Prop :=
  ((v 6 0) ≤ x2 → k0 x1 x2 v) ∧ (¬ (v 6 0) ≤ x2 → (s_X5_isOut v x2 (fun (r_1 : Int32) (v_2 : V) => (r_1 = 0 → (rec x1 (x2 + 1) v_2)) ∧ (¬ r_1 = 0 → (rec (x1 + 1) (x2 + 1) v_2)))))
def sl_X5_countOut_4 (post : Int32 → V → Prop)   (k0 : Int32 → Int32 → V → Prop) : Nat → Int32 → Int32 → V → Prop
  | 0 => fun _ _ _ => False
  | n + 1 => sb_X5_countOut_4 post k0 (sl_X5_countOut_4 post k0 n)
def s_X5_countOut (v : V)   (post : Int32 → V → Prop) : Prop :=
  ∃ n_5 : Nat, sl_X5_countOut_4 post (fun (x1_6 : Int32) (x2_7 : Int32) (v_8 : V) => post x1_6 v_8) n_5 0 0 v

def sb_X5_countSold_4 (post : Int32 → V → Prop)   (k0 : Int32 → Int32 → V → Prop) (rec : Int32 → Int32 → V → Prop) (x1 : Int32) (x2 : Int32) (v : V) : Prop :=
  ((v 6 0) ≤ x2 → k0 x1 x2 v) ∧ (¬ (v 6 0) ≤ x2 → (s_X5_isSold v x2 (fun (r_1 : Int32) (v_2 : V) => (r_1 = 0 → (rec x1 (x2 + 1) v_2)) ∧ (¬ r_1 = 0 → (rec (x1 + 1) (x2 + 1) v_2)))))
def sl_X5_countSold_4 (post : Int32 → V → Prop)   (k0 : Int32 → Int32 → V → Prop) : Nat → Int32 → Int32 → V → Prop
  | 0 => fun _ _ _ => False
  | n + 1 => sb_X5_countSold_4 post k0 (sl_X5_countSold_4 post k0 n)
def s_X5_countSold (v : V)   (post : Int32 → V → Prop) : Prop :=
  ∃ n_5 : Nat, sl_X5_countSold_4 post (fun (x1_6 : Int32) (x2_7 : Int32) (v_8 : V) => post x1_6 v_8) n_5 0 0 v

def sb_X5_sumSold_4 (post : Int32 → V → Prop)   (k0 : Int32 → Int32 → V → Prop) (rec : Int32 → Int32 → V → Prop) (x1 : Int32) (x2 : Int32) (v : V) : Prop :=
  ((v 6 0) ≤ x2 → k0 x1 x2 v) ∧ (¬ (v 6 0) ≤ x2 → (vp_in x2 20 ∧ (rec (x1 + (v 14 (tn x2))) (x2 + 1) v)))
def sl_X5_sumSold_4 (post : Int32 → V → Prop)   (k0 : Int32 → Int32 → V → Prop) : Nat → Int32 → Int32 → V → Prop
  | 0 => fun _ _ _ => False
  | n + 1 => sb_X5_sumSold_4 post k0 (sl_X5_sumSold_4 post k0 n)
def s_X5_sumSold (v : V)   (post : Int32 → V → Prop) : Prop :=
  ∃ n_2 : Nat, sl_X5_sumSold_4 post (fun (x1_3 : Int32) (x2_4 : Int32) (v_5 : V) => post x1_3 v_5) n_2 0 0 v

def s_X1_tellNumber (v : V)  (p1 : Int32) (post : Int32 → V → Prop) : Prop :=
  (p1 = 0 → (post (v 0 4) v)) ∧ ((p1 = 1 → (post (v 6 0) v)) ∧ ((p1 = 2 → (s_X5_countSold v (fun (r_3 : Int32) (v_4 : V) => post r_3 v_4))) ∧ ((p1 = 3 → (s_X5_countOut v (fun (r_6 : Int32) (v_7 : V) => post r_6 v_7))) ∧ ((p1 = 4 → (post (v 16 0) v)) ∧ ((p1 = 5 → (s_X1_countOpen v (fun (r_10 : Int32) (v_11 : V) => post r_10 v_11))) ∧ ((p1 = 6 → (s_X3_entries v (fun (r_13 : Int32) (v_14 : V) => post r_13 v_14))) ∧ ((p1 = 7 → (post (v 0 5) v)) ∧ ((p1 = 8 → (s_X1_sumOfBalances v (fun (r_17 : Int32) (v_18 : V) => post (r_17 + 100000000) v_18))) ∧ ((p1 = 9 → (s_X5_sumSold v (fun (r_20 : Int32) (v_21 : V) => post r_20 v_21))) ∧ ((p1 = 10 → (post (v 0 8) v)) ∧ ((p1 = 11 → (post (-10000001) v)) ∧ ((p1 = 12 → (post (-10000001) v)) ∧ ((p1 = 13 → (post (-10000001) v)) ∧ ((p1 = 14 → (post (v 0 6) v)) ∧ ((p1 = 15 → (post (v 0 7) v)) ∧ ((p1.toInt < 0 ∨ 15 < p1.toInt → (post (-10000001) v))))))))))))))))))

def sb_X1_dearestHeld_8 (post : Int32 → V → Prop)  (f1 : Int32) (f2 : Int32) (k0 : Int32 → Int32 → Int32 → V → Prop) (rec : Int32 → Int32 → Int32 → V → Prop) (x3 : Int32) (x4 : Int32) (x5 : Int32) (v : V) : Prop :=
  ((v 6 0) ≤ x5 → k0 x3 x4 x5 v) ∧ (¬ (v 6 0) ≤ x5 → (s_X1_priceOf v x5 (fun (r_1 : Int32) (v_2 : V) => vp_in x5 20 ∧ ((¬ (v_2 11 (tn x5)) = f1 → (rec x3 x4 (x5 + 1) v_2)) ∧ ((v_2 11 (tn x5)) = f1 → ((r_1 = (-1) → (rec x3 x4 (x5 + 1) v_2)) ∧ (¬ r_1 = (-1) → ((r_1 ≤ f2 → ((x3 = (-1) → (rec x5 r_1 (x5 + 1) v_2)) ∧ (¬ x3 = (-1) → ((x4 < r_1 → (rec x5 r_1 (x5 + 1) v_2)) ∧ (¬ x4 < r_1 → ((¬ r_1 = x4 → (rec x3 x4 (x5 + 1) v_2)) ∧ (r_1 = x4 → (vp_in x5 20 ∧ (vp_in x3 20 ∧ (((v_2 7 (tn x5)) ≤ (v_2 7 (tn x3)) → (rec x3 x4 (x5 + 1) v_2)) ∧ (¬ (v_2 7 (tn x5)) ≤ (v_2 7 (tn x3)) → (rec x5 r_1 (x5 + 1) v_2)))))))))))) ∧ (¬ r_1 ≤ f2 → (rec x3 x4 (x5 + 1) v_2))))))))))
def sl_X1_dearestHeld_8 (post : Int32 → V → Prop)  (f1 : Int32) (f2 : Int32) (k0 : Int32 → Int32 → Int32 → V → Prop) : Nat → Int32 → Int32 → Int32 → V → Prop
  | 0 => fun _ _ _ _ => False
  | n + 1 => sb_X1_dearestHeld_8 post f1 f2 k0 (sl_X1_dearestHeld_8 post f1 f2 k0 n)
def s_X1_dearestHeld (v : V)  (p1 : Int32) (p2 : Int32) (post : Int32 → V → Prop) : Prop :=
  ∃ n_11 : Nat, sl_X1_dearestHeld_8 post p1 p2 (fun (x3_12 : Int32) (x4_13 : Int32) (x5_14 : Int32) (v_15 : V) => (¬ x3_12 = (-1) → post x3_12 v_15) ∧ (x3_12 = (-1) → (post (-10000004) v_15))) n_11 (-1) 0 0 v

def s_X4_append (v : V)  (p1 : Int32) (post : Int32 → V → Prop) : Prop :=
  ((v 0 1) < 0 → (post (-10000003) v)) ∧ (¬ (v 0 1) < 0 → (((v 0 1) < 60 → (vp_in (v 0 1) 60 ∧ (∀ v_1 : V, v_1 = st v 1 (tn (v 0 1)) (vp_nar .char p1) → (∀ v_2 : V, v_2 = sc v_1 0 1 ((v_1 0 1) + 1) → (post (v_2 0 1) v_2))))) ∧ (¬ (v 0 1) < 60 → (post (-10000003) v))))

def s_X4_hasFault (v : V)   (post : Int32 → V → Prop) : Prop :=
  ((v 0 5) = (-1) → post 0 v) ∧ (¬ (v 0 5) = (-1) → post 1 v)

def s_X4_tellFault (v : V)  (p1 : Int32) (post : Int32 → V → Prop) : Prop :=
  (¬ (v 0 5) = (-1) → ((¬ p1 = 0 → ((¬ p1 = 1 → (post (v 0 7) v)) ∧ (p1 = 1 → (post (v 0 6) v)))) ∧ (p1 = 0 → (post (v 0 5) v)))) ∧ ((v 0 5) = (-1) → (post (-10000004) v))

def s_X4_perform (v0 : V) (v1 : V)   (post : Int32 → V → V → Prop) : Prop :=
  ((v0 0 2) = 0 → (s_X5_has v1 (v0 2 (tn 3)) (fun (r_1 : Int32) (v_2 : V) => (r_1 = 0 → (s_X1_lendStones v_2 (v0 2 (tn 0)) (v0 2 (tn 1)) (v0 2 (tn 2)) 0 (fun (r_3 : Int32) (v_4 : V) => post r_3 v0 v_4))) ∧ (¬ r_1 = 0 → (s_X1_lendStones v_2 (v0 2 (tn 0)) (v0 2 (tn 1)) (v0 2 (tn 2)) (1 <<< ((v0 2 (tn 3)) &&& 31)) (fun (r_5 : Int32) (v_6 : V) => post r_5 v0 v_6)))))) ∧ (((v0 0 2) = 1 → (s_X1_giveBack v1 (v0 2 (tn 0)) (fun (r_9 : Int32) (v_10 : V) => post r_9 v0 v_10))) ∧ (((v0 0 2) = 2 → (s_X1_keepStone v1 (v0 2 (tn 0)) (fun (r_12 : Int32) (v_13 : V) => post r_12 v0 v_13))) ∧ (((v0 0 2) = 3 → (s_X1_sellStone v1 (v0 2 (tn 0)) (v0 2 (tn 1)) (fun (r_15 : Int32) (v_16 : V) => post r_15 v0 v_16))) ∧ (((v0 0 2) = 4 → (s_X1_regrade v1 (v0 2 (tn 0)) (v0 2 (tn 1)) (v0 2 (tn 2)) (fun (r_18 : Int32) (v_19 : V) => post r_18 v0 v_19))) ∧ (((v0 0 2) = 5 → (s_X1_putRate v1 (v0 2 (tn 0)) (v0 2 (tn 1)) (v0 2 (tn 2)) (v0 2 (tn 3)) (fun (r_21 : Int32) (v_22 : V) => post r_21 v0 v_22))) ∧ (((v0 0 2) = 6 → (s_X1_passDays v1 (v0 2 (tn 0)) (fun (r_24 : Int32) (v_25 : V) => post r_24 v0 v_25))) ∧ (((v0 0 2).toInt < 0 ∨ 6 < (v0 0 2).toInt → (s_X1_passDays v1 (v0 2 (tn 0)) (fun (r_27 : Int32) (v_28 : V) => post r_27 v0 v_28))))))))))

def s_X4_putFault (v : V)  (p1 : Int32) (p2 : Int32) (p3 : Int32) (post : V → Prop) : Prop :=
  ∀ v_1 : V, v_1 = sc v 0 5 p1 → (∀ v_2 : V, v_2 = sc v_1 0 6 p2 → (∀ v_3 : V, v_3 = sc v_2 0 7 p3 → post v_3))

def s_J0_coder_7d493  (w : Nat)  (post : Int32 → Prop) : Prop :=
  w < 7 ∧ post 0

def s_J0_length_8abf5  (w : Nat)  (post : Int32 → Prop) : Prop :=
  w < 7 ∧ (w < 7 ∧ (w < 7 ∧ s_J0_coder_7d493 w (fun (r_1 : Int32) => post ((nI (litLen.getD w 0)) >>> (r_1 &&& 31)))))

def s_X4_howManyNumbers   (p0 : Int32) (post : Int32 → Prop) : Prop :=
  (p0 = 0 → post 4) ∧ ((p0 = 1 → post 1) ∧ ((p0 = 2 → post 1) ∧ ((p0 = 3 → post 2) ∧ ((p0 = 4 → post 3) ∧ ((p0 = 5 → post 4) ∧ ((p0 = 6 → post 1) ∧ ((p0.toInt < 0 ∨ 6 < p0.toInt → post 1))))))))

def s_J0_isLatin1_aae02  (w : Nat)  (post : Int32 → Prop) : Prop :=
  w < 7 ∧ post 1

def s_J3_checkIndex_8e157   (p0 : Int32) (p1 : Int32) (post : Int32 → Prop) : Prop :=
  (p0 < 0 → False) ∧ (¬ p0 < 0 → ((p0 < p1 → post p0) ∧ (¬ p0 < p1 → False)))

def s_J0_checkIndex_df160   (p0 : Int32) (p1 : Int32) (post : Prop) : Prop :=
  s_J3_checkIndex_8e157 p0 p1 (fun (r_1 : Int32) => post)

def s_J1_charAt_3b067  (w : Nat) (p1 : Int32) (post : Int32 → Prop) : Prop :=
  w < 7 ∧ (s_J0_checkIndex_df160 p1 (nI (litLen.getD w 0)) (w < 7 ∧ vp_in p1 (litLen.getD w 0) ∧ (narrow .char (.int ((((((litByt.getD w []).getD (tn p1) 0) &&& 255) : Int32).toUInt32 % 65536).toInt32)) = .int ((((((litByt.getD w []).getD (tn p1) 0) &&& 255) : Int32).toUInt32 % 65536).toInt32) ∧ post ((((((litByt.getD w []).getD (tn p1) 0) &&& 255) : Int32).toUInt32 % 65536).toInt32))))

def s_J0_charAt_5068e  (w : Nat) (p1 : Int32) (post : Int32 → Prop) : Prop :=
  w < 7 ∧ s_J0_isLatin1_aae02 w (fun (r_1 : Int32) => (r_1 = 0 → False) ∧ (¬ r_1 = 0 → (w < 7 ∧ (s_J1_charAt_3b067 w p1 (fun (r_2 : Int32) => narrow .char (.int r_2) = .int r_2 ∧ post r_2)))))

def s_X4_signAt (v : V)  (p1 : Int32) (post : Int32 → V → Prop) : Prop :=
  (p1 < 0 → post 0 v) ∧ (¬ p1 < 0 → (((v 0 1) ≤ p1 → post 0 v) ∧ (¬ (v 0 1) ≤ p1 → ((60 ≤ p1 → post 0 v) ∧ (¬ 60 ≤ p1 → (vp_in p1 60 ∧ (narrow .char (.int (v 1 (tn p1))) = .int (v 1 (tn p1)) ∧ post (v 1 (tn p1)) v)))))))

def sb_X4_isWordAt_2 (post : Int32 → V → Prop) (w : Nat) (f1 : Int32) (k0 : Int32 → V → Prop) (rec : Int32 → V → Prop) (x3 : Int32) (v : V) : Prop :=
  w < 7 ∧ s_J0_length_8abf5 w (fun (r_1 : Int32) => (r_1 ≤ x3 → k0 x3 v) ∧ (¬ r_1 ≤ x3 → (s_X4_signAt v (f1 + x3) (fun (r_2 : Int32) (v_3 : V) => w < 7 ∧ s_J0_charAt_5068e w x3 (fun (r_4 : Int32) => (r_2 = r_4 → (rec (x3 + 1) v_3)) ∧ (¬ r_2 = r_4 → post 0 v_3))))))
def sl_X4_isWordAt_2 (post : Int32 → V → Prop) (w : Nat) (f1 : Int32) (k0 : Int32 → V → Prop) : Nat → Int32 → V → Prop
  | 0 => fun _ _ => False
  | n + 1 => sb_X4_isWordAt_2 post w f1 k0 (sl_X4_isWordAt_2 post w f1 k0 n)
def s_X4_isWordAt (v : V) (w : Nat) (p1 : Int32) (post : Int32 → V → Prop) : Prop :=
  ∃ n_9 : Nat, sl_X4_isWordAt_2 post w p1 (fun (x3_10 : Int32) (v_11 : V) => post 1 v_11) n_9 0 v

def s_X4_isDigit   (p0 : Int32) (post : Int32 → Prop) : Prop :=
  (p0 < 48 → post 0) ∧ (¬ p0 < 48 → ((57 < p0 → post 0) ∧ (¬ 57 < p0 → post 1)))

def sb_X4_digitsAt_2 (post : Int32 → V → Prop)  (f1 : Int32) (k0 : Int32 → V → Prop) (rec : Int32 → V → Prop) (x2 : Int32) (v : V) : Prop :=
  (4 ≤ x2 → k0 x2 v) ∧ (¬ 4 ≤ x2 → (s_X4_signAt v (f1 + x2) (fun (r_1 : Int32) (v_2 : V) => s_X4_isDigit r_1 (fun (r_3 : Int32) => (r_3 = 0 → k0 x2 v_2) ∧ (¬ r_3 = 0 → (rec (x2 + 1) v_2))))))
def sl_X4_digitsAt_2 (post : Int32 → V → Prop)  (f1 : Int32) (k0 : Int32 → V → Prop) : Nat → Int32 → V → Prop
  | 0 => fun _ _ => False
  | n + 1 => sb_X4_digitsAt_2 post f1 k0 (sl_X4_digitsAt_2 post f1 k0 n)
def s_X4_digitsAt (v : V)  (p1 : Int32) (post : Int32 → V → Prop) : Prop :=
  ∃ n_7 : Nat, sl_X4_digitsAt_2 post p1 (fun (x2_8 : Int32) (v_9 : V) => post x2_8 v_9) n_7 0 v

def sb_X4_valueAt_5 (post : Int32 → V → Prop)  (f1 : Int32) (f2 : Int32) (k0 : Int32 → Int32 → V → Prop) (rec : Int32 → Int32 → V → Prop) (x3 : Int32) (x4 : Int32) (v : V) : Prop :=
  (f2 ≤ x4 → k0 x3 x4 v) ∧ (¬ f2 ≤ x4 → (s_X4_signAt v (f1 + x4) (fun (r_1 : Int32) (v_2 : V) => rec (((10 * x3) + r_1) - 48) (x4 + 1) v_2)))
def sl_X4_valueAt_5 (post : Int32 → V → Prop)  (f1 : Int32) (f2 : Int32) (k0 : Int32 → Int32 → V → Prop) : Nat → Int32 → Int32 → V → Prop
  | 0 => fun _ _ _ => False
  | n + 1 => sb_X4_valueAt_5 post f1 f2 k0 (sl_X4_valueAt_5 post f1 f2 k0 n)
def s_X4_valueAt (v : V)  (p1 : Int32) (p2 : Int32) (post : Int32 → V → Prop) : Prop :=
  ∃ n_4 : Nat, sl_X4_valueAt_5 post p1 p2 (fun (x3_5 : Int32) (x4_6 : Int32) (v_7 : V) => post x3_5 v_7) n_4 0 0 v

def sb_X4_readNumbers_5 (post : Int32 → V → Prop)  (f2 : Int32) (k0 : Int32 → Int32 → V → Prop) (rec : Int32 → Int32 → V → Prop) (x3 : Int32) (x4 : Int32) (v : V) : Prop :=
  (f2 ≤ x4 → k0 x3 x4 v) ∧ (¬ f2 ≤ x4 → ((4 ≤ x4 → k0 x3 x4 v) ∧ (¬ 4 ≤ x4 → (s_X4_digitsAt v (x3 + 1) (fun (r_1 : Int32) (v_2 : V) => s_X4_signAt v_2 x3 (fun (r_3 : Int32) (v_4 : V) => (¬ r_3 = 32 → post 0 v_4) ∧ (r_3 = 32 → ((¬ r_1 = 0 → (s_X4_valueAt v_4 (x3 + 1) r_1 (fun (r_5 : Int32) (v_6 : V) => vp_in x4 4 ∧ (∀ v_7 : V, v_7 = st v_6 2 (tn x4) r_5 → (rec (x3 + (1 + r_1)) (x4 + 1) v_7))))) ∧ (r_1 = 0 → post 0 v_4)))))))))
def sl_X4_readNumbers_5 (post : Int32 → V → Prop)  (f2 : Int32) (k0 : Int32 → Int32 → V → Prop) : Nat → Int32 → Int32 → V → Prop
  | 0 => fun _ _ _ => False
  | n + 1 => sb_X4_readNumbers_5 post f2 k0 (sl_X4_readNumbers_5 post f2 k0 n)
def s_X4_readNumbers (v : V)  (p1 : Int32) (p2 : Int32) (post : Int32 → V → Prop) : Prop :=
  ∃ n_12 : Nat, sl_X4_readNumbers_5 post p2 (fun (x3_13 : Int32) (x4_14 : Int32) (v_15 : V) => ∀ v_16 : V, v_16 = sc v_15 0 4 (x3_13 + 1) → (s_X4_signAt v_16 x3_13 (fun (r_17 : Int32) (v_18 : V) => (¬ r_17 = 59 → post 0 v_18) ∧ (r_17 = 59 → post 1 v_18)))) n_12 p1 0 v

def s_X4_wordOf   (p0 : Int32) (post : Nat → Prop) : Prop :=
  (p0 = 0 → post 0) ∧ ((p0 = 1 → post 1) ∧ ((p0 = 2 → post 2) ∧ ((p0 = 3 → post 3) ∧ ((p0 = 4 → post 4) ∧ ((p0 = 5 → post 5) ∧ ((p0 = 6 → post 6) ∧ ((p0.toInt < 0 ∨ 6 < p0.toInt → post 6))))))))

def sb_X4_readCommand_2 (post : Int32 → V → Prop)  (f1 : Int32) (k0 : Int32 → V → Prop) (rec : Int32 → V → Prop) (x2 : Int32) (v : V) : Prop :=
  (7 ≤ x2 → k0 x2 v) ∧ (¬ 7 ≤ x2 → (s_X4_wordOf x2 (fun (r_1 : Nat) => s_X4_isWordAt v r_1 f1 (fun (r_2 : Int32) (v_3 : V) => (r_2 = 0 → (rec (x2 + 1) v_3)) ∧ (¬ r_2 = 0 → (∀ v_4 : V, v_4 = sc v_3 0 2 x2 → (r_1 < 7 ∧ s_J0_length_8abf5 r_1 (fun (r_5 : Int32) => s_X4_howManyNumbers x2 (fun (r_6 : Int32) => s_X4_readNumbers v_4 (f1 + r_5) r_6 (fun (r_7 : Int32) (v_8 : V) => narrow .boolean (.int r_7) = .int r_7 ∧ post r_7 v_8))))))))))
def sl_X4_readCommand_2 (post : Int32 → V → Prop)  (f1 : Int32) (k0 : Int32 → V → Prop) : Nat → Int32 → V → Prop
  | 0 => fun _ _ => False
  | n + 1 => sb_X4_readCommand_2 post f1 k0 (sl_X4_readCommand_2 post f1 k0 n)
def s_X4_readCommand (v : V)  (p1 : Int32) (post : Int32 → V → Prop) : Prop :=
  ∃ n_14 : Nat, sl_X4_readCommand_2 post p1 (fun (x2_15 : Int32) (v_16 : V) => post 0 v_16) n_14 0 v

def sb_X4_runOn_9 (post : Int32 → V → V → Prop)   (k0 : Int32 → Int32 → V → V → Prop) (rec : Int32 → Int32 → V → V → Prop) (x2 : Int32) (x3 : Int32) (v0 : V) (v1 : V) : Prop :=
  ((v0 0 1) ≤ x2 → k0 x2 x3 v0 v1) ∧ (¬ (v0 0 1) ≤ x2 → ((60 ≤ x3 → k0 x2 x3 v0 v1) ∧ (¬ 60 ≤ x3 → (s_X4_readCommand v0 x2 (fun (r_2 : Int32) (v_3 : V) => (¬ r_2 = 0 → (s_X4_perform v_3 v1 (fun (r_4 : Int32) (v_5 : V) (v_6 : V) => (0 ≤ r_4 → (rec (v_5 0 4) (x3 + 1) v_5 v_6)) ∧ (¬ 0 ≤ r_4 → (s_X4_putFault v_5 x2 2 r_4 (fun (v_7 : V) => post x3 v_7 v_6)))))) ∧ (r_2 = 0 → (s_X4_putFault v_3 x2 1 (-10000004) (fun (v_10 : V) => post x3 v_10 v1))))))))
def sl_X4_runOn_9 (post : Int32 → V → V → Prop)   (k0 : Int32 → Int32 → V → V → Prop) : Nat → Int32 → Int32 → V → V → Prop
  | 0 => fun _ _ _ _ => False
  | n + 1 => sb_X4_runOn_9 post k0 (sl_X4_runOn_9 post k0 n)
def s_X4_runOn (v0 : V) (v1 : V)   (post : Int32 → V → V → Prop) : Prop :=
  ∀ v_1 : V, v_1 = sc v0 0 5 (-1) → (∃ n_14 : Nat, sl_X4_runOn_9 post (fun (x2_15 : Int32) (x3_16 : Int32) (v_17 : V) (v_18 : V) => post x3_16 v_17 v_18) n_14 0 0 v_1 v1)

def s_X5_sameGrade (v : V)  (p1 : Int32) (p2 : Int32) (post : Int32 → V → Prop) : Prop :=
  s_X5_sieveOf v p1 (fun (r_1 : Int32) (v_2 : V) => s_X5_sieveOf v_2 p2 (fun (r_3 : Int32) (v_4 : V) => (¬ r_1 = r_3 → post 0 v_4) ∧ (r_1 = r_3 → (vp_in p1 20 ∧ (vp_in p2 20 ∧ ((¬ (v_4 8 (tn p1)) = (v_4 8 (tn p2)) → post 0 v_4) ∧ ((v_4 8 (tn p1)) = (v_4 8 (tn p2)) → (vp_in p1 20 ∧ (vp_in p2 20 ∧ ((¬ (v_4 9 (tn p1)) = (v_4 9 (tn p2)) → post 0 v_4) ∧ ((v_4 9 (tn p1)) = (v_4 9 (tn p2)) → post 1 v_4)))))))))))

def sb_X5_closestPair_26 (post : Int32 → V → Prop)  (f1 : Int32) (f2 : Int32) (f6 : Int32) (k0 : Int32 → Int32 → Int32 → Int32 → V → Prop) (rec : Int32 → Int32 → Int32 → Int32 → V → Prop) (x3 : Int32) (x4 : Int32) (x5 : Int32) (x7 : Int32) (v : V) : Prop :=
  ((v 6 0) ≤ x7 → k0 x3 x4 x5 x7 v) ∧ (¬ (v 6 0) ≤ x7 → (vp_in f6 20 ∧ (vp_in x7 20 ∧ (vp_in f6 20 ∧ ((¬ (v 11 (tn f6)) = f1 → (rec x3 x4 x5 (x7 + 1) v)) ∧ ((v 11 (tn f6)) = f1 → (vp_in x7 20 ∧ ((¬ (v 11 (tn x7)) = f1 → (rec x3 x4 x5 (x7 + 1) v)) ∧ ((v 11 (tn x7)) = f1 → (s_X5_sameGrade v f6 x7 (fun (r_1 : Int32) (v_2 : V) => (r_1 = 0 → (rec x3 x4 x5 (x7 + 1) v_2)) ∧ (¬ r_1 = 0 → ((x3 = (-1) → (rec f6 x7 (if 0 ≤ ((v 7 (tn f6)) - (v 7 (tn x7))) then ((v 7 (tn f6)) - (v 7 (tn x7))) else 0 - ((v 7 (tn f6)) - (v 7 (tn x7)))) (x7 + 1) v_2)) ∧ (¬ x3 = (-1) → ((x5 ≤ (if 0 ≤ ((v 7 (tn f6)) - (v 7 (tn x7))) then ((v 7 (tn f6)) - (v 7 (tn x7))) else 0 - ((v 7 (tn f6)) - (v 7 (tn x7)))) → (rec x3 x4 x5 (x7 + 1) v_2)) ∧ (¬ x5 ≤ (if 0 ≤ ((v 7 (tn f6)) - (v 7 (tn x7))) then ((v 7 (tn f6)) - (v 7 (tn x7))) else 0 - ((v 7 (tn f6)) - (v 7 (tn x7)))) → (rec f6 x7 (if 0 ≤ ((v 7 (tn f6)) - (v 7 (tn x7))) then ((v 7 (tn f6)) - (v 7 (tn x7))) else 0 - ((v 7 (tn f6)) - (v 7 (tn x7)))) (x7 + 1) v_2)))))))))))))))))
def sl_X5_closestPair_26 (post : Int32 → V → Prop)  (f1 : Int32) (f2 : Int32) (f6 : Int32) (k0 : Int32 → Int32 → Int32 → Int32 → V → Prop) : Nat → Int32 → Int32 → Int32 → Int32 → V → Prop
  | 0 => fun _ _ _ _ _ => False
  | n + 1 => sb_X5_closestPair_26 post f1 f2 f6 k0 (sl_X5_closestPair_26 post f1 f2 f6 k0 n)
def sb_X5_closestPair_11 (post : Int32 → V → Prop)  (f1 : Int32) (f2 : Int32) (k0 : Int32 → Int32 → Int32 → Int32 → V → Prop) (rec : Int32 → Int32 → Int32 → Int32 → V → Prop) (x3 : Int32) (x4 : Int32) (x5 : Int32) (x6 : Int32) (v : V) : Prop :=
  ((v 6 0) ≤ x6 → k0 x3 x4 x5 x6 v) ∧ (¬ (v 6 0) ≤ x6 → (∃ n_9 : Nat, sl_X5_closestPair_26 post f1 f2 x6 (fun (x3_10 : Int32) (x4_11 : Int32) (x5_12 : Int32) (x7_13 : Int32) (v_14 : V) => rec x3_10 x4_11 x5_12 (x6 + 1) v_14) n_9 x3 x4 x5 (x6 + 1) v))
def sl_X5_closestPair_11 (post : Int32 → V → Prop)  (f1 : Int32) (f2 : Int32) (k0 : Int32 → Int32 → Int32 → Int32 → V → Prop) : Nat → Int32 → Int32 → Int32 → Int32 → V → Prop
  | 0 => fun _ _ _ _ _ => False
  | n + 1 => sb_X5_closestPair_11 post f1 f2 k0 (sl_X5_closestPair_11 post f1 f2 k0 n)
def s_X5_closestPair (v : V)  (p1 : Int32) (p2 : Int32) (post : Int32 → V → Prop) : Prop :=
  ∃ n_16 : Nat, sl_X5_closestPair_11 post p1 p2 (fun (x3_17 : Int32) (x4_18 : Int32) (x5_19 : Int32) (x6_20 : Int32) (v_21 : V) => (¬ x3_17 = (-1) → ((¬ p2 = 0 → ((¬ p2 = 1 → post x5_19 v_21) ∧ (p2 = 1 → post x4_18 v_21))) ∧ (p2 = 0 → post x3_17 v_21))) ∧ (x3_17 = (-1) → (post (-10000004) v_21))) n_16 (-1) (-1) 0 0 v

def sb_X5_hasLikeBefore_2 (post : Int32 → V → Prop)  (f1 : Int32) (f2 : Int32) (k0 : Int32 → V → Prop) (rec : Int32 → V → Prop) (x3 : Int32) (v : V) : Prop :=
  (f1 ≤ x3 → k0 x3 v) ∧ (¬ f1 ≤ x3 → (vp_in x3 20 ∧ ((¬ (v 11 (tn x3)) = f2 → (rec (x3 + 1) v)) ∧ ((v 11 (tn x3)) = f2 → (s_X5_sameGrade v x3 f1 (fun (r_1 : Int32) (v_2 : V) => (r_1 = 0 → (rec (x3 + 1) v_2)) ∧ (¬ r_1 = 0 → post 1 v_2)))))))
def sl_X5_hasLikeBefore_2 (post : Int32 → V → Prop)  (f1 : Int32) (f2 : Int32) (k0 : Int32 → V → Prop) : Nat → Int32 → V → Prop
  | 0 => fun _ _ => False
  | n + 1 => sb_X5_hasLikeBefore_2 post f1 f2 k0 (sl_X5_hasLikeBefore_2 post f1 f2 k0 n)
def s_X5_hasLikeBefore (v : V)  (p1 : Int32) (p2 : Int32) (post : Int32 → V → Prop) : Prop :=
  ∃ n_6 : Nat, sl_X5_hasLikeBefore_2 post p1 p2 (fun (x3_7 : Int32) (v_8 : V) => post 0 v_8) n_6 0 v

def sb_X5_unlikeGrades_4 (post : Int32 → V → Prop)  (f1 : Int32) (k0 : Int32 → Int32 → V → Prop) (rec : Int32 → Int32 → V → Prop) (x2 : Int32) (x3 : Int32) (v : V) : Prop :=
  ((v 6 0) ≤ x3 → k0 x2 x3 v) ∧ (¬ (v 6 0) ≤ x3 → (vp_in x3 20 ∧ ((¬ (v 11 (tn x3)) = f1 → (rec x2 (x3 + 1) v)) ∧ ((v 11 (tn x3)) = f1 → (s_X5_hasLikeBefore v x3 f1 (fun (r_1 : Int32) (v_2 : V) => (¬ r_1 = 0 → (rec x2 (x3 + 1) v_2)) ∧ (r_1 = 0 → (rec (x2 + 1) (x3 + 1) v_2))))))))
def sl_X5_unlikeGrades_4 (post : Int32 → V → Prop)  (f1 : Int32) (k0 : Int32 → Int32 → V → Prop) : Nat → Int32 → Int32 → V → Prop
  | 0 => fun _ _ _ => False
  | n + 1 => sb_X5_unlikeGrades_4 post f1 k0 (sl_X5_unlikeGrades_4 post f1 k0 n)
def s_X5_unlikeGrades (v : V)  (p1 : Int32) (post : Int32 → V → Prop) : Prop :=
  ∃ n_6 : Nat, sl_X5_unlikeGrades_4 post p1 (fun (x2_7 : Int32) (x3_8 : Int32) (v_9 : V) => post x2_7 v_9) n_6 0 0 v

def s_X6_recorded (v0 : V) (v1 : V) (v2 : V) (v3 : V) (v4 : V) (v5 : V) (v6 : V)  (p1 : Int32) (post : Int32 → V → V → V → V → V → V → V → Prop) : Prop :=
  (p1 < 0 → post p1 v0 v1 v2 v3 v4 v5 v6) ∧ (¬ p1 < 0 → (s_X0_push v2 v3 v4 v5 v6 v1 (fun (v_1 : V) (v_2 : V) (v_3 : V) (v_4 : V) (v_5 : V) (v_6 : V) => post p1 v0 v_6 v_1 v_2 v_3 v_4 v_5)))

def s_X6_dealer (v0 : V) (v1 : V) (v2 : V) (v3 : V) (v4 : V) (v5 : V) (v6 : V) (v7 : V)   (post : Int32 → V → V → V → V → V → V → V → V → Prop) : Prop :=
  s_X1_copyFrom v2 v1 (fun (v_1 : V) (v_2 : V) => s_X1_addDealer v_2 (fun (r_3 : Int32) (v_4 : V) => s_X6_recorded v0 v_1 v3 v4 v5 v6 v7 r_3 (fun (r_5 : Int32) (v_6 : V) (v_7 : V) (v_8 : V) (v_9 : V) (v_10 : V) (v_11 : V) (v_12 : V) => post r_5 v_6 v_4 v_7 v_8 v_9 v_10 v_11 v_12)))

def s_X6_stone (v0 : V) (v1 : V) (v2 : V) (v3 : V) (v4 : V) (v5 : V) (v6 : V) (v7 : V)  (p1 : Int32) (p2 : Int32) (p3 : Int32) (p4 : Int32) (post : Int32 → V → V → V → V → V → V → V → V → Prop) : Prop :=
  s_X1_copyFrom v2 v1 (fun (v_1 : V) (v_2 : V) => s_X1_addStone v_2 p1 p2 p3 p4 (fun (r_3 : Int32) (v_4 : V) => s_X6_recorded v0 v_1 v3 v4 v5 v6 v7 r_3 (fun (r_5 : Int32) (v_6 : V) (v_7 : V) (v_8 : V) (v_9 : V) (v_10 : V) (v_11 : V) (v_12 : V) => post r_5 v_6 v_4 v_7 v_8 v_9 v_10 v_11 v_12)))

def s_X6_rate (v0 : V) (v1 : V) (v2 : V) (v3 : V) (v4 : V) (v5 : V) (v6 : V) (v7 : V)  (p1 : Int32) (p2 : Int32) (p3 : Int32) (p4 : Int32) (post : Int32 → V → V → V → V → V → V → V → V → Prop) : Prop :=
  s_X1_copyFrom v2 v1 (fun (v_1 : V) (v_2 : V) => s_X1_putRate v_2 p1 p2 p3 p4 (fun (r_3 : Int32) (v_4 : V) => s_X6_recorded v0 v_1 v3 v4 v5 v6 v7 r_3 (fun (r_5 : Int32) (v_6 : V) (v_7 : V) (v_8 : V) (v_9 : V) (v_10 : V) (v_11 : V) (v_12 : V) => post r_5 v_6 v_4 v_7 v_8 v_9 v_10 v_11 v_12)))

def s_X6_unrate (v0 : V) (v1 : V) (v2 : V) (v3 : V) (v4 : V) (v5 : V) (v6 : V) (v7 : V)  (p1 : Int32) (p2 : Int32) (p3 : Int32) (post : Int32 → V → V → V → V → V → V → V → V → Prop) : Prop :=
  s_X1_copyFrom v2 v1 (fun (v_1 : V) (v_2 : V) => s_X1_takeRate v_2 p1 p2 p3 (fun (r_3 : Int32) (v_4 : V) => s_X6_recorded v0 v_1 v3 v4 v5 v6 v7 r_3 (fun (r_5 : Int32) (v_6 : V) (v_7 : V) (v_8 : V) (v_9 : V) (v_10 : V) (v_11 : V) (v_12 : V) => post r_5 v_6 v_4 v_7 v_8 v_9 v_10 v_11 v_12)))

def s_X6_lend (v0 : V) (v1 : V) (v2 : V) (v3 : V) (v4 : V) (v5 : V) (v6 : V) (v7 : V)  (p1 : Int32) (p2 : Int32) (p3 : Int32) (p4 : Int32) (post : Int32 → V → V → V → V → V → V → V → V → Prop) : Prop :=
  s_X1_copyFrom v2 v1 (fun (v_1 : V) (v_2 : V) => s_X1_lendStones v_2 p1 p2 p3 p4 (fun (r_3 : Int32) (v_4 : V) => s_X6_recorded v0 v_1 v3 v4 v5 v6 v7 r_3 (fun (r_5 : Int32) (v_6 : V) (v_7 : V) (v_8 : V) (v_9 : V) (v_10 : V) (v_11 : V) (v_12 : V) => post r_5 v_6 v_4 v_7 v_8 v_9 v_10 v_11 v_12)))

def s_X6_back (v0 : V) (v1 : V) (v2 : V) (v3 : V) (v4 : V) (v5 : V) (v6 : V) (v7 : V)  (p1 : Int32) (post : Int32 → V → V → V → V → V → V → V → V → Prop) : Prop :=
  s_X1_copyFrom v2 v1 (fun (v_1 : V) (v_2 : V) => s_X1_giveBack v_2 p1 (fun (r_3 : Int32) (v_4 : V) => s_X6_recorded v0 v_1 v3 v4 v5 v6 v7 r_3 (fun (r_5 : Int32) (v_6 : V) (v_7 : V) (v_8 : V) (v_9 : V) (v_10 : V) (v_11 : V) (v_12 : V) => post r_5 v_6 v_4 v_7 v_8 v_9 v_10 v_11 v_12)))

def s_X6_keep (v0 : V) (v1 : V) (v2 : V) (v3 : V) (v4 : V) (v5 : V) (v6 : V) (v7 : V)  (p1 : Int32) (post : Int32 → V → V → V → V → V → V → V → V → Prop) : Prop :=
  s_X1_copyFrom v2 v1 (fun (v_1 : V) (v_2 : V) => s_X1_keepStone v_2 p1 (fun (r_3 : Int32) (v_4 : V) => s_X6_recorded v0 v_1 v3 v4 v5 v6 v7 r_3 (fun (r_5 : Int32) (v_6 : V) (v_7 : V) (v_8 : V) (v_9 : V) (v_10 : V) (v_11 : V) (v_12 : V) => post r_5 v_6 v_4 v_7 v_8 v_9 v_10 v_11 v_12)))

def s_X6_sell (v0 : V) (v1 : V) (v2 : V) (v3 : V) (v4 : V) (v5 : V) (v6 : V) (v7 : V)  (p1 : Int32) (p2 : Int32) (post : Int32 → V → V → V → V → V → V → V → V → Prop) : Prop :=
  s_X1_copyFrom v2 v1 (fun (v_1 : V) (v_2 : V) => s_X1_sellStone v_2 p1 p2 (fun (r_3 : Int32) (v_4 : V) => s_X6_recorded v0 v_1 v3 v4 v5 v6 v7 r_3 (fun (r_5 : Int32) (v_6 : V) (v_7 : V) (v_8 : V) (v_9 : V) (v_10 : V) (v_11 : V) (v_12 : V) => post r_5 v_6 v_4 v_7 v_8 v_9 v_10 v_11 v_12)))

def s_X6_grade (v0 : V) (v1 : V) (v2 : V) (v3 : V) (v4 : V) (v5 : V) (v6 : V) (v7 : V)  (p1 : Int32) (p2 : Int32) (p3 : Int32) (post : Int32 → V → V → V → V → V → V → V → V → Prop) : Prop :=
  s_X1_copyFrom v2 v1 (fun (v_1 : V) (v_2 : V) => s_X1_regrade v_2 p1 p2 p3 (fun (r_3 : Int32) (v_4 : V) => s_X6_recorded v0 v_1 v3 v4 v5 v6 v7 r_3 (fun (r_5 : Int32) (v_6 : V) (v_7 : V) (v_8 : V) (v_9 : V) (v_10 : V) (v_11 : V) (v_12 : V) => post r_5 v_6 v_4 v_7 v_8 v_9 v_10 v_11 v_12)))

def s_X6_pause (v0 : V) (v1 : V) (v2 : V) (v3 : V) (v4 : V) (v5 : V) (v6 : V) (v7 : V)  (p1 : Int32) (post : Int32 → V → V → V → V → V → V → V → V → Prop) : Prop :=
  s_X1_copyFrom v2 v1 (fun (v_1 : V) (v_2 : V) => s_X1_passDays v_2 p1 (fun (r_3 : Int32) (v_4 : V) => s_X6_recorded v0 v_1 v3 v4 v5 v6 v7 r_3 (fun (r_5 : Int32) (v_6 : V) (v_7 : V) (v_8 : V) (v_9 : V) (v_10 : V) (v_11 : V) (v_12 : V) => post r_5 v_6 v_4 v_7 v_8 v_9 v_10 v_11 v_12)))

def s_X6_set (v0 : V) (v1 : V) (v2 : V) (v3 : V) (v4 : V) (v5 : V) (v6 : V) (v7 : V)  (p1 : Int32) (p2 : Int32) (post : Int32 → V → V → V → V → V → V → V → V → Prop) : Prop :=
  s_X1_copyFrom v2 v1 (fun (v_1 : V) (v_2 : V) => s_X1_putSetting v_2 p1 p2 (fun (r_3 : Int32) (v_4 : V) => s_X6_recorded v0 v_1 v3 v4 v5 v6 v7 r_3 (fun (r_5 : Int32) (v_6 : V) (v_7 : V) (v_8 : V) (v_9 : V) (v_10 : V) (v_11 : V) (v_12 : V) => post r_5 v_6 v_4 v_7 v_8 v_9 v_10 v_11 v_12)))

def s_X6_stoneOf (v0 : V) (v1 : V)  (p1 : Int32) (p2 : Int32) (post : Int32 → V → V → Prop) : Prop :=
  s_X5_has v1 p1 (fun (r_1 : Int32) (v_2 : V) => (¬ r_1 = 0 → (s_X1_tellStone v_2 p1 p2 (fun (r_3 : Int32) (v_4 : V) => post r_3 v0 v_4))) ∧ (r_1 = 0 → (post (-10000001) v0 v_2)))

def s_X6_dealerOf (v0 : V) (v1 : V)  (p1 : Int32) (p2 : Int32) (post : Int32 → V → V → Prop) : Prop :=
  s_X1_hasDealer v1 p1 (fun (r_1 : Int32) (v_2 : V) => (¬ r_1 = 0 → (s_X1_tellDealer v_2 p1 p2 (fun (r_3 : Int32) (v_4 : V) => post r_3 v0 v_4))) ∧ (r_1 = 0 → (post (-10000001) v0 v_2)))

def s_X6_memoOf (v0 : V) (v1 : V)  (p1 : Int32) (p2 : Int32) (post : Int32 → V → V → Prop) : Prop :=
  s_X2_has v1 p1 (fun (r_1 : Int32) (v_2 : V) => (¬ r_1 = 0 → (s_X1_tellMemo v_2 p1 p2 (fun (r_3 : Int32) (v_4 : V) => post r_3 v0 v_4))) ∧ (r_1 = 0 → (post (-10000001) v0 v_2)))

def s_X6_rateOf (v0 : V) (v1 : V)  (p1 : Int32) (p2 : Int32) (p3 : Int32) (p4 : Int32) (post : Int32 → V → V → Prop) : Prop :=
  s_X6_isGrade p1 p2 p3 (fun (r_1 : Int32) => (r_1 = 0 → (post (-10000001) v0 v1)) ∧ (¬ r_1 = 0 → ((p4 < 0 → (post (-10000001) v0 v1)) ∧ (¬ p4 < 0 → ((p4 ≤ 1 → ((¬ p4 = 1 → (s_X3_rateFor v1 p1 p2 p3 (fun (r_2 : Int32) (v_3 : V) => (¬ r_2 = 0 → post r_2 v0 v_3) ∧ (r_2 = 0 → (post (-10000004) v0 v_3))))) ∧ (p4 = 1 → (s_X3_ownRate v1 p1 p2 p3 (fun (r_5 : Int32) (v_6 : V) => (¬ r_5 = 0 → post r_5 v0 v_6) ∧ (r_5 = 0 → (post (-10000004) v0 v_6))))))) ∧ (¬ p4 ≤ 1 → (post (-10000001) v0 v1)))))))

def s_X6_count (v0 : V) (v1 : V) (v2 : V) (v3 : V)  (p1 : Int32) (post : Int32 → V → V → V → V → Prop) : Prop :=
  (p1 = 11 → (post (v2 0 2) v0 v1 v2 v3)) ∧ ((p1 = 12 → (post (v3 0 1) v0 v1 v2 v3)) ∧ ((p1 = 13 → (((v0 0 6) = 0 → post 0 v0 v1 v2 v3) ∧ (¬ (v0 0 6) = 0 → post 1 v0 v1 v2 v3))) ∧ ((p1.toInt < 11 ∨ 13 < p1.toInt → (s_X1_tellNumber v1 p1 (fun (r_5 : Int32) (v_6 : V) => post r_5 v0 v_6 v2 v3))))))

def s_X6_best (v0 : V) (v1 : V)  (p1 : Int32) (p2 : Int32) (post : Int32 → V → V → Prop) : Prop :=
  s_X1_hasDealer v1 p1 (fun (r_1 : Int32) (v_2 : V) => (r_1 = 0 → (post (-10000001) v0 v_2)) ∧ (¬ r_1 = 0 → ((p2 < 0 → (post (-10000001) v0 v_2)) ∧ (¬ p2 < 0 → ((p2 ≤ 99999 → (s_X1_dearestHeld v_2 p1 p2 (fun (r_3 : Int32) (v_4 : V) => post r_3 v0 v_4))) ∧ (¬ p2 ≤ 99999 → (post (-10000001) v0 v_2)))))))

def s_X6_pair (v0 : V) (v1 : V)  (p1 : Int32) (p2 : Int32) (post : Int32 → V → V → Prop) : Prop :=
  s_X1_hasDealer v1 p1 (fun (r_1 : Int32) (v_2 : V) => (r_1 = 0 → (post (-10000001) v0 v_2)) ∧ (¬ r_1 = 0 → ((p2 < 0 → (post (-10000001) v0 v_2)) ∧ (¬ p2 < 0 → ((p2 ≤ 2 → (s_X5_closestPair v_2 p1 p2 (fun (r_3 : Int32) (v_4 : V) => post r_3 v0 v_4))) ∧ (¬ p2 ≤ 2 → (post (-10000001) v0 v_2)))))))

def s_X6_grades (v0 : V) (v1 : V)  (p1 : Int32) (post : Int32 → V → V → Prop) : Prop :=
  s_X1_hasDealer v1 p1 (fun (r_1 : Int32) (v_2 : V) => (¬ r_1 = 0 → (s_X5_unlikeGrades v_2 p1 (fun (r_3 : Int32) (v_4 : V) => post r_3 v0 v_4))) ∧ (r_1 = 0 → (post (-10000001) v0 v_2)))

def s_X6_mark (v0 : V) (v1 : V) (v2 : V)   (post : Int32 → V → V → V → Prop) : Prop :=
  s_X1_copyFrom v2 v1 (fun (v_1 : V) (v_2 : V) => ∀ v_3 : V, v_3 = sc v0 0 6 1 → (post (v_2 0 5) v_3 v_2 v_1))

def s_X6_restore (v0 : V) (v1 : V) (v2 : V) (v3 : V) (v4 : V) (v5 : V) (v6 : V) (v7 : V)   (post : Int32 → V → V → V → V → V → V → V → V → Prop) : Prop :=
  (¬ (v0 0 6) = 0 → (s_X0_push v3 v4 v5 v6 v7 v1 (fun (v_1 : V) (v_2 : V) (v_3 : V) (v_4 : V) (v_5 : V) (v_6 : V) => s_X1_copyFrom v_6 v2 (fun (v_7 : V) (v_8 : V) => post (v_7 0 5) v0 v_7 v_8 v_1 v_2 v_3 v_4 v_5)))) ∧ ((v0 0 6) = 0 → (post (-10000002) v0 v1 v2 v3 v4 v5 v6 v7))

def s_X6_undo (v0 : V) (v1 : V) (v2 : V) (v3 : V) (v4 : V) (v5 : V) (v6 : V)   (post : Int32 → V → V → V → V → V → V → V → Prop) : Prop :=
  (¬ (v2 0 2) = 0 → (s_X0_popInto v2 v3 v4 v5 v6 v1 (fun (v_1 : V) (v_2 : V) (v_3 : V) (v_4 : V) (v_5 : V) (v_6 : V) => post (v_1 0 2) v0 v_6 v_1 v_2 v_3 v_4 v_5))) ∧ ((v2 0 2) = 0 → (post (-10000002) v0 v1 v2 v3 v4 v5 v6))

def s_X6_type (v0 : V) (v1 : V)  (p1 : Int32) (post : Int32 → V → V → Prop) : Prop :=
  (p1 < 32 → (post (-10000001) v0 v1)) ∧ (¬ p1 < 32 → ((p1 ≤ 126 → (s_X4_append v1 ((p1.toUInt32 % 65536).toInt32) (fun (r_1 : Int32) (v_2 : V) => post r_1 v0 v_2))) ∧ (¬ p1 ≤ 126 → (post (-10000001) v0 v1))))

def s_X6_clearText (v0 : V) (v1 : V)   (post : Int32 → V → V → Prop) : Prop :=
  ∀ v_1 : V, v_1 = sc v1 0 1 0 → (post (v1 0 1) v0 v_1)

def s_X6_fault (v0 : V) (v1 : V) (v2 : V) (v3 : V)  (p1 : Int32) (post : Int32 → V → V → V → V → Prop) : Prop :=
  (p1 < 0 → (post (-10000001) v0 v1 v2 v3)) ∧ (¬ p1 < 0 → ((p1 ≤ 2 → (s_X1_copyFrom v2 v1 (fun (v_1 : V) (v_2 : V) => s_X4_runOn v3 v_1 (fun (r_3 : Int32) (v_4 : V) (v_5 : V) => s_X4_tellFault v_4 p1 (fun (r_6 : Int32) (v_7 : V) => post r_6 v0 v_2 v_5 v_7))))) ∧ (¬ p1 ≤ 2 → (post (-10000001) v0 v1 v2 v3))))

def s_X6_play (v0 : V) (v1 : V) (v2 : V) (v3 : V) (v4 : V) (v5 : V) (v6 : V) (v7 : V) (v8 : V)   (post : Int32 → V → V → V → V → V → V → V → V → V → Prop) : Prop :=
  s_X1_copyFrom v2 v1 (fun (v_1 : V) (v_2 : V) => s_X4_runOn v8 v_1 (fun (r_3 : Int32) (v_4 : V) (v_5 : V) => s_X4_hasFault v_4 (fun (r_6 : Int32) (v_7 : V) => (r_6 = 0 → (s_X0_push v3 v4 v5 v6 v7 v_2 (fun (v_8 : V) (v_9 : V) (v_10 : V) (v_11 : V) (v_12 : V) (v_13 : V) => s_X1_copyFrom v_13 v_5 (fun (v_14 : V) (v_15 : V) => post r_3 v0 v_14 v_15 v_8 v_9 v_10 v_11 v_12 v_7)))) ∧ (¬ r_6 = 0 → (post (-10000002) v0 v_2 v_5 v3 v4 v5 v6 v7 v_7)))))

def s_X7_in   (p0 : Int32) (p1 : Int32) (p2 : Int32) (post : Int32 → Prop) : Prop :=
  (p0 < p1 → post 0) ∧ (¬ p0 < p1 → ((p2 < p0 → post 0) ∧ (¬ p2 < p0 → post 1)))

def sb_X7_begins_2 (post : V → Prop)   (k0 : Int32 → V → Prop) (rec : Int32 → V → Prop) (x1 : Int32) (v : V) : Prop :=
  (664 ≤ x1 → k0 x1 v) ∧ (¬ 664 ≤ x1 → (vp_in x1 664 ∧ (vp_in x1 664 ∧ (∀ v_1 : V, v_1 = st v 2 (tn x1) (v 1 (tn x1)) → (rec (x1 + 1) v_1)))))
def sl_X7_begins_2 (post : V → Prop)   (k0 : Int32 → V → Prop) : Nat → Int32 → V → Prop
  | 0 => fun _ _ => False
  | n + 1 => sb_X7_begins_2 post k0 (sl_X7_begins_2 post k0 n)
def s_X7_begins (v : V)   (post : V → Prop) : Prop :=
  ∃ n_3 : Nat, sl_X7_begins_2 post (fun (x1_4 : Int32) (v_5 : V) => post v_5) n_3 0 v

def sb_X7_returns_2 (post : V → Prop)   (k0 : Int32 → V → Prop) (rec : Int32 → V → Prop) (x1 : Int32) (v : V) : Prop :=
  (664 ≤ x1 → k0 x1 v) ∧ (¬ 664 ≤ x1 → (vp_in x1 664 ∧ (vp_in x1 664 ∧ (∀ v_1 : V, v_1 = st v 1 (tn x1) (v 2 (tn x1)) → (rec (x1 + 1) v_1)))))
def sl_X7_returns_2 (post : V → Prop)   (k0 : Int32 → V → Prop) : Nat → Int32 → V → Prop
  | 0 => fun _ _ => False
  | n + 1 => sb_X7_returns_2 post k0 (sl_X7_returns_2 post k0 n)
def s_X7_returns (v : V)   (post : V → Prop) : Prop :=
  ∃ n_3 : Nat, sl_X7_returns_2 post (fun (x1_4 : Int32) (v_5 : V) => post v_5) n_3 0 v

def sb_X7_acted_63 (post : Int32 → V → Prop)  (f1 : Int32) (k0 : Int32 → V → Prop) (rec : Int32 → V → Prop) (x2 : Int32) (v : V) : Prop :=
  (664 ≤ x2 → k0 x2 v) ∧ (¬ 664 ≤ x2 → (vp_in x2 664 ∧ (vp_in ((664 * (v 0 5)) + x2) 2656 ∧ (∀ v_1 : V, v_1 = st v 4 (tn ((664 * (v 0 5)) + x2)) (v 2 (tn x2)) → (rec (x2 + 1) v_1)))))
def sl_X7_acted_63 (post : Int32 → V → Prop)  (f1 : Int32) (k0 : Int32 → V → Prop) : Nat → Int32 → V → Prop
  | 0 => fun _ _ => False
  | n + 1 => sb_X7_acted_63 post f1 k0 (sl_X7_acted_63 post f1 k0 n)
def sb_X7_acted_22 (post : Int32 → V → Prop)  (f1 : Int32) (k0 : Int32 → V → Prop) (rec : Int32 → V → Prop) (x2 : Int32) (v : V) : Prop :=
  (1992 ≤ x2 → k0 x2 v) ∧ (¬ 1992 ≤ x2 → (vp_in (x2 + 664) 2656 ∧ (vp_in x2 2656 ∧ (∀ v_7 : V, v_7 = st v 4 (tn x2) (v 4 (tn (x2 + 664))) → (rec (x2 + 1) v_7)))))
def sl_X7_acted_22 (post : Int32 → V → Prop)  (f1 : Int32) (k0 : Int32 → V → Prop) : Nat → Int32 → V → Prop
  | 0 => fun _ _ => False
  | n + 1 => sb_X7_acted_22 post f1 k0 (sl_X7_acted_22 post f1 k0 n)
def s_X7_acted (v : V)  (p1 : Int32) (post : Int32 → V → Prop) : Prop :=
  ((-10000001) < p1 → ((¬ (v 0 5) = 4 → (∃ n_3 : Nat, sl_X7_acted_63 post p1 (fun (x2_4 : Int32) (v_5 : V) => ∀ v_6 : V, v_6 = sc v_5 0 5 ((v_5 0 5) + 1) → post p1 v_6) n_3 0 v)) ∧ ((v 0 5) = 4 → (∃ n_9 : Nat, sl_X7_acted_22 post p1 (fun (x2_10 : Int32) (v_11 : V) => ∀ v_12 : V, v_12 = sc v_11 0 5 ((v_11 0 5) - 1) → (∃ n_13 : Nat, sl_X7_acted_63 post p1 (fun (x2_14 : Int32) (v_15 : V) => ∀ v_16 : V, v_16 = sc v_15 0 5 ((v_15 0 5) + 1) → post p1 v_16) n_13 0 v_12)) n_9 0 v)))) ∧ (¬ (-10000001) < p1 → (s_X7_returns v (fun (v_18 : V) => post p1 v_18)))

def s_X7_ofStone (v : V)  (p1 : Int32) (p2 : Int32) (post : Int32 → V → Prop) : Prop :=
  vp_in ((14 + (10 * p1)) + p2) 664 ∧ (post (v 1 (tn ((14 + (10 * p1)) + p2))) v)

def s_X7_setStone (v : V)  (p1 : Int32) (p2 : Int32) (p3 : Int32) (post : V → Prop) : Prop :=
  vp_in ((14 + (10 * p1)) + p2) 664 ∧ (∀ v_1 : V, v_1 = st v 1 (tn ((14 + (10 * p1)) + p2)) p3 → post v_1)

def s_X7_ofMemo (v : V)  (p1 : Int32) (p2 : Int32) (post : Int32 → V → Prop) : Prop :=
  vp_in ((214 + (5 * p1)) + p2) 664 ∧ (post (v 1 (tn ((214 + (5 * p1)) + p2))) v)

def s_X7_isDealer (v : V)  (p1 : Int32) (post : Int32 → V → Prop) : Prop :=
  s_X7_in p1 0 ((v 1 (tn 0)) - 1) (fun (r_1 : Int32) => narrow .boolean (.int r_1) = .int r_1 ∧ post r_1 v)

def s_X7_isStone (v : V)  (p1 : Int32) (post : Int32 → V → Prop) : Prop :=
  s_X7_in p1 0 ((v 1 (tn 1)) - 1) (fun (r_1 : Int32) => narrow .boolean (.int r_1) = .int r_1 ∧ post r_1 v)

def s_X7_isOut (v : V)  (p1 : Int32) (post : Int32 → V → Prop) : Prop :=
  s_X7_ofStone v p1 5 (fun (r_1 : Int32) (v_2 : V) => (r_1 < 0 → post 0 v_2) ∧ (¬ r_1 < 0 → post 1 v_2))

def s_X7_isSold (v : V)  (p1 : Int32) (post : Int32 → V → Prop) : Prop :=
  s_X7_ofStone v p1 3 (fun (r_1 : Int32) (v_2 : V) => (0 ≤ r_1 → post 0 v_2) ∧ (¬ 0 ≤ r_1 → post 1 v_2))

def s_X7_sieve (v : V)  (p1 : Int32) (post : Int32 → V → Prop) : Prop :=
  s_X7_ofStone v p1 0 (fun (r_1 : Int32) (v_2 : V) => (10 ≤ r_1 → ((25 ≤ r_1 → ((50 ≤ r_1 → ((100 ≤ r_1 → post 4 v_2) ∧ (¬ 100 ≤ r_1 → post 3 v_2))) ∧ (¬ 50 ≤ r_1 → post 2 v_2))) ∧ (¬ 25 ≤ r_1 → post 1 v_2))) ∧ (¬ 10 ≤ r_1 → post 0 v_2))

def s_X7_rateAt   (p0 : Int32) (p1 : Int32) (p2 : Int32) (post : Int32 → Prop) : Prop :=
  post (((264 + (80 * p0)) + (8 * p1)) + p2)

def sb_X7_rateFor_34 (post : Int32 → V → Prop)  (f1 : Int32) (f3 : Int32) (f4 : Int32) (f6 : Int32) (k0 : Int32 → Int32 → V → Prop) (rec : Int32 → Int32 → V → Prop) (x5 : Int32) (x7 : Int32) (v : V) : Prop :=
  (8 ≤ x7 → k0 x5 x7 v) ∧ (¬ 8 ≤ x7 → (s_X7_rateAt f1 f6 x7 (fun (r_2 : Int32) => vp_in r_2 664 ∧ (((v 1 (tn r_2)) ≤ x5 → (rec x5 (x7 + 1) v)) ∧ (¬ (v 1 (tn r_2)) ≤ x5 → (rec (v 1 (tn r_2)) (x7 + 1) v))))))
def sl_X7_rateFor_34 (post : Int32 → V → Prop)  (f1 : Int32) (f3 : Int32) (f4 : Int32) (f6 : Int32) (k0 : Int32 → Int32 → V → Prop) : Nat → Int32 → Int32 → V → Prop
  | 0 => fun _ _ _ => False
  | n + 1 => sb_X7_rateFor_34 post f1 f3 f4 f6 k0 (sl_X7_rateFor_34 post f1 f3 f4 f6 k0 n)
def sb_X7_rateFor_19 (post : Int32 → V → Prop)  (f1 : Int32) (f3 : Int32) (f4 : Int32) (k0 : Int32 → Int32 → V → Prop) (rec : Int32 → Int32 → V → Prop) (x5 : Int32) (x6 : Int32) (v : V) : Prop :=
  (10 ≤ x6 → k0 x5 x6 v) ∧ (¬ 10 ≤ x6 → ((¬ f4 = 0 → k0 x5 x6 v) ∧ (f4 = 0 → (∃ n_6 : Nat, sl_X7_rateFor_34 post f1 f3 f4 x6 (fun (x5_7 : Int32) (x7_8 : Int32) (v_9 : V) => rec x5_7 (x6 + 1) v_9) n_6 x5 f3 v))))
def sl_X7_rateFor_19 (post : Int32 → V → Prop)  (f1 : Int32) (f3 : Int32) (f4 : Int32) (k0 : Int32 → Int32 → V → Prop) : Nat → Int32 → Int32 → V → Prop
  | 0 => fun _ _ _ => False
  | n + 1 => sb_X7_rateFor_19 post f1 f3 f4 k0 (sl_X7_rateFor_19 post f1 f3 f4 k0 n)
def s_X7_rateFor (v : V)  (p1 : Int32) (p2 : Int32) (p3 : Int32) (post : Int32 → V → Prop) : Prop :=
  s_X7_rateAt p1 p2 p3 (fun (r_1 : Int32) => vp_in r_1 664 ∧ (∃ n_12 : Nat, sl_X7_rateFor_19 post p1 p3 (v 1 (tn r_1)) (fun (x5_13 : Int32) (x6_14 : Int32) (v_15 : V) => ((v 1 (tn r_1)) ≤ 0 → post x5_13 v_15) ∧ (¬ (v 1 (tn r_1)) ≤ 0 → (post (v 1 (tn r_1)) v_15))) n_12 0 p2 v))

def s_X7_price (v : V)  (p1 : Int32) (post : Int32 → V → Prop) : Prop :=
  s_X7_sieve v p1 (fun (r_1 : Int32) (v_2 : V) => s_X7_ofStone v_2 p1 1 (fun (r_3 : Int32) (v_4 : V) => s_X7_ofStone v_4 p1 2 (fun (r_5 : Int32) (v_6 : V) => s_X7_rateFor v_6 r_1 r_3 r_5 (fun (r_7 : Int32) (v_8 : V) => (¬ r_7 = 0 → (s_X7_ofStone v_8 p1 0 (fun (r_9 : Int32) (v_10 : V) => post ((r_9 * r_7) / 100) v_10))) ∧ (r_7 = 0 → (post (-1) v_8))))))

def sb_X7_outBy_4 (post : Int32 → V → Prop)  (f1 : Int32) (k0 : Int32 → Int32 → V → Prop) (rec : Int32 → Int32 → V → Prop) (x2 : Int32) (x3 : Int32) (v : V) : Prop :=
  ((v 1 (tn 1)) ≤ x3 → k0 x2 x3 v) ∧ (¬ (v 1 (tn 1)) ≤ x3 → (s_X7_ofStone v x3 5 (fun (r_1 : Int32) (v_2 : V) => (¬ r_1 = f1 → (rec (x2 ||| 0) (x3 + 1) v_2)) ∧ (r_1 = f1 → (rec (x2 ||| (1 <<< (x3 &&& 31))) (x3 + 1) v_2)))))
def sl_X7_outBy_4 (post : Int32 → V → Prop)  (f1 : Int32) (k0 : Int32 → Int32 → V → Prop) : Nat → Int32 → Int32 → V → Prop
  | 0 => fun _ _ _ => False
  | n + 1 => sb_X7_outBy_4 post f1 k0 (sl_X7_outBy_4 post f1 k0 n)
def s_X7_outBy (v : V)  (p1 : Int32) (post : Int32 → V → Prop) : Prop :=
  ∃ n_5 : Nat, sl_X7_outBy_4 post p1 (fun (x2_6 : Int32) (x3_7 : Int32) (v_8 : V) => post x2_6 v_8) n_5 0 0 v

def sb_X7_ones_4 (post : Int32 → Prop)  (f0 : Int32) (k0 : Int32 → Int32 → Prop) (rec : Int32 → Int32 → Prop) (x1 : Int32) (x2 : Int32)  : Prop :=
  (20 ≤ x2 → k0 x1 x2) ∧ (¬ 20 ≤ x2 → (rec (x1 + ((f0 >>> (x2 &&& 31)) &&& 1)) (x2 + 1)))
def sl_X7_ones_4 (post : Int32 → Prop)  (f0 : Int32) (k0 : Int32 → Int32 → Prop) : Nat → Int32 → Int32 → Prop
  | 0 => fun _ _ => False
  | n + 1 => sb_X7_ones_4 post f0 k0 (sl_X7_ones_4 post f0 k0 n)
def s_X7_ones   (p0 : Int32) (post : Int32 → Prop) : Prop :=
  ∃ n_2 : Nat, sl_X7_ones_4 post p0 (fun (x1_3 : Int32) (x2_4 : Int32) => post x1_3) n_2 0 0

def sb_X7_mayLend_5 (post : Int32 → V → Prop)  (f1 : Int32) (f2 : Int32) (k0 : Int32 → Int32 → V → Prop) (rec : Int32 → Int32 → V → Prop) (x3 : Int32) (x4 : Int32) (v : V) : Prop :=
  ((v 1 (tn 1)) ≤ x4 → k0 x3 x4 v) ∧ (¬ (v 1 (tn 1)) ≤ x4 → (s_X7_ofStone v x4 3 (fun (r_1 : Int32) (v_2 : V) => (¬ r_1 = f1 → ((x3 = 0 → (rec 0 (x4 + 1) v_2)) ∧ (¬ x3 = 0 → ((((f2 >>> (x4 &&& 31)) &&& 1) = 0 → (rec 1 (x4 + 1) v_2)) ∧ (¬ ((f2 >>> (x4 &&& 31)) &&& 1) = 0 → (rec 0 (x4 + 1) v_2)))))) ∧ (r_1 = f1 → (s_X7_ofStone v_2 x4 4 (fun (r_5 : Int32) (v_6 : V) => (¬ r_5 = f1 → ((x3 = 0 → (rec 0 (x4 + 1) v_6)) ∧ (¬ x3 = 0 → ((((f2 >>> (x4 &&& 31)) &&& 1) = 0 → (rec 1 (x4 + 1) v_6)) ∧ (¬ ((f2 >>> (x4 &&& 31)) &&& 1) = 0 → (rec 0 (x4 + 1) v_6)))))) ∧ (r_5 = f1 → (s_X7_isOut v_6 x4 (fun (r_9 : Int32) (v_10 : V) => (¬ r_9 = 0 → ((x3 = 0 → (rec 0 (x4 + 1) v_10)) ∧ (¬ x3 = 0 → ((((f2 >>> (x4 &&& 31)) &&& 1) = 0 → (rec 1 (x4 + 1) v_10)) ∧ (¬ ((f2 >>> (x4 &&& 31)) &&& 1) = 0 → (rec 0 (x4 + 1) v_10)))))) ∧ (r_9 = 0 → (s_X7_price v_10 x4 (fun (r_13 : Int32) (v_14 : V) => (r_13 < 0 → ((x3 = 0 → (rec 0 (x4 + 1) v_14)) ∧ (¬ x3 = 0 → ((((f2 >>> (x4 &&& 31)) &&& 1) = 0 → (rec 1 (x4 + 1) v_14)) ∧ (¬ ((f2 >>> (x4 &&& 31)) &&& 1) = 0 → (rec 0 (x4 + 1) v_14)))))) ∧ (¬ r_13 < 0 → ((x3 = 0 → (rec 0 (x4 + 1) v_14)) ∧ (¬ x3 = 0 → ((((f2 >>> (x4 &&& 31)) &&& 1) = 0 → (rec 1 (x4 + 1) v_14)) ∧ (¬ ((f2 >>> (x4 &&& 31)) &&& 1) = 0 → (rec 1 (x4 + 1) v_14))))))))))))))))))
def sl_X7_mayLend_5 (post : Int32 → V → Prop)  (f1 : Int32) (f2 : Int32) (k0 : Int32 → Int32 → V → Prop) : Nat → Int32 → Int32 → V → Prop
  | 0 => fun _ _ _ => False
  | n + 1 => sb_X7_mayLend_5 post f1 f2 k0 (sl_X7_mayLend_5 post f1 f2 k0 n)
def s_X7_mayLend (v : V)  (p1 : Int32) (p2 : Int32) (post : Int32 → V → Prop) : Prop :=
  ∃ n_24 : Nat, sl_X7_mayLend_5 post p1 p2 (fun (x3_25 : Int32) (x4_26 : Int32) (v_27 : V) => narrow .boolean (.int x3_25) = .int x3_25 ∧ post x3_25 v_27) n_24 1 0 v

def sb_X7_lends_181 (post : Int32 → V → Prop)  (f2 : Int32) (f4 : Int32) (f6 : Int32) (k0 : Int32 → V → Prop) (rec : Int32 → V → Prop) (x8 : Int32) (v : V) : Prop :=
  ((v 1 (tn 1)) ≤ x8 → k0 x8 v) ∧ (¬ (v 1 (tn 1)) ≤ x8 → ((¬ ((f4 >>> (x8 &&& 31)) &&& 1) = 1 → (rec (x8 + 1) v)) ∧ (((f4 >>> (x8 &&& 31)) &&& 1) = 1 → (s_X7_setStone v x8 4 f2 (fun (v_15 : V) => s_X7_setStone v_15 x8 5 f6 (fun (v_16 : V) => s_X7_price v_16 x8 (fun (r_17 : Int32) (v_18 : V) => s_X7_setStone v_18 x8 6 r_17 (fun (v_19 : V) => rec (x8 + 1) v_19))))))))
def sl_X7_lends_181 (post : Int32 → V → Prop)  (f2 : Int32) (f4 : Int32) (f6 : Int32) (k0 : Int32 → V → Prop) : Nat → Int32 → V → Prop
  | 0 => fun _ _ => False
  | n + 1 => sb_X7_lends_181 post f2 f4 f6 k0 (sl_X7_lends_181 post f2 f4 f6 k0 n)
def s_X7_lends (v : V)  (p1 : Int32) (p2 : Int32) (p3 : Int32) (p4 : Int32) (post : Int32 → V → Prop) : Prop :=
  s_X7_isDealer v p1 (fun (r_1 : Int32) (v_2 : V) => (r_1 = 0 → (post (-10000001) v_2)) ∧ (¬ r_1 = 0 → (s_X7_isDealer v_2 p2 (fun (r_3 : Int32) (v_4 : V) => (r_3 = 0 → (post (-10000001) v_4)) ∧ (¬ r_3 = 0 → ((p1 = p2 → (post (-10000001) v_4)) ∧ (¬ p1 = p2 → (s_X7_in p3 1 90 (fun (r_5 : Int32) => (r_5 = 0 → (post (-10000001) v_4)) ∧ (¬ r_5 = 0 → (s_X7_in p4 1 ((1 <<< ((v_4 1 (tn 1)) &&& 31)) - 1) (fun (r_6 : Int32) => (r_6 = 0 → (post (-10000001) v_4)) ∧ (¬ r_6 = 0 → (s_X7_mayLend v_4 p1 p4 (fun (r_7 : Int32) (v_8 : V) => (¬ r_7 = 0 → ((¬ (v_8 1 (tn 2)) = 10 → (∀ v_9 : V, v_9 = st v_8 1 (tn 2) ((v_8 1 (tn 2)) + 1) → (vp_in ((214 + (5 * (v_8 1 (tn 2)))) + 0) 664 ∧ (∀ v_10 : V, v_10 = st v_9 1 (tn ((214 + (5 * (v_8 1 (tn 2)))) + 0)) p1 → (vp_in ((214 + (5 * (v_8 1 (tn 2)))) + 1) 664 ∧ (∀ v_11 : V, v_11 = st v_10 1 (tn ((214 + (5 * (v_8 1 (tn 2)))) + 1)) p2 → (vp_in ((214 + (5 * (v_8 1 (tn 2)))) + 2) 664 ∧ (∀ v_12 : V, v_12 = st v_11 1 (tn ((214 + (5 * (v_8 1 (tn 2)))) + 2)) ((v_11 1 (tn 3)) + p3) → (vp_in ((214 + (5 * (v_8 1 (tn 2)))) + 3) 664 ∧ (∀ v_13 : V, v_13 = st v_12 1 (tn ((214 + (5 * (v_8 1 (tn 2)))) + 3)) p4 → (vp_in ((214 + (5 * (v_8 1 (tn 2)))) + 4) 664 ∧ (∀ v_14 : V, v_14 = st v_13 1 (tn ((214 + (5 * (v_8 1 (tn 2)))) + 4)) 0 → (∃ n_22 : Nat, sl_X7_lends_181 post p2 p4 (v_8 1 (tn 2)) (fun (x8_23 : Int32) (v_24 : V) => post (v_8 1 (tn 2)) v_24) n_22 0 v_14))))))))))))) ∧ ((v_8 1 (tn 2)) = 10 → (post (-10000003) v_8)))) ∧ (r_7 = 0 → (post (-10000002) v_8)))))))))))))))))

def s_X7_gives (v : V)  (p1 : Int32) (post : Int32 → V → Prop) : Prop :=
  s_X7_isStone v p1 (fun (r_1 : Int32) (v_2 : V) => (¬ r_1 = 0 → (s_X7_isOut v_2 p1 (fun (r_3 : Int32) (v_4 : V) => (¬ r_3 = 0 → (s_X7_ofStone v_4 p1 5 (fun (r_5 : Int32) (v_6 : V) => s_X7_ofStone v_6 p1 3 (fun (r_7 : Int32) (v_8 : V) => s_X7_setStone v_8 p1 4 r_7 (fun (v_9 : V) => s_X7_setStone v_9 p1 5 (-1) (fun (v_10 : V) => s_X7_outBy v_10 r_5 (fun (r_11 : Int32) (v_12 : V) => s_X7_ones r_11 (fun (r_13 : Int32) => post r_13 v_12)))))))) ∧ (r_3 = 0 → (post (-10000002) v_4))))) ∧ (r_1 = 0 → (post (-10000001) v_2)))

def s_X7_pays (v : V)  (p1 : Int32) (p2 : Int32) (post : V → Prop) : Prop :=
  s_X7_ofStone v p1 5 (fun (r_1 : Int32) (v_2 : V) => s_X7_ofStone v_2 p1 4 (fun (r_3 : Int32) (v_4 : V) => vp_in (8 + r_3) 664 ∧ (vp_in (8 + r_3) 664 ∧ (∀ v_5 : V, v_5 = st v_4 1 (tn (8 + r_3)) ((v_4 1 (tn (8 + r_3))) - p2) → (s_X7_ofStone v_5 p1 3 (fun (r_6 : Int32) (v_7 : V) => vp_in (8 + r_6) 664 ∧ (vp_in (8 + r_6) 664 ∧ (∀ v_8 : V, v_8 = st v_7 1 (tn (8 + r_6)) ((v_7 1 (tn (8 + r_6))) + p2) → (s_X7_ofStone v_8 p1 4 (fun (r_9 : Int32) (v_10 : V) => s_X7_setStone v_10 p1 3 r_9 (fun (v_11 : V) => s_X7_setStone v_11 p1 5 (-1) (fun (v_12 : V) => s_X7_ofStone v_12 p1 8 (fun (r_13 : Int32) (v_14 : V) => s_X7_setStone v_14 p1 8 (r_13 + 1) (fun (v_15 : V) => vp_in ((214 + (5 * r_1)) + 4) 664 ∧ (vp_in ((214 + (5 * r_1)) + 4) 664 ∧ (∀ v_16 : V, v_16 = st v_15 1 (tn ((214 + (5 * r_1)) + 4)) ((v_15 1 (tn ((214 + (5 * r_1)) + 4))) + 1) → post v_16))))))))))))))))

def s_X7_keeps (v : V)  (p1 : Int32) (post : Int32 → V → Prop) : Prop :=
  s_X7_isStone v p1 (fun (r_1 : Int32) (v_2 : V) => (¬ r_1 = 0 → (s_X7_isOut v_2 p1 (fun (r_3 : Int32) (v_4 : V) => (¬ r_3 = 0 → (s_X7_ofStone v_4 p1 6 (fun (r_5 : Int32) (v_6 : V) => s_X7_pays v_6 p1 r_5 (fun (v_7 : V) => post r_5 v_7)))) ∧ (r_3 = 0 → (post (-10000002) v_4))))) ∧ (r_1 = 0 → (post (-10000001) v_2)))

def s_X7_sells (v : V)  (p1 : Int32) (p2 : Int32) (post : Int32 → V → Prop) : Prop :=
  s_X7_isStone v p1 (fun (r_1 : Int32) (v_2 : V) => (r_1 = 0 → (post (-10000001) v_2)) ∧ (¬ r_1 = 0 → (s_X7_in p2 1 9999 (fun (r_3 : Int32) => (¬ r_3 = 0 → (s_X7_isOut v_2 p1 (fun (r_4 : Int32) (v_5 : V) => (¬ r_4 = 0 → (post (-10000002) v_5)) ∧ (r_4 = 0 → (s_X7_isSold v_5 p1 (fun (r_6 : Int32) (v_7 : V) => (r_6 = 0 → (s_X7_ofStone v_7 p1 3 (fun (r_8 : Int32) (v_9 : V) => vp_in (8 + r_8) 664 ∧ (vp_in (8 + r_8) 664 ∧ (∀ v_10 : V, v_10 = st v_9 1 (tn (8 + r_8)) ((v_9 1 (tn (8 + r_8))) + p2) → (s_X7_setStone v_10 p1 3 (-1) (fun (v_11 : V) => s_X7_setStone v_11 p1 4 (-1) (fun (v_12 : V) => s_X7_setStone v_12 p1 7 p2 (fun (v_13 : V) => vp_in (8 + r_8) 664 ∧ (post (100000000 + (v_13 1 (tn (8 + r_8)))) v_13)))))))))) ∧ (¬ r_6 = 0 → (post (-10000002) v_7)))))))) ∧ (r_3 = 0 → (post (-10000001) v_2))))))

def s_X7_isGrade   (p0 : Int32) (p1 : Int32) (post : Int32 → Prop) : Prop :=
  s_X7_in p0 0 9 (fun (r_1 : Int32) => (r_1 = 0 → post 0) ∧ (¬ r_1 = 0 → (s_X7_in p1 0 7 (fun (r_2 : Int32) => (r_2 = 0 → post 0) ∧ (¬ r_2 = 0 → post 1)))))

def s_X7_grades1 (v : V)  (p1 : Int32) (p2 : Int32) (p3 : Int32) (post : Int32 → V → Prop) : Prop :=
  s_X7_isStone v p1 (fun (r_1 : Int32) (v_2 : V) => (r_1 = 0 → (post (-10000001) v_2)) ∧ (¬ r_1 = 0 → (s_X7_isGrade p2 p3 (fun (r_3 : Int32) => (¬ r_3 = 0 → (s_X7_isSold v_2 p1 (fun (r_4 : Int32) (v_5 : V) => (r_4 = 0 → (s_X7_ofStone v_5 p1 1 (fun (r_6 : Int32) (v_7 : V) => s_X7_ofStone v_7 p1 2 (fun (r_8 : Int32) (v_9 : V) => s_X7_setStone v_9 p1 1 p2 (fun (v_10 : V) => s_X7_setStone v_10 p1 2 p3 (fun (v_11 : V) => s_X7_price v_11 p1 (fun (r_12 : Int32) (v_13 : V) => s_X7_isOut v_13 p1 (fun (r_14 : Int32) (v_15 : V) => (r_14 = 0 → (post ((10 * r_6) + r_8) v_15)) ∧ (¬ r_14 = 0 → ((r_12 < 0 → (post ((10 * r_6) + r_8) v_15)) ∧ (¬ r_12 < 0 → (s_X7_setStone v_15 p1 6 r_12 (fun (v_16 : V) => post ((10 * r_6) + r_8) v_16))))))))))))) ∧ (¬ r_4 = 0 → (post (-10000002) v_5))))) ∧ (r_3 = 0 → (post (-10000001) v_2))))))

def s_X7_rates (v : V)  (p1 : Int32) (p2 : Int32) (p3 : Int32) (p4 : Int32) (post : Int32 → V → Prop) : Prop :=
  s_X7_in p1 0 4 (fun (r_1 : Int32) => (r_1 = 0 → (post (-10000001) v)) ∧ (¬ r_1 = 0 → (s_X7_isGrade p2 p3 (fun (r_2 : Int32) => (r_2 = 0 → (post (-10000001) v)) ∧ (¬ r_2 = 0 → (s_X7_in p4 1 9999 (fun (r_3 : Int32) => (¬ r_3 = 0 → (s_X7_rateAt p1 p2 p3 (fun (r_4 : Int32) => vp_in r_4 664 ∧ ((¬ (v 1 (tn r_4)) = 0 → ((¬ (v 1 (tn r_4)) = 0 → (∀ v_5 : V, v_5 = st v 1 (tn 5) ((v 1 (tn 5)) + 0) → (vp_in r_4 664 ∧ (∀ v_6 : V, v_6 = st v_5 1 (tn r_4) p4 → (post (v 1 (tn r_4)) v_6))))) ∧ ((v 1 (tn r_4)) = 0 → (∀ v_7 : V, v_7 = st v 1 (tn 5) ((v 1 (tn 5)) + 1) → (vp_in r_4 664 ∧ (∀ v_8 : V, v_8 = st v_7 1 (tn r_4) p4 → (post (v 1 (tn r_4)) v_8))))))) ∧ ((v 1 (tn r_4)) = 0 → ((¬ (v 1 (tn 5)) = 24 → ((¬ (v 1 (tn r_4)) = 0 → (∀ v_10 : V, v_10 = st v 1 (tn 5) ((v 1 (tn 5)) + 0) → (vp_in r_4 664 ∧ (∀ v_11 : V, v_11 = st v_10 1 (tn r_4) p4 → (post (v 1 (tn r_4)) v_11))))) ∧ ((v 1 (tn r_4)) = 0 → (∀ v_12 : V, v_12 = st v 1 (tn 5) ((v 1 (tn 5)) + 1) → (vp_in r_4 664 ∧ (∀ v_13 : V, v_13 = st v_12 1 (tn r_4) p4 → (post (v 1 (tn r_4)) v_13))))))) ∧ ((v 1 (tn 5)) = 24 → (post (-10000003) v)))))))) ∧ (r_3 = 0 → (post (-10000001) v)))))))))

def sb_X7_day_53 (post : V → Prop)  (f1 : Int32) (f2 : Int32) (k0 : Int32 → V → Prop) (rec : Int32 → V → Prop) (x3 : Int32) (v : V) : Prop :=
  ((v 1 (tn 1)) ≤ x3 → k0 x3 v) ∧ (¬ (v 1 (tn 1)) ≤ x3 → ((f2 = 0 → k0 x3 v) ∧ (¬ f2 = 0 → (s_X7_ofStone v x3 5 (fun (r_4 : Int32) (v_5 : V) => (¬ r_4 = f1 → (rec (x3 + 1) v_5)) ∧ (r_4 = f1 → (s_X7_ofStone v_5 x3 6 (fun (r_6 : Int32) (v_7 : V) => s_X7_pays v_7 x3 (r_6 + ((r_6 * (v_7 1 (tn 7))) / 100)) (fun (v_8 : V) => ∀ v_9 : V, v_9 = st v_8 1 (tn 4) ((v_8 1 (tn 4)) + 1) → (rec (x3 + 1) v_9))))))))))
def sl_X7_day_53 (post : V → Prop)  (f1 : Int32) (f2 : Int32) (k0 : Int32 → V → Prop) : Nat → Int32 → V → Prop
  | 0 => fun _ _ => False
  | n + 1 => sb_X7_day_53 post f1 f2 k0 (sl_X7_day_53 post f1 f2 k0 n)
def sb_X7_day_12 (post : V → Prop)   (k0 : Int32 → V → Prop) (rec : Int32 → V → Prop) (x1 : Int32) (v : V) : Prop :=
  ((v 1 (tn 2)) ≤ x1 → k0 x1 v) ∧ (¬ (v 1 (tn 2)) ≤ x1 → (s_X7_ofMemo v x1 2 (fun (r_2 : Int32) (v_3 : V) => (((v 1 (tn 3)) - r_2) ≤ (v_3 1 (tn 6)) → (∃ n_13 : Nat, sl_X7_day_53 post x1 0 (fun (x3_14 : Int32) (v_15 : V) => rec (x1 + 1) v_15) n_13 0 v_3)) ∧ (¬ ((v 1 (tn 3)) - r_2) ≤ (v_3 1 (tn 6)) → (∃ n_16 : Nat, sl_X7_day_53 post x1 1 (fun (x3_17 : Int32) (v_18 : V) => rec (x1 + 1) v_18) n_16 0 v_3)))))
def sl_X7_day_12 (post : V → Prop)   (k0 : Int32 → V → Prop) : Nat → Int32 → V → Prop
  | 0 => fun _ _ => False
  | n + 1 => sb_X7_day_12 post k0 (sl_X7_day_12 post k0 n)
def s_X7_day (v : V)   (post : V → Prop) : Prop :=
  ∀ v_1 : V, v_1 = st v 1 (tn 3) ((v 1 (tn 3)) + 1) → (∃ n_21 : Nat, sl_X7_day_12 post (fun (x1_22 : Int32) (v_23 : V) => post v_23) n_21 0 v_1)

def sb_X7_goes_39 (post : Int32 → V → Prop)  (f1 : Int32) (f2 : Int32) (k0 : Int32 → V → Prop) (rec : Int32 → V → Prop) (x3 : Int32) (v : V) : Prop :=
  (f1 ≤ x3 → k0 x3 v) ∧ (¬ f1 ≤ x3 → (s_X7_day v (fun (v_2 : V) => rec (x3 + 1) v_2)))
def sl_X7_goes_39 (post : Int32 → V → Prop)  (f1 : Int32) (f2 : Int32) (k0 : Int32 → V → Prop) : Nat → Int32 → V → Prop
  | 0 => fun _ _ => False
  | n + 1 => sb_X7_goes_39 post f1 f2 k0 (sl_X7_goes_39 post f1 f2 k0 n)
def s_X7_goes (v : V)  (p1 : Int32) (post : Int32 → V → Prop) : Prop :=
  s_X7_in p1 1 99 (fun (r_1 : Int32) => (¬ r_1 = 0 → ((((v 1 (tn 3)) + p1) ≤ 2000 → (∃ n_4 : Nat, sl_X7_goes_39 post p1 (v 1 (tn 4)) (fun (x3_5 : Int32) (v_6 : V) => post ((v_6 1 (tn 4)) - (v 1 (tn 4))) v_6) n_4 0 v)) ∧ (¬ ((v 1 (tn 3)) + p1) ≤ 2000 → (post (-10000003) v)))) ∧ (r_1 = 0 → (post (-10000001) v)))

def s_X7_dealer (v : V)   (post : Int32 → V → Prop) : Prop :=
  s_X7_begins v (fun (v_1 : V) => (¬ (v_1 1 (tn 0)) = 6 → (∀ v_2 : V, v_2 = st v_1 1 (tn 0) ((v_1 1 (tn 0)) + 1) → (s_X7_acted v_2 ((v_2 1 (tn 0)) - 1) (fun (r_3 : Int32) (v_4 : V) => post r_3 v_4)))) ∧ ((v_1 1 (tn 0)) = 6 → (post (-10000003) v_1)))

def s_X7_stone (v : V)  (p1 : Int32) (p2 : Int32) (p3 : Int32) (p4 : Int32) (post : Int32 → V → Prop) : Prop :=
  s_X7_begins v (fun (v_1 : V) => s_X7_isDealer v_1 p1 (fun (r_2 : Int32) (v_3 : V) => (r_2 = 0 → (post (-10000001) v_3)) ∧ (¬ r_2 = 0 → (s_X7_in p2 1 999 (fun (r_4 : Int32) => (r_4 = 0 → (post (-10000001) v_3)) ∧ (¬ r_4 = 0 → (s_X7_isGrade p3 p4 (fun (r_5 : Int32) => (¬ r_5 = 0 → ((¬ (v_3 1 (tn 1)) = 20 → (∀ v_6 : V, v_6 = st v_3 1 (tn 1) ((v_3 1 (tn 1)) + 1) → (s_X7_setStone v_6 (v_3 1 (tn 1)) 0 p2 (fun (v_7 : V) => s_X7_setStone v_7 (v_3 1 (tn 1)) 1 p3 (fun (v_8 : V) => s_X7_setStone v_8 (v_3 1 (tn 1)) 2 p4 (fun (v_9 : V) => s_X7_setStone v_9 (v_3 1 (tn 1)) 3 p1 (fun (v_10 : V) => s_X7_setStone v_10 (v_3 1 (tn 1)) 4 p1 (fun (v_11 : V) => s_X7_setStone v_11 (v_3 1 (tn 1)) 5 (-1) (fun (v_12 : V) => s_X7_acted v_12 (v_3 1 (tn 1)) (fun (r_13 : Int32) (v_14 : V) => post r_13 v_14)))))))))) ∧ ((v_3 1 (tn 1)) = 20 → (post (-10000003) v_3)))) ∧ (r_5 = 0 → (post (-10000001) v_3))))))))))

def s_X7_rate (v : V)  (p1 : Int32) (p2 : Int32) (p3 : Int32) (p4 : Int32) (post : Int32 → V → Prop) : Prop :=
  s_X7_begins v (fun (v_1 : V) => s_X7_rates v_1 p1 p2 p3 p4 (fun (r_2 : Int32) (v_3 : V) => s_X7_acted v_3 r_2 (fun (r_4 : Int32) (v_5 : V) => post r_4 v_5)))

def s_X7_unrate (v : V)  (p1 : Int32) (p2 : Int32) (p3 : Int32) (post : Int32 → V → Prop) : Prop :=
  s_X7_begins v (fun (v_1 : V) => s_X7_in p1 0 4 (fun (r_2 : Int32) => (r_2 = 0 → (post (-10000001) v_1)) ∧ (¬ r_2 = 0 → (s_X7_isGrade p2 p3 (fun (r_3 : Int32) => (¬ r_3 = 0 → (s_X7_rateAt p1 p2 p3 (fun (r_4 : Int32) => vp_in r_4 664 ∧ ((¬ (v_1 1 (tn r_4)) = 0 → (vp_in r_4 664 ∧ (∀ v_5 : V, v_5 = st v_1 1 (tn r_4) 0 → (∀ v_6 : V, v_6 = st v_5 1 (tn 5) ((v_5 1 (tn 5)) - 1) → (s_X7_acted v_6 (v_1 1 (tn r_4)) (fun (r_7 : Int32) (v_8 : V) => post r_7 v_8)))))) ∧ ((v_1 1 (tn r_4)) = 0 → (post (-10000002) v_1)))))) ∧ (r_3 = 0 → (post (-10000001) v_1)))))))

def s_X7_lend (v : V)  (p1 : Int32) (p2 : Int32) (p3 : Int32) (p4 : Int32) (post : Int32 → V → Prop) : Prop :=
  s_X7_begins v (fun (v_1 : V) => s_X7_lends v_1 p1 p2 p3 p4 (fun (r_2 : Int32) (v_3 : V) => s_X7_acted v_3 r_2 (fun (r_4 : Int32) (v_5 : V) => post r_4 v_5)))

def s_X7_back (v : V)  (p1 : Int32) (post : Int32 → V → Prop) : Prop :=
  s_X7_begins v (fun (v_1 : V) => s_X7_gives v_1 p1 (fun (r_2 : Int32) (v_3 : V) => s_X7_acted v_3 r_2 (fun (r_4 : Int32) (v_5 : V) => post r_4 v_5)))

def s_X7_keep (v : V)  (p1 : Int32) (post : Int32 → V → Prop) : Prop :=
  s_X7_begins v (fun (v_1 : V) => s_X7_keeps v_1 p1 (fun (r_2 : Int32) (v_3 : V) => s_X7_acted v_3 r_2 (fun (r_4 : Int32) (v_5 : V) => post r_4 v_5)))

def s_X7_sell (v : V)  (p1 : Int32) (p2 : Int32) (post : Int32 → V → Prop) : Prop :=
  s_X7_begins v (fun (v_1 : V) => s_X7_sells v_1 p1 p2 (fun (r_2 : Int32) (v_3 : V) => s_X7_acted v_3 r_2 (fun (r_4 : Int32) (v_5 : V) => post r_4 v_5)))

def s_X7_grade (v : V)  (p1 : Int32) (p2 : Int32) (p3 : Int32) (post : Int32 → V → Prop) : Prop :=
  s_X7_begins v (fun (v_1 : V) => s_X7_grades1 v_1 p1 p2 p3 (fun (r_2 : Int32) (v_3 : V) => s_X7_acted v_3 r_2 (fun (r_4 : Int32) (v_5 : V) => post r_4 v_5)))

def s_X7_pause (v : V)  (p1 : Int32) (post : Int32 → V → Prop) : Prop :=
  s_X7_begins v (fun (v_1 : V) => s_X7_goes v_1 p1 (fun (r_2 : Int32) (v_3 : V) => s_X7_acted v_3 r_2 (fun (r_4 : Int32) (v_5 : V) => post r_4 v_5)))

def s_X7_set (v : V)  (p1 : Int32) (p2 : Int32) (post : Int32 → V → Prop) : Prop :=
  s_X7_begins v (fun (v_1 : V) => s_X7_in p1 0 1 (fun (r_2 : Int32) => (r_2 = 0 → (post (-10000001) v_1)) ∧ (¬ r_2 = 0 → ((¬ p1 = 0 → (s_X7_in p2 0 100 (fun (r_3 : Int32) => (¬ r_3 = 0 → (vp_in (6 + p1) 664 ∧ (vp_in (6 + p1) 664 ∧ (∀ v_4 : V, v_4 = st v_1 1 (tn (6 + p1)) p2 → (s_X7_acted v_4 (v_1 1 (tn (6 + p1))) (fun (r_5 : Int32) (v_6 : V) => post r_5 v_6)))))) ∧ (r_3 = 0 → (post (-10000001) v_1))))) ∧ (p1 = 0 → (s_X7_in p2 0 30 (fun (r_9 : Int32) => (¬ r_9 = 0 → (vp_in (6 + p1) 664 ∧ (vp_in (6 + p1) 664 ∧ (∀ v_10 : V, v_10 = st v_1 1 (tn (6 + p1)) p2 → (s_X7_acted v_10 (v_1 1 (tn (6 + p1))) (fun (r_11 : Int32) (v_12 : V) => post r_11 v_12)))))) ∧ (r_9 = 0 → (post (-10000001) v_1)))))))))

def s_X7_orNone   (p0 : Int32) (post : Int32 → Prop) : Prop :=
  (0 ≤ p0 → post p0) ∧ (¬ 0 ≤ p0 → (post (-10000004)))

def s_X7_stoneOf (v : V)  (p1 : Int32) (p2 : Int32) (post : Int32 → V → Prop) : Prop :=
  s_X7_isStone v p1 (fun (r_1 : Int32) (v_2 : V) => (r_1 = 0 → (post (-10000001) v_2)) ∧ (¬ r_1 = 0 → (s_X7_in p2 0 10 (fun (r_3 : Int32) => (¬ r_3 = 0 → ((p2 = 3 → (s_X7_sieve v_2 p1 (fun (r_4 : Int32) (v_5 : V) => post r_4 v_5))) ∧ ((p2 = 4 → (s_X7_ofStone v_2 p1 (p2 - 1) (fun (r_7 : Int32) (v_8 : V) => s_X7_orNone r_7 (fun (r_9 : Int32) => post r_9 v_8)))) ∧ ((p2 = 5 → (s_X7_ofStone v_2 p1 (p2 - 1) (fun (r_12 : Int32) (v_13 : V) => s_X7_orNone r_12 (fun (r_14 : Int32) => post r_14 v_13)))) ∧ ((p2 = 6 → (s_X7_price v_2 p1 (fun (r_17 : Int32) (v_18 : V) => s_X7_orNone r_17 (fun (r_19 : Int32) => post r_19 v_18)))) ∧ ((p2 = 7 → (s_X7_ofStone v_2 p1 5 (fun (r_22 : Int32) (v_23 : V) => s_X7_orNone r_22 (fun (r_24 : Int32) => post r_24 v_23)))) ∧ ((p2 = 8 → (s_X7_isOut v_2 p1 (fun (r_27 : Int32) (v_28 : V) => (r_27 = 0 → (post (-10000004) v_28)) ∧ (¬ r_27 = 0 → (s_X7_ofStone v_28 p1 6 (fun (r_29 : Int32) (v_30 : V) => post r_29 v_30)))))) ∧ ((p2 = 9 → (s_X7_isSold v_2 p1 (fun (r_33 : Int32) (v_34 : V) => (r_33 = 0 → (post (-10000004) v_34)) ∧ (¬ r_33 = 0 → (s_X7_ofStone v_34 p1 7 (fun (r_35 : Int32) (v_36 : V) => post r_35 v_36)))))) ∧ ((p2 = 10 → (s_X7_ofStone v_2 p1 8 (fun (r_39 : Int32) (v_40 : V) => post r_39 v_40))) ∧ ((p2.toInt < 3 ∨ 10 < p2.toInt → (s_X7_ofStone v_2 p1 p2 (fun (r_42 : Int32) (v_43 : V) => post r_42 v_43))))))))))))) ∧ (r_3 = 0 → (post (-10000001) v_2))))))

def sb_X7_setOf_5 (post : Int32 → V → Prop)  (f1 : Int32) (f2 : Int32) (k0 : Int32 → Int32 → V → Prop) (rec : Int32 → Int32 → V → Prop) (x3 : Int32) (x4 : Int32) (v : V) : Prop :=
  ((v 1 (tn 1)) ≤ x4 → k0 x3 x4 v) ∧ (¬ (v 1 (tn 1)) ≤ x4 → (s_X7_ofStone v x4 f2 (fun (r_1 : Int32) (v_2 : V) => (¬ r_1 = f1 → (rec (x3 ||| 0) (x4 + 1) v_2)) ∧ (r_1 = f1 → (rec (x3 ||| (1 <<< (x4 &&& 31))) (x4 + 1) v_2)))))
def sl_X7_setOf_5 (post : Int32 → V → Prop)  (f1 : Int32) (f2 : Int32) (k0 : Int32 → Int32 → V → Prop) : Nat → Int32 → Int32 → V → Prop
  | 0 => fun _ _ _ => False
  | n + 1 => sb_X7_setOf_5 post f1 f2 k0 (sl_X7_setOf_5 post f1 f2 k0 n)
def s_X7_setOf (v : V)  (p1 : Int32) (p2 : Int32) (post : Int32 → V → Prop) : Prop :=
  ∃ n_5 : Nat, sl_X7_setOf_5 post p1 p2 (fun (x3_6 : Int32) (x4_7 : Int32) (v_8 : V) => post x3_6 v_8) n_5 0 0 v

def sb_X7_worth_4 (post : Int32 → V → Prop)  (f1 : Int32) (k0 : Int32 → Int32 → V → Prop) (rec : Int32 → Int32 → V → Prop) (x2 : Int32) (x3 : Int32) (v : V) : Prop :=
  ((v 1 (tn 1)) ≤ x3 → k0 x2 x3 v) ∧ (¬ (v 1 (tn 1)) ≤ x3 → (s_X7_price v x3 (fun (r_1 : Int32) (v_2 : V) => s_X7_ofStone v_2 x3 3 (fun (r_3 : Int32) (v_4 : V) => (¬ r_3 = f1 → (rec (x2 + 0) (x3 + 1) v_4)) ∧ (r_3 = f1 → ((r_1 ≤ 0 → (rec (x2 + 0) (x3 + 1) v_4)) ∧ (¬ r_1 ≤ 0 → (rec (x2 + r_1) (x3 + 1) v_4))))))))
def sl_X7_worth_4 (post : Int32 → V → Prop)  (f1 : Int32) (k0 : Int32 → Int32 → V → Prop) : Nat → Int32 → Int32 → V → Prop
  | 0 => fun _ _ _ => False
  | n + 1 => sb_X7_worth_4 post f1 k0 (sl_X7_worth_4 post f1 k0 n)
def s_X7_worth (v : V)  (p1 : Int32) (post : Int32 → V → Prop) : Prop :=
  ∃ n_8 : Nat, sl_X7_worth_4 post p1 (fun (x2_9 : Int32) (x3_10 : Int32) (v_11 : V) => post x2_9 v_11) n_8 0 0 v

def sb_X7_askedBy_5 (post : Int32 → V → Prop)  (f1 : Int32) (f2 : Int32) (k0 : Int32 → Int32 → V → Prop) (rec : Int32 → Int32 → V → Prop) (x3 : Int32) (x4 : Int32) (v : V) : Prop :=
  ((v 1 (tn 1)) ≤ x4 → k0 x3 x4 v) ∧ (¬ (v 1 (tn 1)) ≤ x4 → (s_X7_isOut v x4 (fun (r_1 : Int32) (v_2 : V) => (r_1 = 0 → (rec (x3 + 0) (x4 + 1) v_2)) ∧ (¬ r_1 = 0 → (s_X7_ofStone v_2 x4 5 (fun (r_3 : Int32) (v_4 : V) => s_X7_ofMemo v_4 r_3 f2 (fun (r_5 : Int32) (v_6 : V) => (¬ r_5 = f1 → (rec (x3 + 0) (x4 + 1) v_6)) ∧ (r_5 = f1 → (s_X7_ofStone v_6 x4 6 (fun (r_7 : Int32) (v_8 : V) => rec (x3 + r_7) (x4 + 1) v_8))))))))))
def sl_X7_askedBy_5 (post : Int32 → V → Prop)  (f1 : Int32) (f2 : Int32) (k0 : Int32 → Int32 → V → Prop) : Nat → Int32 → Int32 → V → Prop
  | 0 => fun _ _ _ => False
  | n + 1 => sb_X7_askedBy_5 post f1 f2 k0 (sl_X7_askedBy_5 post f1 f2 k0 n)
def s_X7_askedBy (v : V)  (p1 : Int32) (p2 : Int32) (post : Int32 → V → Prop) : Prop :=
  ∃ n_12 : Nat, sl_X7_askedBy_5 post p1 p2 (fun (x3_13 : Int32) (x4_14 : Int32) (v_15 : V) => post x3_13 v_15) n_12 0 0 v

def s_X7_dealerOf (v : V)  (p1 : Int32) (p2 : Int32) (post : Int32 → V → Prop) : Prop :=
  s_X7_isDealer v p1 (fun (r_1 : Int32) (v_2 : V) => (r_1 = 0 → (post (-10000001) v_2)) ∧ (¬ r_1 = 0 → (s_X7_in p2 0 5 (fun (r_3 : Int32) => (¬ r_3 = 0 → ((p2 = 0 → (vp_in (8 + p1) 664 ∧ (post (100000000 + (v_2 1 (tn (8 + p1)))) v_2))) ∧ ((p2 = 1 → ((¬ p2 = 1 → (s_X7_setOf v_2 p1 4 (fun (r_5 : Int32) (v_6 : V) => post r_5 v_6))) ∧ (p2 = 1 → (s_X7_setOf v_2 p1 3 (fun (r_7 : Int32) (v_8 : V) => post r_7 v_8))))) ∧ ((p2 = 2 → ((¬ p2 = 1 → (s_X7_setOf v_2 p1 4 (fun (r_11 : Int32) (v_12 : V) => post r_11 v_12))) ∧ (p2 = 1 → (s_X7_setOf v_2 p1 3 (fun (r_13 : Int32) (v_14 : V) => post r_13 v_14))))) ∧ ((p2 = 3 → (s_X7_worth v_2 p1 (fun (r_17 : Int32) (v_18 : V) => post r_17 v_18))) ∧ ((p2.toInt < 0 ∨ 3 < p2.toInt → ((¬ p2 = 4 → (s_X7_askedBy v_2 p1 0 (fun (r_20 : Int32) (v_21 : V) => post r_20 v_21))) ∧ (p2 = 4 → (s_X7_askedBy v_2 p1 1 (fun (r_22 : Int32) (v_23 : V) => post r_22 v_23))))))))))) ∧ (r_3 = 0 → (post (-10000001) v_2))))))

def s_X7_memoOf (v : V)  (p1 : Int32) (p2 : Int32) (post : Int32 → V → Prop) : Prop :=
  s_X7_in p1 0 ((v 1 (tn 2)) - 1) (fun (r_1 : Int32) => (r_1 = 0 → (post (-10000001) v)) ∧ (¬ r_1 = 0 → (s_X7_in p2 0 7 (fun (r_2 : Int32) => (¬ r_2 = 0 → (s_X7_ofMemo v p1 2 (fun (r_3 : Int32) (v_4 : V) => (p2 = 3 → (s_X7_outBy v_4 p1 (fun (r_5 : Int32) (v_6 : V) => post r_5 v_6))) ∧ ((p2 = 4 → (s_X7_ofMemo v_4 p1 (p2 - 1) (fun (r_8 : Int32) (v_9 : V) => post r_8 v_9))) ∧ ((p2 = 5 → (s_X7_ofMemo v_4 p1 (p2 - 1) (fun (r_11 : Int32) (v_12 : V) => post r_11 v_12))) ∧ ((p2 = 6 → (s_X7_outBy v_4 p1 (fun (r_14 : Int32) (v_15 : V) => (¬ r_14 = 0 → post 1 v_15) ∧ (r_14 = 0 → post 0 v_15)))) ∧ ((p2 = 7 → ((0 ≤ (r_3 - (v_4 1 (tn 3))) → (post (r_3 - (v_4 1 (tn 3))) v_4)) ∧ (¬ 0 ≤ (r_3 - (v_4 1 (tn 3))) → post 0 v_4))) ∧ ((p2.toInt < 3 ∨ 7 < p2.toInt → (s_X7_ofMemo v_4 p1 p2 (fun (r_20 : Int32) (v_21 : V) => post r_20 v_21))))))))))) ∧ (r_2 = 0 → (post (-10000001) v))))))

def s_X7_rateOf (v : V)  (p1 : Int32) (p2 : Int32) (p3 : Int32) (p4 : Int32) (post : Int32 → V → Prop) : Prop :=
  s_X7_in p1 0 4 (fun (r_1 : Int32) => (r_1 = 0 → (post (-10000001) v)) ∧ (¬ r_1 = 0 → (s_X7_isGrade p2 p3 (fun (r_2 : Int32) => (r_2 = 0 → (post (-10000001) v)) ∧ (¬ r_2 = 0 → (s_X7_in p4 0 1 (fun (r_3 : Int32) => (¬ r_3 = 0 → ((¬ p4 = 1 → (s_X7_rateFor v p1 p2 p3 (fun (r_4 : Int32) (v_5 : V) => (¬ r_4 = 0 → post r_4 v_5) ∧ (r_4 = 0 → (post (-10000004) v_5))))) ∧ (p4 = 1 → (s_X7_rateAt p1 p2 p3 (fun (r_7 : Int32) => vp_in r_7 664 ∧ ((¬ (v 1 (tn r_7)) = 0 → (post (v 1 (tn r_7)) v)) ∧ ((v 1 (tn r_7)) = 0 → (post (-10000004) v)))))))) ∧ (r_3 = 0 → (post (-10000001) v)))))))))

def sb_X7_stonesOf_4 (post : Int32 → V → Prop)  (f1 : Int32) (k0 : Int32 → Int32 → V → Prop) (rec : Int32 → Int32 → V → Prop) (x2 : Int32) (x3 : Int32) (v : V) : Prop :=
  ((v 1 (tn 1)) ≤ x3 → k0 x2 x3 v) ∧ (¬ (v 1 (tn 1)) ≤ x3 → ((¬ f1 = 9 → ((¬ f1 = 2 → (s_X7_isOut v x3 (fun (r_1 : Int32) (v_2 : V) => (r_1 = 0 → (rec (x2 + 0) (x3 + 1) v_2)) ∧ (¬ r_1 = 0 → (rec (x2 + 1) (x3 + 1) v_2))))) ∧ (f1 = 2 → (s_X7_isSold v x3 (fun (r_4 : Int32) (v_5 : V) => (r_4 = 0 → (rec (x2 + 0) (x3 + 1) v_5)) ∧ (¬ r_4 = 0 → (rec (x2 + 1) (x3 + 1) v_5))))))) ∧ (f1 = 9 → (s_X7_ofStone v x3 7 (fun (r_8 : Int32) (v_9 : V) => rec (x2 + r_8) (x3 + 1) v_9)))))
def sl_X7_stonesOf_4 (post : Int32 → V → Prop)  (f1 : Int32) (k0 : Int32 → Int32 → V → Prop) : Nat → Int32 → Int32 → V → Prop
  | 0 => fun _ _ _ => False
  | n + 1 => sb_X7_stonesOf_4 post f1 k0 (sl_X7_stonesOf_4 post f1 k0 n)
def s_X7_stonesOf (v : V)  (p1 : Int32) (post : Int32 → V → Prop) : Prop :=
  ∃ n_12 : Nat, sl_X7_stonesOf_4 post p1 (fun (x2_13 : Int32) (x3_14 : Int32) (v_15 : V) => post x2_13 v_15) n_12 0 0 v

def sb_X7_openMemos_4 (post : Int32 → V → Prop)   (k0 : Int32 → Int32 → V → Prop) (rec : Int32 → Int32 → V → Prop) (x1 : Int32) (x2 : Int32) (v : V) : Prop :=
  ((v 1 (tn 2)) ≤ x2 → k0 x1 x2 v) ∧ (¬ (v 1 (tn 2)) ≤ x2 → (s_X7_outBy v x2 (fun (r_1 : Int32) (v_2 : V) => (¬ r_1 = 0 → (rec (x1 + 1) (x2 + 1) v_2)) ∧ (r_1 = 0 → (rec (x1 + 0) (x2 + 1) v_2)))))
def sl_X7_openMemos_4 (post : Int32 → V → Prop)   (k0 : Int32 → Int32 → V → Prop) : Nat → Int32 → Int32 → V → Prop
  | 0 => fun _ _ _ => False
  | n + 1 => sb_X7_openMemos_4 post k0 (sl_X7_openMemos_4 post k0 n)
def s_X7_openMemos (v : V)   (post : Int32 → V → Prop) : Prop :=
  ∃ n_5 : Nat, sl_X7_openMemos_4 post (fun (x1_6 : Int32) (x2_7 : Int32) (v_8 : V) => post x1_6 v_8) n_5 0 0 v

def sb_X7_balances_4 (post : Int32 → V → Prop)   (k0 : Int32 → Int32 → V → Prop) (rec : Int32 → Int32 → V → Prop) (x1 : Int32) (x2 : Int32) (v : V) : Prop :=
  (6 ≤ x2 → k0 x1 x2 v) ∧ (¬ 6 ≤ x2 → (vp_in (8 + x2) 664 ∧ (rec (x1 + (v 1 (tn (8 + x2)))) (x2 + 1) v)))
def sl_X7_balances_4 (post : Int32 → V → Prop)   (k0 : Int32 → Int32 → V → Prop) : Nat → Int32 → Int32 → V → Prop
  | 0 => fun _ _ _ => False
  | n + 1 => sb_X7_balances_4 post k0 (sl_X7_balances_4 post k0 n)
def s_X7_balances (v : V)   (post : Int32 → V → Prop) : Prop :=
  ∃ n_2 : Nat, sl_X7_balances_4 post (fun (x1_3 : Int32) (x2_4 : Int32) (v_5 : V) => post x1_3 v_5) n_2 0 0 v

def s_X7_count (v : V)  (p1 : Int32) (post : Int32 → V → Prop) : Prop :=
  (p1 = 0 → (vp_in p1 664 ∧ (post (v 1 (tn p1)) v))) ∧ ((p1 = 1 → (vp_in p1 664 ∧ (post (v 1 (tn p1)) v))) ∧ ((p1 = 2 → (s_X7_stonesOf v p1 (fun (r_3 : Int32) (v_4 : V) => post r_3 v_4))) ∧ ((p1 = 3 → (s_X7_stonesOf v p1 (fun (r_6 : Int32) (v_7 : V) => post r_6 v_7))) ∧ ((p1 = 4 → (post (v 1 (tn 2)) v)) ∧ ((p1 = 5 → (s_X7_openMemos v (fun (r_10 : Int32) (v_11 : V) => post r_10 v_11))) ∧ ((p1 = 6 → (post (v 1 (tn 5)) v)) ∧ ((p1 = 7 → (post (v 1 (tn 3)) v)) ∧ ((p1 = 8 → (s_X7_balances v (fun (r_15 : Int32) (v_16 : V) => post (100000000 + r_15) v_16))) ∧ ((p1 = 9 → (s_X7_stonesOf v p1 (fun (r_18 : Int32) (v_19 : V) => post r_18 v_19))) ∧ ((p1 = 10 → (post (v 1 (tn 4)) v)) ∧ ((p1 = 11 → (post (v 0 5) v)) ∧ ((p1 = 12 → (post (v 0 7) v)) ∧ ((p1 = 13 → (((v 0 3) = 0 → post 0 v) ∧ (¬ (v 0 3) = 0 → post 1 v))) ∧ ((p1.toInt < 0 ∨ 13 < p1.toInt → (s_X7_in p1 14 15 (fun (r_26 : Int32) => (r_26 = 0 → (post (-10000001) v)) ∧ (¬ r_26 = 0 → (vp_in ((6 + p1) - 14) 664 ∧ (post (v 1 (tn ((6 + p1) - 14))) v))))))))))))))))))))

def sb_X7_best_26 (post : Int32 → V → Prop)  (f1 : Int32) (f2 : Int32) (k0 : Int32 → Int32 → V → Prop) (rec : Int32 → Int32 → V → Prop) (x3 : Int32) (x4 : Int32) (v : V) : Prop :=
  ((v 1 (tn 1)) ≤ x4 → k0 x3 x4 v) ∧ (¬ (v 1 (tn 1)) ≤ x4 → (s_X7_price v x4 (fun (r_4 : Int32) (v_5 : V) => s_X7_ofStone v_5 x4 4 (fun (r_6 : Int32) (v_7 : V) => (¬ r_6 = f1 → (rec x3 (x4 + 1) v_7)) ∧ (r_6 = f1 → (s_X7_in r_4 0 f2 (fun (r_8 : Int32) => (r_8 = 0 → (rec x3 (x4 + 1) v_7)) ∧ (¬ r_8 = 0 → ((x3 < 0 → (rec x4 (x4 + 1) v_7)) ∧ (¬ x3 < 0 → (s_X7_price v_7 x3 (fun (r_9 : Int32) (v_10 : V) => (r_9 < r_4 → (rec x4 (x4 + 1) v_10)) ∧ (¬ r_9 < r_4 → (s_X7_price v_10 x3 (fun (r_11 : Int32) (v_12 : V) => (¬ r_4 = r_11 → (rec x3 (x4 + 1) v_12)) ∧ (r_4 = r_11 → (s_X7_ofStone v_12 x4 0 (fun (r_13 : Int32) (v_14 : V) => s_X7_ofStone v_14 x3 0 (fun (r_15 : Int32) (v_16 : V) => (r_13 ≤ r_15 → (rec x3 (x4 + 1) v_16)) ∧ (¬ r_13 ≤ r_15 → (rec x4 (x4 + 1) v_16)))))))))))))))))))))
def sl_X7_best_26 (post : Int32 → V → Prop)  (f1 : Int32) (f2 : Int32) (k0 : Int32 → Int32 → V → Prop) : Nat → Int32 → Int32 → V → Prop
  | 0 => fun _ _ _ => False
  | n + 1 => sb_X7_best_26 post f1 f2 k0 (sl_X7_best_26 post f1 f2 k0 n)
def s_X7_best (v : V)  (p1 : Int32) (p2 : Int32) (post : Int32 → V → Prop) : Prop :=
  s_X7_isDealer v p1 (fun (r_1 : Int32) (v_2 : V) => (r_1 = 0 → (post (-10000001) v_2)) ∧ (¬ r_1 = 0 → (s_X7_in p2 0 99999 (fun (r_3 : Int32) => (¬ r_3 = 0 → (∃ n_25 : Nat, sl_X7_best_26 post p1 p2 (fun (x3_26 : Int32) (x4_27 : Int32) (v_28 : V) => s_X7_orNone x3_26 (fun (r_29 : Int32) => post r_29 v_28)) n_25 (-1) 0 v_2)) ∧ (r_3 = 0 → (post (-10000001) v_2))))))

def s_X7_areAlike (v : V)  (p1 : Int32) (p2 : Int32) (post : Int32 → V → Prop) : Prop :=
  s_X7_sieve v p1 (fun (r_1 : Int32) (v_2 : V) => s_X7_sieve v_2 p2 (fun (r_3 : Int32) (v_4 : V) => (¬ r_1 = r_3 → post 0 v_4) ∧ (r_1 = r_3 → (s_X7_ofStone v_4 p1 1 (fun (r_5 : Int32) (v_6 : V) => s_X7_ofStone v_6 p2 1 (fun (r_7 : Int32) (v_8 : V) => (¬ r_5 = r_7 → post 0 v_8) ∧ (r_5 = r_7 → (s_X7_ofStone v_8 p1 2 (fun (r_9 : Int32) (v_10 : V) => s_X7_ofStone v_10 p2 2 (fun (r_11 : Int32) (v_12 : V) => (¬ r_9 = r_11 → post 0 v_12) ∧ (r_9 = r_11 → post 1 v_12)))))))))))

def s_X7_apart (v : V)  (p1 : Int32) (p2 : Int32) (post : Int32 → V → Prop) : Prop :=
  s_X7_ofStone v p1 0 (fun (r_1 : Int32) (v_2 : V) => s_X7_ofStone v_2 p2 0 (fun (r_3 : Int32) (v_4 : V) => (0 ≤ (r_1 - r_3) → (post (r_1 - r_3) v_4)) ∧ (¬ 0 ≤ (r_1 - r_3) → (post (-(r_1 - r_3)) v_4))))

def sb_X7_pair_28 (post : Int32 → V → Prop)  (f1 : Int32) (f2 : Int32) (k0 : Int32 → Int32 → Int32 → V → Prop) (rec : Int32 → Int32 → Int32 → V → Prop) (x3 : Int32) (x4 : Int32) (x5 : Int32) (v : V) : Prop :=
  (400 ≤ x5 → k0 x3 x4 x5 v) ∧ (¬ 400 ≤ x5 → (((x5 - x5 / 20 * 20) ≤ (x5 / 20) → (rec x3 x4 (x5 + 1) v)) ∧ (¬ (x5 - x5 / 20 * 20) ≤ (x5 / 20) → (((v 1 (tn 1)) ≤ (x5 - x5 / 20 * 20) → (rec x3 x4 (x5 + 1) v)) ∧ (¬ (v 1 (tn 1)) ≤ (x5 - x5 / 20 * 20) → (s_X7_ofStone v (x5 / 20) 4 (fun (r_4 : Int32) (v_5 : V) => (¬ r_4 = f1 → (rec x3 x4 (x5 + 1) v_5)) ∧ (r_4 = f1 → (s_X7_ofStone v_5 (x5 - x5 / 20 * 20) 4 (fun (r_6 : Int32) (v_7 : V) => (¬ r_6 = f1 → (rec x3 x4 (x5 + 1) v_7)) ∧ (r_6 = f1 → (s_X7_areAlike v_7 (x5 / 20) (x5 - x5 / 20 * 20) (fun (r_8 : Int32) (v_9 : V) => (r_8 = 0 → (rec x3 x4 (x5 + 1) v_9)) ∧ (¬ r_8 = 0 → ((x3 < 0 → (s_X7_apart v_9 (x5 / 20) (x5 - x5 / 20 * 20) (fun (r_10 : Int32) (v_11 : V) => rec x5 r_10 (x5 + 1) v_11))) ∧ (¬ x3 < 0 → (s_X7_apart v_9 (x5 / 20) (x5 - x5 / 20 * 20) (fun (r_12 : Int32) (v_13 : V) => (x4 ≤ r_12 → (rec x3 x4 (x5 + 1) v_13)) ∧ (¬ x4 ≤ r_12 → (s_X7_apart v_13 (x5 / 20) (x5 - x5 / 20 * 20) (fun (r_14 : Int32) (v_15 : V) => rec x5 r_14 (x5 + 1) v_15)))))))))))))))))))))
def sl_X7_pair_28 (post : Int32 → V → Prop)  (f1 : Int32) (f2 : Int32) (k0 : Int32 → Int32 → Int32 → V → Prop) : Nat → Int32 → Int32 → Int32 → V → Prop
  | 0 => fun _ _ _ _ => False
  | n + 1 => sb_X7_pair_28 post f1 f2 k0 (sl_X7_pair_28 post f1 f2 k0 n)
def s_X7_pair (v : V)  (p1 : Int32) (p2 : Int32) (post : Int32 → V → Prop) : Prop :=
  s_X7_isDealer v p1 (fun (r_1 : Int32) (v_2 : V) => (r_1 = 0 → (post (-10000001) v_2)) ∧ (¬ r_1 = 0 → (s_X7_in p2 0 2 (fun (r_3 : Int32) => (¬ r_3 = 0 → (∃ n_24 : Nat, sl_X7_pair_28 post p1 p2 (fun (x3_25 : Int32) (x4_26 : Int32) (x5_27 : Int32) (v_28 : V) => (0 ≤ x3_25 → ((¬ p2 = 0 → ((¬ p2 = 1 → post x4_26 v_28) ∧ (p2 = 1 → (post (x3_25 - x3_25 / 20 * 20) v_28)))) ∧ (p2 = 0 → (post (x3_25 / 20) v_28)))) ∧ (¬ 0 ≤ x3_25 → (post (-10000004) v_28))) n_24 (-1) 0 0 v_2)) ∧ (r_3 = 0 → (post (-10000001) v_2))))))

def sb_X7_grades_45 (post : Int32 → V → Prop)  (f1 : Int32) (f2 : Int32) (f3 : Int32) (k0 : Int32 → Int32 → V → Prop) (rec : Int32 → Int32 → V → Prop) (x4 : Int32) (x5 : Int32) (v : V) : Prop :=
  (f3 ≤ x5 → k0 x4 x5 v) ∧ (¬ f3 ≤ x5 → ((x4 = 0 → k0 x4 x5 v) ∧ (¬ x4 = 0 → (s_X7_ofStone v x5 4 (fun (r_5 : Int32) (v_6 : V) => (¬ r_5 = f1 → (rec 1 (x5 + 1) v_6)) ∧ (r_5 = f1 → (s_X7_areAlike v_6 x5 f3 (fun (r_7 : Int32) (v_8 : V) => (¬ r_7 = 0 → (rec 0 (x5 + 1) v_8)) ∧ (r_7 = 0 → (rec 1 (x5 + 1) v_8))))))))))
def sl_X7_grades_45 (post : Int32 → V → Prop)  (f1 : Int32) (f2 : Int32) (f3 : Int32) (k0 : Int32 → Int32 → V → Prop) : Nat → Int32 → Int32 → V → Prop
  | 0 => fun _ _ _ => False
  | n + 1 => sb_X7_grades_45 post f1 f2 f3 k0 (sl_X7_grades_45 post f1 f2 f3 k0 n)
def sb_X7_grades_15 (post : Int32 → V → Prop)  (f1 : Int32) (k0 : Int32 → Int32 → V → Prop) (rec : Int32 → Int32 → V → Prop) (x2 : Int32) (x3 : Int32) (v : V) : Prop :=
  ((v 1 (tn 1)) ≤ x3 → k0 x2 x3 v) ∧ (¬ (v 1 (tn 1)) ≤ x3 → (s_X7_ofStone v x3 4 (fun (r_3 : Int32) (v_4 : V) => (¬ r_3 = f1 → (∃ n_13 : Nat, sl_X7_grades_45 post f1 x2 x3 (fun (x4_14 : Int32) (x5_15 : Int32) (v_16 : V) => (x4_14 = 0 → (rec (x2 + 0) (x3 + 1) v_16)) ∧ (¬ x4_14 = 0 → (rec (x2 + 1) (x3 + 1) v_16))) n_13 0 0 v_4)) ∧ (r_3 = f1 → (∃ n_18 : Nat, sl_X7_grades_45 post f1 x2 x3 (fun (x4_19 : Int32) (x5_20 : Int32) (v_21 : V) => (x4_19 = 0 → (rec (x2 + 0) (x3 + 1) v_21)) ∧ (¬ x4_19 = 0 → (rec (x2 + 1) (x3 + 1) v_21))) n_18 1 0 v_4)))))
def sl_X7_grades_15 (post : Int32 → V → Prop)  (f1 : Int32) (k0 : Int32 → Int32 → V → Prop) : Nat → Int32 → Int32 → V → Prop
  | 0 => fun _ _ _ => False
  | n + 1 => sb_X7_grades_15 post f1 k0 (sl_X7_grades_15 post f1 k0 n)
def s_X7_grades (v : V)  (p1 : Int32) (post : Int32 → V → Prop) : Prop :=
  s_X7_isDealer v p1 (fun (r_1 : Int32) (v_2 : V) => (¬ r_1 = 0 → (∃ n_25 : Nat, sl_X7_grades_15 post p1 (fun (x2_26 : Int32) (x3_27 : Int32) (v_28 : V) => post x2_26 v_28) n_25 0 0 v_2)) ∧ (r_1 = 0 → (post (-10000001) v_2)))

def sb_X7_mark_2 (post : Int32 → V → Prop)   (k0 : Int32 → V → Prop) (rec : Int32 → V → Prop) (x1 : Int32) (v : V) : Prop :=
  (664 ≤ x1 → k0 x1 v) ∧ (¬ 664 ≤ x1 → (vp_in x1 664 ∧ (vp_in x1 664 ∧ (∀ v_1 : V, v_1 = st v 3 (tn x1) (v 1 (tn x1)) → (rec (x1 + 1) v_1)))))
def sl_X7_mark_2 (post : Int32 → V → Prop)   (k0 : Int32 → V → Prop) : Nat → Int32 → V → Prop
  | 0 => fun _ _ => False
  | n + 1 => sb_X7_mark_2 post k0 (sl_X7_mark_2 post k0 n)
def s_X7_mark (v : V)   (post : Int32 → V → Prop) : Prop :=
  ∃ n_3 : Nat, sl_X7_mark_2 post (fun (x1_4 : Int32) (v_5 : V) => ∀ v_6 : V, v_6 = sc v_5 0 3 1 → (post (v_6 1 (tn 3)) v_6)) n_3 0 v

def sb_X7_restore_16 (post : Int32 → V → Prop)   (k0 : Int32 → V → Prop) (rec : Int32 → V → Prop) (x1 : Int32) (v : V) : Prop :=
  (664 ≤ x1 → k0 x1 v) ∧ (¬ 664 ≤ x1 → (vp_in x1 664 ∧ (vp_in x1 664 ∧ (∀ v_2 : V, v_2 = st v 1 (tn x1) (v 3 (tn x1)) → (rec (x1 + 1) v_2)))))
def sl_X7_restore_16 (post : Int32 → V → Prop)   (k0 : Int32 → V → Prop) : Nat → Int32 → V → Prop
  | 0 => fun _ _ => False
  | n + 1 => sb_X7_restore_16 post k0 (sl_X7_restore_16 post k0 n)
def s_X7_restore (v : V)   (post : Int32 → V → Prop) : Prop :=
  s_X7_begins v (fun (v_1 : V) => (¬ (v_1 0 3) = 0 → (∃ n_4 : Nat, sl_X7_restore_16 post (fun (x1_5 : Int32) (v_6 : V) => s_X7_acted v_6 (v_6 1 (tn 3)) (fun (r_7 : Int32) (v_8 : V) => post r_7 v_8)) n_4 0 v_1)) ∧ ((v_1 0 3) = 0 → (post (-10000002) v_1)))

def sb_X7_undo_22 (post : Int32 → V → Prop)   (k0 : Int32 → V → Prop) (rec : Int32 → V → Prop) (x1 : Int32) (v : V) : Prop :=
  (664 ≤ x1 → k0 x1 v) ∧ (¬ 664 ≤ x1 → (vp_in ((664 * (v 0 5)) + x1) 2656 ∧ (vp_in x1 664 ∧ (∀ v_2 : V, v_2 = st v 1 (tn x1) (v 4 (tn ((664 * (v 0 5)) + x1))) → (rec (x1 + 1) v_2)))))
def sl_X7_undo_22 (post : Int32 → V → Prop)   (k0 : Int32 → V → Prop) : Nat → Int32 → V → Prop
  | 0 => fun _ _ => False
  | n + 1 => sb_X7_undo_22 post k0 (sl_X7_undo_22 post k0 n)
def s_X7_undo (v : V)   (post : Int32 → V → Prop) : Prop :=
  (¬ (v 0 5) = 0 → (∀ v_1 : V, v_1 = sc v 0 5 ((v 0 5) - 1) → (∃ n_4 : Nat, sl_X7_undo_22 post (fun (x1_5 : Int32) (v_6 : V) => post (v_6 0 5) v_6) n_4 0 v_1))) ∧ ((v 0 5) = 0 → (post (-10000002) v))

def s_X7_type (v : V)  (p1 : Int32) (post : Int32 → V → Prop) : Prop :=
  s_X7_in p1 32 126 (fun (r_1 : Int32) => (¬ r_1 = 0 → ((¬ (v 0 7) = 60 → (vp_in (v 0 7) 60 ∧ (∀ v_2 : V, v_2 = st v 5 (tn (v 0 7)) p1 → (∀ v_3 : V, v_3 = sc v_2 0 7 ((v_2 0 7) + 1) → (post (v_3 0 7) v_3))))) ∧ ((v 0 7) = 60 → (post (-10000003) v)))) ∧ (r_1 = 0 → (post (-10000001) v)))

def s_X7_clearText (v : V)   (post : Int32 → V → Prop) : Prop :=
  ∀ v_1 : V, v_1 = sc v 0 7 0 → (post (v 0 7) v_1)

def s_X7_here (v : V)   (post : Int32 → V → Prop) : Prop :=
  ((v 0 7) ≤ (v 0 8) → (post (-1) v)) ∧ (¬ (v 0 7) ≤ (v 0 8) → (vp_in (v 0 8) 60 ∧ (post (v 5 (tn (v 0 8))) v)))

def s_X7_isDigit (v : V)   (post : Int32 → V → Prop) : Prop :=
  s_X7_here v (fun (r_1 : Int32) (v_2 : V) => s_X7_in r_1 48 57 (fun (r_3 : Int32) => narrow .boolean (.int r_3) = .int r_3 ∧ post r_3 v_2))

def s_X7_takesSign (v : V)  (p1 : Int32) (post : V → Prop) : Prop :=
  ((v 0 11) = 0 → (∀ v_1 : V, v_1 = sc v 0 11 0 → (((v_1 0 11) = 0 → (∀ v_2 : V, v_2 = sc v_1 0 8 ((v_1 0 8) + 0) → post v_2)) ∧ (¬ (v_1 0 11) = 0 → (∀ v_3 : V, v_3 = sc v_1 0 8 ((v_1 0 8) + 1) → post v_3))))) ∧ (¬ (v 0 11) = 0 → (s_X7_here v (fun (r_5 : Int32) (v_6 : V) => (¬ r_5 = p1 → (∀ v_7 : V, v_7 = sc v_6 0 11 0 → (((v_7 0 11) = 0 → (∀ v_8 : V, v_8 = sc v_7 0 8 ((v_7 0 8) + 0) → post v_8)) ∧ (¬ (v_7 0 11) = 0 → (∀ v_9 : V, v_9 = sc v_7 0 8 ((v_7 0 8) + 1) → post v_9))))) ∧ (r_5 = p1 → (∀ v_11 : V, v_11 = sc v_6 0 11 1 → (((v_11 0 11) = 0 → (∀ v_12 : V, v_12 = sc v_11 0 8 ((v_11 0 8) + 0) → post v_12)) ∧ (¬ (v_11 0 11) = 0 → (∀ v_13 : V, v_13 = sc v_11 0 8 ((v_11 0 8) + 1) → post v_13))))))))

def sb_X7_number_27 (post : Int32 → V → Prop)   (k0 : Int32 → Int32 → V → Prop) (rec : Int32 → Int32 → V → Prop) (x1 : Int32) (x2 : Int32) (v : V) : Prop :=
  (4 ≤ x2 → k0 x1 x2 v) ∧ (¬ 4 ≤ x2 → (((v 0 11) = 0 → k0 x1 x2 v) ∧ (¬ (v 0 11) = 0 → (s_X7_isDigit v (fun (r_2 : Int32) (v_3 : V) => (r_2 = 0 → k0 x1 x2 v_3) ∧ (¬ r_2 = 0 → (s_X7_here v_3 (fun (r_4 : Int32) (v_5 : V) => ∀ v_6 : V, v_6 = sc v_5 0 8 ((v_5 0 8) + 1) → (rec (((10 * x1) + r_4) - 48) (x2 + 1) v_6)))))))))
def sl_X7_number_27 (post : Int32 → V → Prop)   (k0 : Int32 → Int32 → V → Prop) : Nat → Int32 → Int32 → V → Prop
  | 0 => fun _ _ _ => False
  | n + 1 => sb_X7_number_27 post k0 (sl_X7_number_27 post k0 n)
def s_X7_number (v : V)   (post : Int32 → V → Prop) : Prop :=
  ((v 0 11) = 0 → (∀ v_1 : V, v_1 = sc v 0 11 0 → (∃ n_10 : Nat, sl_X7_number_27 post (fun (x1_11 : Int32) (x2_12 : Int32) (v_13 : V) => post x1_11 v_13) n_10 0 0 v_1))) ∧ (¬ (v 0 11) = 0 → (s_X7_isDigit v (fun (r_14 : Int32) (v_15 : V) => (r_14 = 0 → (∀ v_16 : V, v_16 = sc v_15 0 11 0 → (∃ n_17 : Nat, sl_X7_number_27 post (fun (x1_18 : Int32) (x2_19 : Int32) (v_20 : V) => post x1_18 v_20) n_17 0 0 v_16))) ∧ (¬ r_14 = 0 → (∀ v_21 : V, v_21 = sc v_15 0 11 1 → (∃ n_22 : Nat, sl_X7_number_27 post (fun (x1_23 : Int32) (x2_24 : Int32) (v_25 : V) => post x1_23 v_25) n_22 0 0 v_21))))))

def sb_X7_word_4 (post : Int32 → V → Prop)   (k0 : Int32 → Int32 → V → Prop) (rec : Int32 → Int32 → V → Prop) (x1 : Int32) (x2 : Int32) (v : V) : Prop :=
  s_X7_here v (fun (r_1 : Int32) (v_2 : V) => s_X7_in r_1 97 122 (fun (r_3 : Int32) => (r_3 = 0 → k0 x1 x2 v_2) ∧ (¬ r_3 = 0 → (((x2 + 1) ≤ 5 → (s_X7_here v_2 (fun (r_4 : Int32) (v_5 : V) => ∀ v_6 : V, v_6 = sc v_5 0 8 ((v_5 0 8) + 1) → (rec ((((32 * x1) + r_4) - 97) + 1) (x2 + 1) v_6)))) ∧ (¬ (x2 + 1) ≤ 5 → (∀ v_7 : V, v_7 = sc v_2 0 8 ((v_2 0 8) + 1) → (rec (-1) (x2 + 1) v_7)))))))
def sl_X7_word_4 (post : Int32 → V → Prop)   (k0 : Int32 → Int32 → V → Prop) : Nat → Int32 → Int32 → V → Prop
  | 0 => fun _ _ _ => False
  | n + 1 => sb_X7_word_4 post k0 (sl_X7_word_4 post k0 n)
def s_X7_word (v : V)   (post : Int32 → V → Prop) : Prop :=
  ∃ n_11 : Nat, sl_X7_word_4 post (fun (x1_12 : Int32) (x2_13 : Int32) (v_14 : V) => post x1_12 v_14) n_11 0 0 v

def s_X7_code   (p0 : Int32) (p1 : Int32) (p2 : Int32) (p3 : Int32) (post : Int32 → Prop) : Prop :=
  post (((((32768 * (p0 - 96)) + (1024 * (p1 - 96))) + (32 * (p2 - 96))) + p3) - 96)

def s_X7_sort   (p0 : Int32) (post : Int32 → Prop) : Prop :=
  s_X7_code 108 101 110 100 (fun (r_1 : Int32) => (p0 = r_1 → (s_X7_code 108 101 110 100 (fun (r_2 : Int32) => (¬ p0 = r_2 → post 2) ∧ (p0 = r_2 → post 1)))) ∧ (¬ p0 = r_1 → (s_X7_code 98 97 99 107 (fun (r_5 : Int32) => (¬ p0 = r_5 → (s_X7_code 107 101 101 112 (fun (r_6 : Int32) => (p0 = r_6 → (s_X7_code 107 101 101 112 (fun (r_7 : Int32) => (¬ p0 = r_7 → post 4) ∧ (p0 = r_7 → post 3)))) ∧ (¬ p0 = r_6 → (s_X7_code 115 101 108 108 (fun (r_10 : Int32) => (¬ p0 = r_10 → (s_X7_code 103 114 97 100 (fun (r_11 : Int32) => (¬ p0 = ((32 * r_11) + 5) → (s_X7_code 114 97 116 101 (fun (r_12 : Int32) => (¬ p0 = r_12 → (s_X7_code 119 97 105 116 (fun (r_13 : Int32) => (¬ p0 = r_13 → post 0) ∧ (p0 = r_13 → post 7)))) ∧ (p0 = r_12 → post 6)))) ∧ (p0 = ((32 * r_11) + 5) → post 5)))) ∧ (p0 = r_10 → (s_X7_code 107 101 101 112 (fun (r_20 : Int32) => (¬ p0 = r_20 → post 4) ∧ (p0 = r_20 → post 3)))))))))) ∧ (p0 = r_5 → (s_X7_code 108 101 110 100 (fun (r_27 : Int32) => (¬ p0 = r_27 → post 2) ∧ (p0 = r_27 → post 1))))))))

def s_X7_wants   (p0 : Int32) (post : Int32 → Prop) : Prop :=
  (p0 = 1 → post 4) ∧ (¬ p0 = 1 → ((¬ p0 = 6 → ((¬ p0 = 5 → ((¬ p0 = 4 → post 1) ∧ (p0 = 4 → post 2))) ∧ (p0 = 5 → post 3))) ∧ (p0 = 6 → post 4)))

def s_X7_called (v : V)  (p1 : Int32) (post : Int32 → V → Prop) : Prop :=
  (p1 = 1 → ((20 ≤ (v 6 (tn 3)) → (s_X7_lends v (v 6 (tn 0)) (v 6 (tn 1)) (v 6 (tn 2)) 0 (fun (r_1 : Int32) (v_2 : V) => post r_1 v_2))) ∧ (¬ 20 ≤ (v 6 (tn 3)) → (s_X7_lends v (v 6 (tn 0)) (v 6 (tn 1)) (v 6 (tn 2)) (1 <<< ((v 6 (tn 3)) &&& 31)) (fun (r_3 : Int32) (v_4 : V) => post r_3 v_4))))) ∧ ((p1 = 2 → (s_X7_gives v (v 6 (tn 0)) (fun (r_7 : Int32) (v_8 : V) => post r_7 v_8))) ∧ ((p1 = 3 → (s_X7_keeps v (v 6 (tn 0)) (fun (r_10 : Int32) (v_11 : V) => post r_10 v_11))) ∧ ((p1 = 4 → (s_X7_sells v (v 6 (tn 0)) (v 6 (tn 1)) (fun (r_13 : Int32) (v_14 : V) => post r_13 v_14))) ∧ ((p1 = 5 → (s_X7_grades1 v (v 6 (tn 0)) (v 6 (tn 1)) (v 6 (tn 2)) (fun (r_16 : Int32) (v_17 : V) => post r_16 v_17))) ∧ ((p1 = 6 → (s_X7_rates v (v 6 (tn 0)) (v 6 (tn 1)) (v 6 (tn 2)) (v 6 (tn 3)) (fun (r_19 : Int32) (v_20 : V) => post r_19 v_20))) ∧ ((p1.toInt < 1 ∨ 6 < p1.toInt → (s_X7_goes v (v 6 (tn 0)) (fun (r_22 : Int32) (v_23 : V) => post r_22 v_23)))))))))

def sb_X7_does_49 (post : Int32 → V → Prop)  (f1 : Int32) (f2 : Int32) (k0 : Int32 → V → Prop) (rec : Int32 → V → Prop) (x3 : Int32) (v : V) : Prop :=
  s_X7_wants f2 (fun (r_7 : Int32) => (r_7 ≤ x3 → k0 x3 v) ∧ (¬ r_7 ≤ x3 → (s_X7_takesSign v 32 (fun (v_8 : V) => s_X7_number v_8 (fun (r_9 : Int32) (v_10 : V) => vp_in x3 4 ∧ (∀ v_11 : V, v_11 = st v_10 6 (tn x3) r_9 → (rec (x3 + 1) v_11)))))))
def sl_X7_does_49 (post : Int32 → V → Prop)  (f1 : Int32) (f2 : Int32) (k0 : Int32 → V → Prop) : Nat → Int32 → V → Prop
  | 0 => fun _ _ => False
  | n + 1 => sb_X7_does_49 post f1 f2 k0 (sl_X7_does_49 post f1 f2 k0 n)
def sb_X7_does_10 (post : Int32 → V → Prop)   (k0 : V → Prop) (rec : V → Prop)  (v : V) : Prop :=
  ((v 0 7) ≤ (v 0 8) → k0 v) ∧ (¬ (v 0 7) ≤ (v 0 8) → (s_X7_word v (fun (r_3 : Int32) (v_4 : V) => s_X7_sort r_3 (fun (r_5 : Int32) => (r_5 ≤ 0 → (∀ v_6 : V, v_6 = sc v_4 0 11 0 → (∃ n_14 : Nat, sl_X7_does_49 post (v 0 8) r_5 (fun (x3_15 : Int32) (v_16 : V) => s_X7_takesSign v_16 59 (fun (v_17 : V) => ((v_17 0 11) = 0 → (∀ v_18 : V, v_18 = sc v_17 0 10 0 → (((v_18 0 11) = 0 → (post (v 0 8) v_18)) ∧ (¬ (v_18 0 11) = 0 → (((-10000001) < (v_18 0 10) → (∀ v_19 : V, v_19 = sc v_18 0 9 ((v_18 0 9) + 1) → rec v_19)) ∧ (¬ (-10000001) < (v_18 0 10) → (post (v 0 8) v_18))))))) ∧ (¬ (v_17 0 11) = 0 → (s_X7_called v_17 r_5 (fun (r_22 : Int32) (v_23 : V) => ∀ v_24 : V, v_24 = sc v_23 0 10 r_22 → (((v_24 0 11) = 0 → (post (v 0 8) v_24)) ∧ (¬ (v_24 0 11) = 0 → (((-10000001) < (v_24 0 10) → (∀ v_25 : V, v_25 = sc v_24 0 9 ((v_24 0 9) + 1) → rec v_25)) ∧ (¬ (-10000001) < (v_24 0 10) → (post (v 0 8) v_24)))))))))) n_14 0 v_6))) ∧ (¬ r_5 ≤ 0 → (∀ v_29 : V, v_29 = sc v_4 0 11 1 → (∃ n_30 : Nat, sl_X7_does_49 post (v 0 8) r_5 (fun (x3_31 : Int32) (v_32 : V) => s_X7_takesSign v_32 59 (fun (v_33 : V) => ((v_33 0 11) = 0 → (∀ v_34 : V, v_34 = sc v_33 0 10 0 → (((v_34 0 11) = 0 → (post (v 0 8) v_34)) ∧ (¬ (v_34 0 11) = 0 → (((-10000001) < (v_34 0 10) → (∀ v_35 : V, v_35 = sc v_34 0 9 ((v_34 0 9) + 1) → rec v_35)) ∧ (¬ (-10000001) < (v_34 0 10) → (post (v 0 8) v_34))))))) ∧ (¬ (v_33 0 11) = 0 → (s_X7_called v_33 r_5 (fun (r_38 : Int32) (v_39 : V) => ∀ v_40 : V, v_40 = sc v_39 0 10 r_38 → (((v_40 0 11) = 0 → (post (v 0 8) v_40)) ∧ (¬ (v_40 0 11) = 0 → (((-10000001) < (v_40 0 10) → (∀ v_41 : V, v_41 = sc v_40 0 9 ((v_40 0 9) + 1) → rec v_41)) ∧ (¬ (-10000001) < (v_40 0 10) → (post (v 0 8) v_40)))))))))) n_30 0 v_29)))))))
def sl_X7_does_10 (post : Int32 → V → Prop)   (k0 : V → Prop) : Nat → V → Prop
  | 0 => fun _ => False
  | n + 1 => sb_X7_does_10 post k0 (sl_X7_does_10 post k0 n)
def s_X7_does (v : V)   (post : Int32 → V → Prop) : Prop :=
  ∀ v_1 : V, v_1 = sc v 0 8 0 → (∀ v_2 : V, v_2 = sc v_1 0 9 0 → (∃ n_48 : Nat, sl_X7_does_10 post (fun (v_49 : V) => post (-1) v_49) n_48 v_2))

def s_X7_fault (v : V)  (p1 : Int32) (post : Int32 → V → Prop) : Prop :=
  s_X7_in p1 0 2 (fun (r_1 : Int32) => (¬ r_1 = 0 → (s_X7_begins v (fun (v_2 : V) => s_X7_does v_2 (fun (r_3 : Int32) (v_4 : V) => s_X7_returns v_4 (fun (v_5 : V) => (r_3 < 0 → (post (-10000004) v_5)) ∧ (¬ r_3 < 0 → ((p1 < 2 → ((¬ p1 = 0 → ((¬ p1 = 1 → (post (v_5 0 10) v_5)) ∧ (p1 = 1 → (((v_5 0 11) = 0 → post 1 v_5) ∧ (¬ (v_5 0 11) = 0 → post 2 v_5))))) ∧ (p1 = 0 → post r_3 v_5))) ∧ (¬ p1 < 2 → (((v_5 0 11) = 0 → (post (-10000004) v_5)) ∧ (¬ (v_5 0 11) = 0 → ((¬ p1 = 0 → ((¬ p1 = 1 → (post (v_5 0 10) v_5)) ∧ (p1 = 1 → (((v_5 0 11) = 0 → post 1 v_5) ∧ (¬ (v_5 0 11) = 0 → post 2 v_5))))) ∧ (p1 = 0 → post r_3 v_5)))))))))))) ∧ (r_1 = 0 → (post (-10000001) v)))

def s_X7_play (v : V)   (post : Int32 → V → Prop) : Prop :=
  s_X7_begins v (fun (v_1 : V) => s_X7_does v_1 (fun (r_2 : Int32) (v_3 : V) => (0 ≤ r_2 → (s_X7_acted v_3 (-10000002) (fun (r_4 : Int32) (v_5 : V) => post r_4 v_5))) ∧ (¬ 0 ≤ r_2 → (s_X7_acted v_3 (v_3 0 9) (fun (r_6 : Int32) (v_7 : V) => post r_6 v_7)))))
