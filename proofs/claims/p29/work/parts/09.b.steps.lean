theorem xs_X3_add_3 {post : Int32 → V → Prop}  {f1 : Int32} {f2 : Int32} {f3 : Int32} {f4 : Int32} {k0 : Int32 → V → Prop} {x5 y5 : Int32} {v v' : V} (hs : ∀ rec : Int32 → V → Prop, sb_X3_add_3 post f1 f2 f3 f4 k0 rec x5 v = rec y5 v') : (∃ n, sl_X3_add_3 post f1 f2 f3 f4 k0 n x5 v) = (∃ n, sl_X3_add_3 post f1 f2 f3 f4 k0 n y5 v') :=
  ex_step (F := fun n (a : Int32 × V) => sl_X3_add_3 post f1 f2 f3 f4 k0 n a.1 a.2) (a := (x5, v)) (a' := (y5, v')) (fun _ h => h) (fun n => hs (sl_X3_add_3 post f1 f2 f3 f4 k0 n))
theorem xo_X3_add_3 {post : Int32 → V → Prop}  {f1 : Int32} {f2 : Int32} {f3 : Int32} {f4 : Int32} {k0 : Int32 → V → Prop} {x5 : Int32} {v : V} {P : Prop} (hs : ∀ rec : Int32 → V → Prop, sb_X3_add_3 post f1 f2 f3 f4 k0 rec x5 v = P) : (∃ n, sl_X3_add_3 post f1 f2 f3 f4 k0 n x5 v) = P :=
  ex_out (F := fun n (a : Int32 × V) => sl_X3_add_3 post f1 f2 f3 f4 k0 n a.1 a.2) (a := (x5, v)) (fun _ h => h) (fun n => hs (sl_X3_add_3 post f1 f2 f3 f4 k0 n))

theorem xs_X3_change_3 {post : V → Prop}  {f1 : Int32} {f2 : Int32} {f3 : Int32} {f4 : Int32} {k0 : Int32 → V → Prop} {x5 y5 : Int32} {v v' : V} (hs : ∀ rec : Int32 → V → Prop, sb_X3_change_3 post f1 f2 f3 f4 k0 rec x5 v = rec y5 v') : (∃ n, sl_X3_change_3 post f1 f2 f3 f4 k0 n x5 v) = (∃ n, sl_X3_change_3 post f1 f2 f3 f4 k0 n y5 v') :=
  ex_step (F := fun n (a : Int32 × V) => sl_X3_change_3 post f1 f2 f3 f4 k0 n a.1 a.2) (a := (x5, v)) (a' := (y5, v')) (fun _ h => h) (fun n => hs (sl_X3_change_3 post f1 f2 f3 f4 k0 n))
theorem xo_X3_change_3 {post : V → Prop}  {f1 : Int32} {f2 : Int32} {f3 : Int32} {f4 : Int32} {k0 : Int32 → V → Prop} {x5 : Int32} {v : V} {P : Prop} (hs : ∀ rec : Int32 → V → Prop, sb_X3_change_3 post f1 f2 f3 f4 k0 rec x5 v = P) : (∃ n, sl_X3_change_3 post f1 f2 f3 f4 k0 n x5 v) = P :=
  ex_out (F := fun n (a : Int32 × V) => sl_X3_change_3 post f1 f2 f3 f4 k0 n a.1 a.2) (a := (x5, v)) (fun _ h => h) (fun n => hs (sl_X3_change_3 post f1 f2 f3 f4 k0 n))

theorem xs_X3_ownRate_3 {post : Int32 → V → Prop}  {f1 : Int32} {f2 : Int32} {f3 : Int32} {k0 : Int32 → V → Prop} {x4 y4 : Int32} {v v' : V} (hs : ∀ rec : Int32 → V → Prop, sb_X3_ownRate_3 post f1 f2 f3 k0 rec x4 v = rec y4 v') : (∃ n, sl_X3_ownRate_3 post f1 f2 f3 k0 n x4 v) = (∃ n, sl_X3_ownRate_3 post f1 f2 f3 k0 n y4 v') :=
  ex_step (F := fun n (a : Int32 × V) => sl_X3_ownRate_3 post f1 f2 f3 k0 n a.1 a.2) (a := (x4, v)) (a' := (y4, v')) (fun _ h => h) (fun n => hs (sl_X3_ownRate_3 post f1 f2 f3 k0 n))
theorem xo_X3_ownRate_3 {post : Int32 → V → Prop}  {f1 : Int32} {f2 : Int32} {f3 : Int32} {k0 : Int32 → V → Prop} {x4 : Int32} {v : V} {P : Prop} (hs : ∀ rec : Int32 → V → Prop, sb_X3_ownRate_3 post f1 f2 f3 k0 rec x4 v = P) : (∃ n, sl_X3_ownRate_3 post f1 f2 f3 k0 n x4 v) = P :=
  ex_out (F := fun n (a : Int32 × V) => sl_X3_ownRate_3 post f1 f2 f3 k0 n a.1 a.2) (a := (x4, v)) (fun _ h => h) (fun n => hs (sl_X3_ownRate_3 post f1 f2 f3 k0 n))

theorem xs_X3_rateFor_6 {post : Int32 → V → Prop}  {f1 : Int32} {f2 : Int32} {f3 : Int32} {k0 : Int32 → Int32 → V → Prop} {x4 y4 : Int32} {x5 y5 : Int32} {v v' : V} (hs : ∀ rec : Int32 → Int32 → V → Prop, sb_X3_rateFor_6 post f1 f2 f3 k0 rec x4 x5 v = rec y4 y5 v') : (∃ n, sl_X3_rateFor_6 post f1 f2 f3 k0 n x4 x5 v) = (∃ n, sl_X3_rateFor_6 post f1 f2 f3 k0 n y4 y5 v') :=
  ex_step (F := fun n (a : Int32 × Int32 × V) => sl_X3_rateFor_6 post f1 f2 f3 k0 n a.1 a.2.1 a.2.2) (a := (x4, x5, v)) (a' := (y4, y5, v')) (fun _ h => h) (fun n => hs (sl_X3_rateFor_6 post f1 f2 f3 k0 n))
theorem xo_X3_rateFor_6 {post : Int32 → V → Prop}  {f1 : Int32} {f2 : Int32} {f3 : Int32} {k0 : Int32 → Int32 → V → Prop} {x4 : Int32} {x5 : Int32} {v : V} {P : Prop} (hs : ∀ rec : Int32 → Int32 → V → Prop, sb_X3_rateFor_6 post f1 f2 f3 k0 rec x4 x5 v = P) : (∃ n, sl_X3_rateFor_6 post f1 f2 f3 k0 n x4 x5 v) = P :=
  ex_out (F := fun n (a : Int32 × Int32 × V) => sl_X3_rateFor_6 post f1 f2 f3 k0 n a.1 a.2.1 a.2.2) (a := (x4, x5, v)) (fun _ h => h) (fun n => hs (sl_X3_rateFor_6 post f1 f2 f3 k0 n))

theorem xs_X1_canLend_2 {post : Int32 → V → Prop}  {f1 : Int32} {f2 : Int32} {k0 : Int32 → V → Prop} {x3 y3 : Int32} {v v' : V} (hs : ∀ rec : Int32 → V → Prop, sb_X1_canLend_2 post f1 f2 k0 rec x3 v = rec y3 v') : (∃ n, sl_X1_canLend_2 post f1 f2 k0 n x3 v) = (∃ n, sl_X1_canLend_2 post f1 f2 k0 n y3 v') :=
  ex_step (F := fun n (a : Int32 × V) => sl_X1_canLend_2 post f1 f2 k0 n a.1 a.2) (a := (x3, v)) (a' := (y3, v')) (fun _ h => h) (fun n => hs (sl_X1_canLend_2 post f1 f2 k0 n))
theorem xo_X1_canLend_2 {post : Int32 → V → Prop}  {f1 : Int32} {f2 : Int32} {k0 : Int32 → V → Prop} {x3 : Int32} {v : V} {P : Prop} (hs : ∀ rec : Int32 → V → Prop, sb_X1_canLend_2 post f1 f2 k0 rec x3 v = P) : (∃ n, sl_X1_canLend_2 post f1 f2 k0 n x3 v) = P :=
  ex_out (F := fun n (a : Int32 × V) => sl_X1_canLend_2 post f1 f2 k0 n a.1 a.2) (a := (x3, v)) (fun _ h => h) (fun n => hs (sl_X1_canLend_2 post f1 f2 k0 n))

theorem xs_X1_lendStones_97 {post : Int32 → V → Prop}  {f2 : Int32} {f4 : Int32} {f5 : Int32} {k0 : Int32 → V → Prop} {x6 y6 : Int32} {v v' : V} (hs : ∀ rec : Int32 → V → Prop, sb_X1_lendStones_97 post f2 f4 f5 k0 rec x6 v = rec y6 v') : (∃ n, sl_X1_lendStones_97 post f2 f4 f5 k0 n x6 v) = (∃ n, sl_X1_lendStones_97 post f2 f4 f5 k0 n y6 v') :=
  ex_step (F := fun n (a : Int32 × V) => sl_X1_lendStones_97 post f2 f4 f5 k0 n a.1 a.2) (a := (x6, v)) (a' := (y6, v')) (fun _ h => h) (fun n => hs (sl_X1_lendStones_97 post f2 f4 f5 k0 n))
theorem xo_X1_lendStones_97 {post : Int32 → V → Prop}  {f2 : Int32} {f4 : Int32} {f5 : Int32} {k0 : Int32 → V → Prop} {x6 : Int32} {v : V} {P : Prop} (hs : ∀ rec : Int32 → V → Prop, sb_X1_lendStones_97 post f2 f4 f5 k0 rec x6 v = P) : (∃ n, sl_X1_lendStones_97 post f2 f4 f5 k0 n x6 v) = P :=
  ex_out (F := fun n (a : Int32 × V) => sl_X1_lendStones_97 post f2 f4 f5 k0 n a.1 a.2) (a := (x6, v)) (fun _ h => h) (fun n => hs (sl_X1_lendStones_97 post f2 f4 f5 k0 n))

theorem xs_X5_setWhere_12_5 {post : Int32 → V → Prop}  {f2 : Int32} {k0 : Int32 → Int32 → V → Prop} {x3 y3 : Int32} {x4 y4 : Int32} {v v' : V} (hs : ∀ rec : Int32 → Int32 → V → Prop, sb_X5_setWhere_12_5 post f2 k0 rec x3 x4 v = rec y3 y4 v') : (∃ n, sl_X5_setWhere_12_5 post f2 k0 n x3 x4 v) = (∃ n, sl_X5_setWhere_12_5 post f2 k0 n y3 y4 v') :=
  ex_step (F := fun n (a : Int32 × Int32 × V) => sl_X5_setWhere_12_5 post f2 k0 n a.1 a.2.1 a.2.2) (a := (x3, x4, v)) (a' := (y3, y4, v')) (fun _ h => h) (fun n => hs (sl_X5_setWhere_12_5 post f2 k0 n))
theorem xo_X5_setWhere_12_5 {post : Int32 → V → Prop}  {f2 : Int32} {k0 : Int32 → Int32 → V → Prop} {x3 : Int32} {x4 : Int32} {v : V} {P : Prop} (hs : ∀ rec : Int32 → Int32 → V → Prop, sb_X5_setWhere_12_5 post f2 k0 rec x3 x4 v = P) : (∃ n, sl_X5_setWhere_12_5 post f2 k0 n x3 x4 v) = P :=
  ex_out (F := fun n (a : Int32 × Int32 × V) => sl_X5_setWhere_12_5 post f2 k0 n a.1 a.2.1 a.2.2) (a := (x3, x4, v)) (fun _ h => h) (fun n => hs (sl_X5_setWhere_12_5 post f2 k0 n))

theorem xs_X1_keepLateOnes_41 {post : Int32 → V → Prop}  {f2 : Int32} {k0 : Int32 → Int32 → V → Prop} {x1 y1 : Int32} {x3 y3 : Int32} {v v' : V} (hs : ∀ rec : Int32 → Int32 → V → Prop, sb_X1_keepLateOnes_41 post f2 k0 rec x1 x3 v = rec y1 y3 v') : (∃ n, sl_X1_keepLateOnes_41 post f2 k0 n x1 x3 v) = (∃ n, sl_X1_keepLateOnes_41 post f2 k0 n y1 y3 v') :=
  ex_step (F := fun n (a : Int32 × Int32 × V) => sl_X1_keepLateOnes_41 post f2 k0 n a.1 a.2.1 a.2.2) (a := (x1, x3, v)) (a' := (y1, y3, v')) (fun _ h => h) (fun n => hs (sl_X1_keepLateOnes_41 post f2 k0 n))
theorem xo_X1_keepLateOnes_41 {post : Int32 → V → Prop}  {f2 : Int32} {k0 : Int32 → Int32 → V → Prop} {x1 : Int32} {x3 : Int32} {v : V} {P : Prop} (hs : ∀ rec : Int32 → Int32 → V → Prop, sb_X1_keepLateOnes_41 post f2 k0 rec x1 x3 v = P) : (∃ n, sl_X1_keepLateOnes_41 post f2 k0 n x1 x3 v) = P :=
  ex_out (F := fun n (a : Int32 × Int32 × V) => sl_X1_keepLateOnes_41 post f2 k0 n a.1 a.2.1 a.2.2) (a := (x1, x3, v)) (fun _ h => h) (fun n => hs (sl_X1_keepLateOnes_41 post f2 k0 n))

theorem xs_X1_keepLateOnes_4 {post : Int32 → V → Prop}   {k0 : Int32 → Int32 → V → Prop} {x1 y1 : Int32} {x2 y2 : Int32} {v v' : V} (hs : ∀ rec : Int32 → Int32 → V → Prop, sb_X1_keepLateOnes_4 post k0 rec x1 x2 v = rec y1 y2 v') : (∃ n, sl_X1_keepLateOnes_4 post k0 n x1 x2 v) = (∃ n, sl_X1_keepLateOnes_4 post k0 n y1 y2 v') :=
  ex_step (F := fun n (a : Int32 × Int32 × V) => sl_X1_keepLateOnes_4 post k0 n a.1 a.2.1 a.2.2) (a := (x1, x2, v)) (a' := (y1, y2, v')) (fun _ h => h) (fun n => hs (sl_X1_keepLateOnes_4 post k0 n))
theorem xo_X1_keepLateOnes_4 {post : Int32 → V → Prop}   {k0 : Int32 → Int32 → V → Prop} {x1 : Int32} {x2 : Int32} {v : V} {P : Prop} (hs : ∀ rec : Int32 → Int32 → V → Prop, sb_X1_keepLateOnes_4 post k0 rec x1 x2 v = P) : (∃ n, sl_X1_keepLateOnes_4 post k0 n x1 x2 v) = P :=
  ex_out (F := fun n (a : Int32 × Int32 × V) => sl_X1_keepLateOnes_4 post k0 n a.1 a.2.1 a.2.2) (a := (x1, x2, v)) (fun _ h => h) (fun n => hs (sl_X1_keepLateOnes_4 post k0 n))

theorem xs_X1_passDays_33 {post : Int32 → V → Prop}  {f1 : Int32} {k0 : Int32 → Int32 → V → Prop} {x2 y2 : Int32} {x3 y3 : Int32} {v v' : V} (hs : ∀ rec : Int32 → Int32 → V → Prop, sb_X1_passDays_33 post f1 k0 rec x2 x3 v = rec y2 y3 v') : (∃ n, sl_X1_passDays_33 post f1 k0 n x2 x3 v) = (∃ n, sl_X1_passDays_33 post f1 k0 n y2 y3 v') :=
  ex_step (F := fun n (a : Int32 × Int32 × V) => sl_X1_passDays_33 post f1 k0 n a.1 a.2.1 a.2.2) (a := (x2, x3, v)) (a' := (y2, y3, v')) (fun _ h => h) (fun n => hs (sl_X1_passDays_33 post f1 k0 n))
theorem xo_X1_passDays_33 {post : Int32 → V → Prop}  {f1 : Int32} {k0 : Int32 → Int32 → V → Prop} {x2 : Int32} {x3 : Int32} {v : V} {P : Prop} (hs : ∀ rec : Int32 → Int32 → V → Prop, sb_X1_passDays_33 post f1 k0 rec x2 x3 v = P) : (∃ n, sl_X1_passDays_33 post f1 k0 n x2 x3 v) = P :=
  ex_out (F := fun n (a : Int32 × Int32 × V) => sl_X1_passDays_33 post f1 k0 n a.1 a.2.1 a.2.2) (a := (x2, x3, v)) (fun _ h => h) (fun n => hs (sl_X1_passDays_33 post f1 k0 n))

theorem xs_X1_worthOf_4 {post : Int32 → V → Prop}  {f1 : Int32} {k0 : Int32 → Int32 → V → Prop} {x2 y2 : Int32} {x3 y3 : Int32} {v v' : V} (hs : ∀ rec : Int32 → Int32 → V → Prop, sb_X1_worthOf_4 post f1 k0 rec x2 x3 v = rec y2 y3 v') : (∃ n, sl_X1_worthOf_4 post f1 k0 n x2 x3 v) = (∃ n, sl_X1_worthOf_4 post f1 k0 n y2 y3 v') :=
  ex_step (F := fun n (a : Int32 × Int32 × V) => sl_X1_worthOf_4 post f1 k0 n a.1 a.2.1 a.2.2) (a := (x2, x3, v)) (a' := (y2, y3, v')) (fun _ h => h) (fun n => hs (sl_X1_worthOf_4 post f1 k0 n))
theorem xo_X1_worthOf_4 {post : Int32 → V → Prop}  {f1 : Int32} {k0 : Int32 → Int32 → V → Prop} {x2 : Int32} {x3 : Int32} {v : V} {P : Prop} (hs : ∀ rec : Int32 → Int32 → V → Prop, sb_X1_worthOf_4 post f1 k0 rec x2 x3 v = P) : (∃ n, sl_X1_worthOf_4 post f1 k0 n x2 x3 v) = P :=
  ex_out (F := fun n (a : Int32 × Int32 × V) => sl_X1_worthOf_4 post f1 k0 n a.1 a.2.1 a.2.2) (a := (x2, x3, v)) (fun _ h => h) (fun n => hs (sl_X1_worthOf_4 post f1 k0 n))

theorem xs_X5_setWhere_10_5 {post : Int32 → V → Prop}  {f2 : Int32} {k0 : Int32 → Int32 → V → Prop} {x3 y3 : Int32} {x4 y4 : Int32} {v v' : V} (hs : ∀ rec : Int32 → Int32 → V → Prop, sb_X5_setWhere_10_5 post f2 k0 rec x3 x4 v = rec y3 y4 v') : (∃ n, sl_X5_setWhere_10_5 post f2 k0 n x3 x4 v) = (∃ n, sl_X5_setWhere_10_5 post f2 k0 n y3 y4 v') :=
  ex_step (F := fun n (a : Int32 × Int32 × V) => sl_X5_setWhere_10_5 post f2 k0 n a.1 a.2.1 a.2.2) (a := (x3, x4, v)) (a' := (y3, y4, v')) (fun _ h => h) (fun n => hs (sl_X5_setWhere_10_5 post f2 k0 n))
theorem xo_X5_setWhere_10_5 {post : Int32 → V → Prop}  {f2 : Int32} {k0 : Int32 → Int32 → V → Prop} {x3 : Int32} {x4 : Int32} {v : V} {P : Prop} (hs : ∀ rec : Int32 → Int32 → V → Prop, sb_X5_setWhere_10_5 post f2 k0 rec x3 x4 v = P) : (∃ n, sl_X5_setWhere_10_5 post f2 k0 n x3 x4 v) = P :=
  ex_out (F := fun n (a : Int32 × Int32 × V) => sl_X5_setWhere_10_5 post f2 k0 n a.1 a.2.1 a.2.2) (a := (x3, x4, v)) (fun _ h => h) (fun n => hs (sl_X5_setWhere_10_5 post f2 k0 n))

theorem xs_X5_setWhere_11_5 {post : Int32 → V → Prop}  {f2 : Int32} {k0 : Int32 → Int32 → V → Prop} {x3 y3 : Int32} {x4 y4 : Int32} {v v' : V} (hs : ∀ rec : Int32 → Int32 → V → Prop, sb_X5_setWhere_11_5 post f2 k0 rec x3 x4 v = rec y3 y4 v') : (∃ n, sl_X5_setWhere_11_5 post f2 k0 n x3 x4 v) = (∃ n, sl_X5_setWhere_11_5 post f2 k0 n y3 y4 v') :=
  ex_step (F := fun n (a : Int32 × Int32 × V) => sl_X5_setWhere_11_5 post f2 k0 n a.1 a.2.1 a.2.2) (a := (x3, x4, v)) (a' := (y3, y4, v')) (fun _ h => h) (fun n => hs (sl_X5_setWhere_11_5 post f2 k0 n))
theorem xo_X5_setWhere_11_5 {post : Int32 → V → Prop}  {f2 : Int32} {k0 : Int32 → Int32 → V → Prop} {x3 : Int32} {x4 : Int32} {v : V} {P : Prop} (hs : ∀ rec : Int32 → Int32 → V → Prop, sb_X5_setWhere_11_5 post f2 k0 rec x3 x4 v = P) : (∃ n, sl_X5_setWhere_11_5 post f2 k0 n x3 x4 v) = P :=
  ex_out (F := fun n (a : Int32 × Int32 × V) => sl_X5_setWhere_11_5 post f2 k0 n a.1 a.2.1 a.2.2) (a := (x3, x4, v)) (fun _ h => h) (fun n => hs (sl_X5_setWhere_11_5 post f2 k0 n))

theorem xs_X5_sumAsked_10_5 {post : Int32 → V → Prop}  {f2 : Int32} {k0 : Int32 → Int32 → V → Prop} {x3 y3 : Int32} {x4 y4 : Int32} {v v' : V} (hs : ∀ rec : Int32 → Int32 → V → Prop, sb_X5_sumAsked_10_5 post f2 k0 rec x3 x4 v = rec y3 y4 v') : (∃ n, sl_X5_sumAsked_10_5 post f2 k0 n x3 x4 v) = (∃ n, sl_X5_sumAsked_10_5 post f2 k0 n y3 y4 v') :=
  ex_step (F := fun n (a : Int32 × Int32 × V) => sl_X5_sumAsked_10_5 post f2 k0 n a.1 a.2.1 a.2.2) (a := (x3, x4, v)) (a' := (y3, y4, v')) (fun _ h => h) (fun n => hs (sl_X5_sumAsked_10_5 post f2 k0 n))
theorem xo_X5_sumAsked_10_5 {post : Int32 → V → Prop}  {f2 : Int32} {k0 : Int32 → Int32 → V → Prop} {x3 : Int32} {x4 : Int32} {v : V} {P : Prop} (hs : ∀ rec : Int32 → Int32 → V → Prop, sb_X5_sumAsked_10_5 post f2 k0 rec x3 x4 v = P) : (∃ n, sl_X5_sumAsked_10_5 post f2 k0 n x3 x4 v) = P :=
  ex_out (F := fun n (a : Int32 × Int32 × V) => sl_X5_sumAsked_10_5 post f2 k0 n a.1 a.2.1 a.2.2) (a := (x3, x4, v)) (fun _ h => h) (fun n => hs (sl_X5_sumAsked_10_5 post f2 k0 n))

theorem xs_X5_sumAsked_11_5 {post : Int32 → V → Prop}  {f2 : Int32} {k0 : Int32 → Int32 → V → Prop} {x3 y3 : Int32} {x4 y4 : Int32} {v v' : V} (hs : ∀ rec : Int32 → Int32 → V → Prop, sb_X5_sumAsked_11_5 post f2 k0 rec x3 x4 v = rec y3 y4 v') : (∃ n, sl_X5_sumAsked_11_5 post f2 k0 n x3 x4 v) = (∃ n, sl_X5_sumAsked_11_5 post f2 k0 n y3 y4 v') :=
  ex_step (F := fun n (a : Int32 × Int32 × V) => sl_X5_sumAsked_11_5 post f2 k0 n a.1 a.2.1 a.2.2) (a := (x3, x4, v)) (a' := (y3, y4, v')) (fun _ h => h) (fun n => hs (sl_X5_sumAsked_11_5 post f2 k0 n))
theorem xo_X5_sumAsked_11_5 {post : Int32 → V → Prop}  {f2 : Int32} {k0 : Int32 → Int32 → V → Prop} {x3 : Int32} {x4 : Int32} {v : V} {P : Prop} (hs : ∀ rec : Int32 → Int32 → V → Prop, sb_X5_sumAsked_11_5 post f2 k0 rec x3 x4 v = P) : (∃ n, sl_X5_sumAsked_11_5 post f2 k0 n x3 x4 v) = P :=
  ex_out (F := fun n (a : Int32 × Int32 × V) => sl_X5_sumAsked_11_5 post f2 k0 n a.1 a.2.1 a.2.2) (a := (x3, x4, v)) (fun _ h => h) (fun n => hs (sl_X5_sumAsked_11_5 post f2 k0 n))

theorem xs_X1_countOpen_4 {post : Int32 → V → Prop}   {k0 : Int32 → Int32 → V → Prop} {x1 y1 : Int32} {x2 y2 : Int32} {v v' : V} (hs : ∀ rec : Int32 → Int32 → V → Prop, sb_X1_countOpen_4 post k0 rec x1 x2 v = rec y1 y2 v') : (∃ n, sl_X1_countOpen_4 post k0 n x1 x2 v) = (∃ n, sl_X1_countOpen_4 post k0 n y1 y2 v') :=
  ex_step (F := fun n (a : Int32 × Int32 × V) => sl_X1_countOpen_4 post k0 n a.1 a.2.1 a.2.2) (a := (x1, x2, v)) (a' := (y1, y2, v')) (fun _ h => h) (fun n => hs (sl_X1_countOpen_4 post k0 n))
theorem xo_X1_countOpen_4 {post : Int32 → V → Prop}   {k0 : Int32 → Int32 → V → Prop} {x1 : Int32} {x2 : Int32} {v : V} {P : Prop} (hs : ∀ rec : Int32 → Int32 → V → Prop, sb_X1_countOpen_4 post k0 rec x1 x2 v = P) : (∃ n, sl_X1_countOpen_4 post k0 n x1 x2 v) = P :=
  ex_out (F := fun n (a : Int32 × Int32 × V) => sl_X1_countOpen_4 post k0 n a.1 a.2.1 a.2.2) (a := (x1, x2, v)) (fun _ h => h) (fun n => hs (sl_X1_countOpen_4 post k0 n))

theorem xs_X1_sumOfBalances_4 {post : Int32 → V → Prop}   {k0 : Int32 → Int32 → V → Prop} {x1 y1 : Int32} {x2 y2 : Int32} {v v' : V} (hs : ∀ rec : Int32 → Int32 → V → Prop, sb_X1_sumOfBalances_4 post k0 rec x1 x2 v = rec y1 y2 v') : (∃ n, sl_X1_sumOfBalances_4 post k0 n x1 x2 v) = (∃ n, sl_X1_sumOfBalances_4 post k0 n y1 y2 v') :=
  ex_step (F := fun n (a : Int32 × Int32 × V) => sl_X1_sumOfBalances_4 post k0 n a.1 a.2.1 a.2.2) (a := (x1, x2, v)) (a' := (y1, y2, v')) (fun _ h => h) (fun n => hs (sl_X1_sumOfBalances_4 post k0 n))
theorem xo_X1_sumOfBalances_4 {post : Int32 → V → Prop}   {k0 : Int32 → Int32 → V → Prop} {x1 : Int32} {x2 : Int32} {v : V} {P : Prop} (hs : ∀ rec : Int32 → Int32 → V → Prop, sb_X1_sumOfBalances_4 post k0 rec x1 x2 v = P) : (∃ n, sl_X1_sumOfBalances_4 post k0 n x1 x2 v) = P :=
  ex_out (F := fun n (a : Int32 × Int32 × V) => sl_X1_sumOfBalances_4 post k0 n a.1 a.2.1 a.2.2) (a := (x1, x2, v)) (fun _ h => h) (fun n => hs (sl_X1_sumOfBalances_4 post k0 n))

theorem xs_X3_entries_4 {post : Int32 → V → Prop}   {k0 : Int32 → Int32 → V → Prop} {x1 y1 : Int32} {x2 y2 : Int32} {v v' : V} (hs : ∀ rec : Int32 → Int32 → V → Prop, sb_X3_entries_4 post k0 rec x1 x2 v = rec y1 y2 v') : (∃ n, sl_X3_entries_4 post k0 n x1 x2 v) = (∃ n, sl_X3_entries_4 post k0 n y1 y2 v') :=
  ex_step (F := fun n (a : Int32 × Int32 × V) => sl_X3_entries_4 post k0 n a.1 a.2.1 a.2.2) (a := (x1, x2, v)) (a' := (y1, y2, v')) (fun _ h => h) (fun n => hs (sl_X3_entries_4 post k0 n))
theorem xo_X3_entries_4 {post : Int32 → V → Prop}   {k0 : Int32 → Int32 → V → Prop} {x1 : Int32} {x2 : Int32} {v : V} {P : Prop} (hs : ∀ rec : Int32 → Int32 → V → Prop, sb_X3_entries_4 post k0 rec x1 x2 v = P) : (∃ n, sl_X3_entries_4 post k0 n x1 x2 v) = P :=
  ex_out (F := fun n (a : Int32 × Int32 × V) => sl_X3_entries_4 post k0 n a.1 a.2.1 a.2.2) (a := (x1, x2, v)) (fun _ h => h) (fun n => hs (sl_X3_entries_4 post k0 n))

theorem xs_X5_countOut_4 {post : Int32 → V → Prop}   {k0 : Int32 → Int32 → V → Prop} {x1 y1 : Int32} {x2 y2 : Int32} {v v' : V} (hs : ∀ rec : Int32 → Int32 → V → Prop, sb_X5_countOut_4 post k0 rec x1 x2 v = rec y1 y2 v') : (∃ n, sl_X5_countOut_4 post k0 n x1 x2 v) = (∃ n, sl_X5_countOut_4 post k0 n y1 y2 v') :=
  ex_step (F := fun n (a : Int32 × Int32 × V) => sl_X5_countOut_4 post k0 n a.1 a.2.1 a.2.2) (a := (x1, x2, v)) (a' := (y1, y2, v')) (fun _ h => h) (fun n => hs (sl_X5_countOut_4 post k0 n))
theorem xo_X5_countOut_4 {post : Int32 → V → Prop}   {k0 : Int32 → Int32 → V → Prop} {x1 : Int32} {x2 : Int32} {v : V} {P : Prop} (hs : ∀ rec : Int32 → Int32 → V → Prop, sb_X5_countOut_4 post k0 rec x1 x2 v = P) : (∃ n, sl_X5_countOut_4 post k0 n x1 x2 v) = P :=
  ex_out (F := fun n (a : Int32 × Int32 × V) => sl_X5_countOut_4 post k0 n a.1 a.2.1 a.2.2) (a := (x1, x2, v)) (fun _ h => h) (fun n => hs (sl_X5_countOut_4 post k0 n))

theorem xs_X5_countSold_4 {post : Int32 → V → Prop}   {k0 : Int32 → Int32 → V → Prop} {x1 y1 : Int32} {x2 y2 : Int32} {v v' : V} (hs : ∀ rec : Int32 → Int32 → V → Prop, sb_X5_countSold_4 post k0 rec x1 x2 v = rec y1 y2 v') : (∃ n, sl_X5_countSold_4 post k0 n x1 x2 v) = (∃ n, sl_X5_countSold_4 post k0 n y1 y2 v') :=
  ex_step (F := fun n (a : Int32 × Int32 × V) => sl_X5_countSold_4 post k0 n a.1 a.2.1 a.2.2) (a := (x1, x2, v)) (a' := (y1, y2, v')) (fun _ h => h) (fun n => hs (sl_X5_countSold_4 post k0 n))
theorem xo_X5_countSold_4 {post : Int32 → V → Prop}   {k0 : Int32 → Int32 → V → Prop} {x1 : Int32} {x2 : Int32} {v : V} {P : Prop} (hs : ∀ rec : Int32 → Int32 → V → Prop, sb_X5_countSold_4 post k0 rec x1 x2 v = P) : (∃ n, sl_X5_countSold_4 post k0 n x1 x2 v) = P :=
  ex_out (F := fun n (a : Int32 × Int32 × V) => sl_X5_countSold_4 post k0 n a.1 a.2.1 a.2.2) (a := (x1, x2, v)) (fun _ h => h) (fun n => hs (sl_X5_countSold_4 post k0 n))

theorem xs_X5_sumSold_4 {post : Int32 → V → Prop}   {k0 : Int32 → Int32 → V → Prop} {x1 y1 : Int32} {x2 y2 : Int32} {v v' : V} (hs : ∀ rec : Int32 → Int32 → V → Prop, sb_X5_sumSold_4 post k0 rec x1 x2 v = rec y1 y2 v') : (∃ n, sl_X5_sumSold_4 post k0 n x1 x2 v) = (∃ n, sl_X5_sumSold_4 post k0 n y1 y2 v') :=
  ex_step (F := fun n (a : Int32 × Int32 × V) => sl_X5_sumSold_4 post k0 n a.1 a.2.1 a.2.2) (a := (x1, x2, v)) (a' := (y1, y2, v')) (fun _ h => h) (fun n => hs (sl_X5_sumSold_4 post k0 n))
theorem xo_X5_sumSold_4 {post : Int32 → V → Prop}   {k0 : Int32 → Int32 → V → Prop} {x1 : Int32} {x2 : Int32} {v : V} {P : Prop} (hs : ∀ rec : Int32 → Int32 → V → Prop, sb_X5_sumSold_4 post k0 rec x1 x2 v = P) : (∃ n, sl_X5_sumSold_4 post k0 n x1 x2 v) = P :=
  ex_out (F := fun n (a : Int32 × Int32 × V) => sl_X5_sumSold_4 post k0 n a.1 a.2.1 a.2.2) (a := (x1, x2, v)) (fun _ h => h) (fun n => hs (sl_X5_sumSold_4 post k0 n))

theorem xs_X1_dearestHeld_8 {post : Int32 → V → Prop}  {f1 : Int32} {f2 : Int32} {k0 : Int32 → Int32 → Int32 → V → Prop} {x3 y3 : Int32} {x4 y4 : Int32} {x5 y5 : Int32} {v v' : V} (hs : ∀ rec : Int32 → Int32 → Int32 → V → Prop, sb_X1_dearestHeld_8 post f1 f2 k0 rec x3 x4 x5 v = rec y3 y4 y5 v') : (∃ n, sl_X1_dearestHeld_8 post f1 f2 k0 n x3 x4 x5 v) = (∃ n, sl_X1_dearestHeld_8 post f1 f2 k0 n y3 y4 y5 v') :=
  ex_step (F := fun n (a : Int32 × Int32 × Int32 × V) => sl_X1_dearestHeld_8 post f1 f2 k0 n a.1 a.2.1 a.2.2.1 a.2.2.2) (a := (x3, x4, x5, v)) (a' := (y3, y4, y5, v')) (fun _ h => h) (fun n => hs (sl_X1_dearestHeld_8 post f1 f2 k0 n))
theorem xo_X1_dearestHeld_8 {post : Int32 → V → Prop}  {f1 : Int32} {f2 : Int32} {k0 : Int32 → Int32 → Int32 → V → Prop} {x3 : Int32} {x4 : Int32} {x5 : Int32} {v : V} {P : Prop} (hs : ∀ rec : Int32 → Int32 → Int32 → V → Prop, sb_X1_dearestHeld_8 post f1 f2 k0 rec x3 x4 x5 v = P) : (∃ n, sl_X1_dearestHeld_8 post f1 f2 k0 n x3 x4 x5 v) = P :=
  ex_out (F := fun n (a : Int32 × Int32 × Int32 × V) => sl_X1_dearestHeld_8 post f1 f2 k0 n a.1 a.2.1 a.2.2.1 a.2.2.2) (a := (x3, x4, x5, v)) (fun _ h => h) (fun n => hs (sl_X1_dearestHeld_8 post f1 f2 k0 n))

theorem xs_X4_isWordAt_2 {post : Int32 → V → Prop} {w : Nat} {f1 : Int32} {k0 : Int32 → V → Prop} {x3 y3 : Int32} {v v' : V} (hs : ∀ rec : Int32 → V → Prop, sb_X4_isWordAt_2 post w f1 k0 rec x3 v = rec y3 v') : (∃ n, sl_X4_isWordAt_2 post w f1 k0 n x3 v) = (∃ n, sl_X4_isWordAt_2 post w f1 k0 n y3 v') :=
  ex_step (F := fun n (a : Int32 × V) => sl_X4_isWordAt_2 post w f1 k0 n a.1 a.2) (a := (x3, v)) (a' := (y3, v')) (fun _ h => h) (fun n => hs (sl_X4_isWordAt_2 post w f1 k0 n))
theorem xo_X4_isWordAt_2 {post : Int32 → V → Prop} {w : Nat} {f1 : Int32} {k0 : Int32 → V → Prop} {x3 : Int32} {v : V} {P : Prop} (hs : ∀ rec : Int32 → V → Prop, sb_X4_isWordAt_2 post w f1 k0 rec x3 v = P) : (∃ n, sl_X4_isWordAt_2 post w f1 k0 n x3 v) = P :=
  ex_out (F := fun n (a : Int32 × V) => sl_X4_isWordAt_2 post w f1 k0 n a.1 a.2) (a := (x3, v)) (fun _ h => h) (fun n => hs (sl_X4_isWordAt_2 post w f1 k0 n))

theorem xs_X4_digitsAt_2 {post : Int32 → V → Prop}  {f1 : Int32} {k0 : Int32 → V → Prop} {x2 y2 : Int32} {v v' : V} (hs : ∀ rec : Int32 → V → Prop, sb_X4_digitsAt_2 post f1 k0 rec x2 v = rec y2 v') : (∃ n, sl_X4_digitsAt_2 post f1 k0 n x2 v) = (∃ n, sl_X4_digitsAt_2 post f1 k0 n y2 v') :=
  ex_step (F := fun n (a : Int32 × V) => sl_X4_digitsAt_2 post f1 k0 n a.1 a.2) (a := (x2, v)) (a' := (y2, v')) (fun _ h => h) (fun n => hs (sl_X4_digitsAt_2 post f1 k0 n))
theorem xo_X4_digitsAt_2 {post : Int32 → V → Prop}  {f1 : Int32} {k0 : Int32 → V → Prop} {x2 : Int32} {v : V} {P : Prop} (hs : ∀ rec : Int32 → V → Prop, sb_X4_digitsAt_2 post f1 k0 rec x2 v = P) : (∃ n, sl_X4_digitsAt_2 post f1 k0 n x2 v) = P :=
  ex_out (F := fun n (a : Int32 × V) => sl_X4_digitsAt_2 post f1 k0 n a.1 a.2) (a := (x2, v)) (fun _ h => h) (fun n => hs (sl_X4_digitsAt_2 post f1 k0 n))

theorem xs_X4_valueAt_5 {post : Int32 → V → Prop}  {f1 : Int32} {f2 : Int32} {k0 : Int32 → Int32 → V → Prop} {x3 y3 : Int32} {x4 y4 : Int32} {v v' : V} (hs : ∀ rec : Int32 → Int32 → V → Prop, sb_X4_valueAt_5 post f1 f2 k0 rec x3 x4 v = rec y3 y4 v') : (∃ n, sl_X4_valueAt_5 post f1 f2 k0 n x3 x4 v) = (∃ n, sl_X4_valueAt_5 post f1 f2 k0 n y3 y4 v') :=
  ex_step (F := fun n (a : Int32 × Int32 × V) => sl_X4_valueAt_5 post f1 f2 k0 n a.1 a.2.1 a.2.2) (a := (x3, x4, v)) (a' := (y3, y4, v')) (fun _ h => h) (fun n => hs (sl_X4_valueAt_5 post f1 f2 k0 n))
theorem xo_X4_valueAt_5 {post : Int32 → V → Prop}  {f1 : Int32} {f2 : Int32} {k0 : Int32 → Int32 → V → Prop} {x3 : Int32} {x4 : Int32} {v : V} {P : Prop} (hs : ∀ rec : Int32 → Int32 → V → Prop, sb_X4_valueAt_5 post f1 f2 k0 rec x3 x4 v = P) : (∃ n, sl_X4_valueAt_5 post f1 f2 k0 n x3 x4 v) = P :=
  ex_out (F := fun n (a : Int32 × Int32 × V) => sl_X4_valueAt_5 post f1 f2 k0 n a.1 a.2.1 a.2.2) (a := (x3, x4, v)) (fun _ h => h) (fun n => hs (sl_X4_valueAt_5 post f1 f2 k0 n))

theorem xs_X4_readNumbers_5 {post : Int32 → V → Prop}  {f2 : Int32} {k0 : Int32 → Int32 → V → Prop} {x3 y3 : Int32} {x4 y4 : Int32} {v v' : V} (hs : ∀ rec : Int32 → Int32 → V → Prop, sb_X4_readNumbers_5 post f2 k0 rec x3 x4 v = rec y3 y4 v') : (∃ n, sl_X4_readNumbers_5 post f2 k0 n x3 x4 v) = (∃ n, sl_X4_readNumbers_5 post f2 k0 n y3 y4 v') :=
  ex_step (F := fun n (a : Int32 × Int32 × V) => sl_X4_readNumbers_5 post f2 k0 n a.1 a.2.1 a.2.2) (a := (x3, x4, v)) (a' := (y3, y4, v')) (fun _ h => h) (fun n => hs (sl_X4_readNumbers_5 post f2 k0 n))
theorem xo_X4_readNumbers_5 {post : Int32 → V → Prop}  {f2 : Int32} {k0 : Int32 → Int32 → V → Prop} {x3 : Int32} {x4 : Int32} {v : V} {P : Prop} (hs : ∀ rec : Int32 → Int32 → V → Prop, sb_X4_readNumbers_5 post f2 k0 rec x3 x4 v = P) : (∃ n, sl_X4_readNumbers_5 post f2 k0 n x3 x4 v) = P :=
  ex_out (F := fun n (a : Int32 × Int32 × V) => sl_X4_readNumbers_5 post f2 k0 n a.1 a.2.1 a.2.2) (a := (x3, x4, v)) (fun _ h => h) (fun n => hs (sl_X4_readNumbers_5 post f2 k0 n))

theorem xs_X4_readCommand_2 {post : Int32 → V → Prop}  {f1 : Int32} {k0 : Int32 → V → Prop} {x2 y2 : Int32} {v v' : V} (hs : ∀ rec : Int32 → V → Prop, sb_X4_readCommand_2 post f1 k0 rec x2 v = rec y2 v') : (∃ n, sl_X4_readCommand_2 post f1 k0 n x2 v) = (∃ n, sl_X4_readCommand_2 post f1 k0 n y2 v') :=
  ex_step (F := fun n (a : Int32 × V) => sl_X4_readCommand_2 post f1 k0 n a.1 a.2) (a := (x2, v)) (a' := (y2, v')) (fun _ h => h) (fun n => hs (sl_X4_readCommand_2 post f1 k0 n))
theorem xo_X4_readCommand_2 {post : Int32 → V → Prop}  {f1 : Int32} {k0 : Int32 → V → Prop} {x2 : Int32} {v : V} {P : Prop} (hs : ∀ rec : Int32 → V → Prop, sb_X4_readCommand_2 post f1 k0 rec x2 v = P) : (∃ n, sl_X4_readCommand_2 post f1 k0 n x2 v) = P :=
  ex_out (F := fun n (a : Int32 × V) => sl_X4_readCommand_2 post f1 k0 n a.1 a.2) (a := (x2, v)) (fun _ h => h) (fun n => hs (sl_X4_readCommand_2 post f1 k0 n))

theorem xs_X4_runOn_9 {post : Int32 → V → V → Prop}   {k0 : Int32 → Int32 → V → V → Prop} {x2 y2 : Int32} {x3 y3 : Int32} {v0 v0' : V} {v1 v1' : V} (hs : ∀ rec : Int32 → Int32 → V → V → Prop, sb_X4_runOn_9 post k0 rec x2 x3 v0 v1 = rec y2 y3 v0' v1') : (∃ n, sl_X4_runOn_9 post k0 n x2 x3 v0 v1) = (∃ n, sl_X4_runOn_9 post k0 n y2 y3 v0' v1') :=
  ex_step (F := fun n (a : Int32 × Int32 × V × V) => sl_X4_runOn_9 post k0 n a.1 a.2.1 a.2.2.1 a.2.2.2) (a := (x2, x3, v0, v1)) (a' := (y2, y3, v0', v1')) (fun _ h => h) (fun n => hs (sl_X4_runOn_9 post k0 n))
theorem xo_X4_runOn_9 {post : Int32 → V → V → Prop}   {k0 : Int32 → Int32 → V → V → Prop} {x2 : Int32} {x3 : Int32} {v0 : V} {v1 : V} {P : Prop} (hs : ∀ rec : Int32 → Int32 → V → V → Prop, sb_X4_runOn_9 post k0 rec x2 x3 v0 v1 = P) : (∃ n, sl_X4_runOn_9 post k0 n x2 x3 v0 v1) = P :=
  ex_out (F := fun n (a : Int32 × Int32 × V × V) => sl_X4_runOn_9 post k0 n a.1 a.2.1 a.2.2.1 a.2.2.2) (a := (x2, x3, v0, v1)) (fun _ h => h) (fun n => hs (sl_X4_runOn_9 post k0 n))

theorem xs_X5_closestPair_26 {post : Int32 → V → Prop}  {f1 : Int32} {f2 : Int32} {f6 : Int32} {k0 : Int32 → Int32 → Int32 → Int32 → V → Prop} {x3 y3 : Int32} {x4 y4 : Int32} {x5 y5 : Int32} {x7 y7 : Int32} {v v' : V} (hs : ∀ rec : Int32 → Int32 → Int32 → Int32 → V → Prop, sb_X5_closestPair_26 post f1 f2 f6 k0 rec x3 x4 x5 x7 v = rec y3 y4 y5 y7 v') : (∃ n, sl_X5_closestPair_26 post f1 f2 f6 k0 n x3 x4 x5 x7 v) = (∃ n, sl_X5_closestPair_26 post f1 f2 f6 k0 n y3 y4 y5 y7 v') :=
  ex_step (F := fun n (a : Int32 × Int32 × Int32 × Int32 × V) => sl_X5_closestPair_26 post f1 f2 f6 k0 n a.1 a.2.1 a.2.2.1 a.2.2.2.1 a.2.2.2.2) (a := (x3, x4, x5, x7, v)) (a' := (y3, y4, y5, y7, v')) (fun _ h => h) (fun n => hs (sl_X5_closestPair_26 post f1 f2 f6 k0 n))
theorem xo_X5_closestPair_26 {post : Int32 → V → Prop}  {f1 : Int32} {f2 : Int32} {f6 : Int32} {k0 : Int32 → Int32 → Int32 → Int32 → V → Prop} {x3 : Int32} {x4 : Int32} {x5 : Int32} {x7 : Int32} {v : V} {P : Prop} (hs : ∀ rec : Int32 → Int32 → Int32 → Int32 → V → Prop, sb_X5_closestPair_26 post f1 f2 f6 k0 rec x3 x4 x5 x7 v = P) : (∃ n, sl_X5_closestPair_26 post f1 f2 f6 k0 n x3 x4 x5 x7 v) = P :=
  ex_out (F := fun n (a : Int32 × Int32 × Int32 × Int32 × V) => sl_X5_closestPair_26 post f1 f2 f6 k0 n a.1 a.2.1 a.2.2.1 a.2.2.2.1 a.2.2.2.2) (a := (x3, x4, x5, x7, v)) (fun _ h => h) (fun n => hs (sl_X5_closestPair_26 post f1 f2 f6 k0 n))

theorem xs_X5_closestPair_11 {post : Int32 → V → Prop}  {f1 : Int32} {f2 : Int32} {k0 : Int32 → Int32 → Int32 → Int32 → V → Prop} {x3 y3 : Int32} {x4 y4 : Int32} {x5 y5 : Int32} {x6 y6 : Int32} {v v' : V} (hs : ∀ rec : Int32 → Int32 → Int32 → Int32 → V → Prop, sb_X5_closestPair_11 post f1 f2 k0 rec x3 x4 x5 x6 v = rec y3 y4 y5 y6 v') : (∃ n, sl_X5_closestPair_11 post f1 f2 k0 n x3 x4 x5 x6 v) = (∃ n, sl_X5_closestPair_11 post f1 f2 k0 n y3 y4 y5 y6 v') :=
  ex_step (F := fun n (a : Int32 × Int32 × Int32 × Int32 × V) => sl_X5_closestPair_11 post f1 f2 k0 n a.1 a.2.1 a.2.2.1 a.2.2.2.1 a.2.2.2.2) (a := (x3, x4, x5, x6, v)) (a' := (y3, y4, y5, y6, v')) (fun _ h => h) (fun n => hs (sl_X5_closestPair_11 post f1 f2 k0 n))
theorem xo_X5_closestPair_11 {post : Int32 → V → Prop}  {f1 : Int32} {f2 : Int32} {k0 : Int32 → Int32 → Int32 → Int32 → V → Prop} {x3 : Int32} {x4 : Int32} {x5 : Int32} {x6 : Int32} {v : V} {P : Prop} (hs : ∀ rec : Int32 → Int32 → Int32 → Int32 → V → Prop, sb_X5_closestPair_11 post f1 f2 k0 rec x3 x4 x5 x6 v = P) : (∃ n, sl_X5_closestPair_11 post f1 f2 k0 n x3 x4 x5 x6 v) = P :=
  ex_out (F := fun n (a : Int32 × Int32 × Int32 × Int32 × V) => sl_X5_closestPair_11 post f1 f2 k0 n a.1 a.2.1 a.2.2.1 a.2.2.2.1 a.2.2.2.2) (a := (x3, x4, x5, x6, v)) (fun _ h => h) (fun n => hs (sl_X5_closestPair_11 post f1 f2 k0 n))

theorem xs_X5_hasLikeBefore_2 {post : Int32 → V → Prop}  {f1 : Int32} {f2 : Int32} {k0 : Int32 → V → Prop} {x3 y3 : Int32} {v v' : V} (hs : ∀ rec : Int32 → V → Prop, sb_X5_hasLikeBefore_2 post f1 f2 k0 rec x3 v = rec y3 v') : (∃ n, sl_X5_hasLikeBefore_2 post f1 f2 k0 n x3 v) = (∃ n, sl_X5_hasLikeBefore_2 post f1 f2 k0 n y3 v') :=
  ex_step (F := fun n (a : Int32 × V) => sl_X5_hasLikeBefore_2 post f1 f2 k0 n a.1 a.2) (a := (x3, v)) (a' := (y3, v')) (fun _ h => h) (fun n => hs (sl_X5_hasLikeBefore_2 post f1 f2 k0 n))
theorem xo_X5_hasLikeBefore_2 {post : Int32 → V → Prop}  {f1 : Int32} {f2 : Int32} {k0 : Int32 → V → Prop} {x3 : Int32} {v : V} {P : Prop} (hs : ∀ rec : Int32 → V → Prop, sb_X5_hasLikeBefore_2 post f1 f2 k0 rec x3 v = P) : (∃ n, sl_X5_hasLikeBefore_2 post f1 f2 k0 n x3 v) = P :=
  ex_out (F := fun n (a : Int32 × V) => sl_X5_hasLikeBefore_2 post f1 f2 k0 n a.1 a.2) (a := (x3, v)) (fun _ h => h) (fun n => hs (sl_X5_hasLikeBefore_2 post f1 f2 k0 n))

theorem xs_X5_unlikeGrades_4 {post : Int32 → V → Prop}  {f1 : Int32} {k0 : Int32 → Int32 → V → Prop} {x2 y2 : Int32} {x3 y3 : Int32} {v v' : V} (hs : ∀ rec : Int32 → Int32 → V → Prop, sb_X5_unlikeGrades_4 post f1 k0 rec x2 x3 v = rec y2 y3 v') : (∃ n, sl_X5_unlikeGrades_4 post f1 k0 n x2 x3 v) = (∃ n, sl_X5_unlikeGrades_4 post f1 k0 n y2 y3 v') :=
  ex_step (F := fun n (a : Int32 × Int32 × V) => sl_X5_unlikeGrades_4 post f1 k0 n a.1 a.2.1 a.2.2) (a := (x2, x3, v)) (a' := (y2, y3, v')) (fun _ h => h) (fun n => hs (sl_X5_unlikeGrades_4 post f1 k0 n))
theorem xo_X5_unlikeGrades_4 {post : Int32 → V → Prop}  {f1 : Int32} {k0 : Int32 → Int32 → V → Prop} {x2 : Int32} {x3 : Int32} {v : V} {P : Prop} (hs : ∀ rec : Int32 → Int32 → V → Prop, sb_X5_unlikeGrades_4 post f1 k0 rec x2 x3 v = P) : (∃ n, sl_X5_unlikeGrades_4 post f1 k0 n x2 x3 v) = P :=
  ex_out (F := fun n (a : Int32 × Int32 × V) => sl_X5_unlikeGrades_4 post f1 k0 n a.1 a.2.1 a.2.2) (a := (x2, x3, v)) (fun _ h => h) (fun n => hs (sl_X5_unlikeGrades_4 post f1 k0 n))

theorem xs_X7_begins_2 {post : V → Prop}   {k0 : Int32 → V → Prop} {x1 y1 : Int32} {v v' : V} (hs : ∀ rec : Int32 → V → Prop, sb_X7_begins_2 post k0 rec x1 v = rec y1 v') : (∃ n, sl_X7_begins_2 post k0 n x1 v) = (∃ n, sl_X7_begins_2 post k0 n y1 v') :=
  ex_step (F := fun n (a : Int32 × V) => sl_X7_begins_2 post k0 n a.1 a.2) (a := (x1, v)) (a' := (y1, v')) (fun _ h => h) (fun n => hs (sl_X7_begins_2 post k0 n))
theorem xo_X7_begins_2 {post : V → Prop}   {k0 : Int32 → V → Prop} {x1 : Int32} {v : V} {P : Prop} (hs : ∀ rec : Int32 → V → Prop, sb_X7_begins_2 post k0 rec x1 v = P) : (∃ n, sl_X7_begins_2 post k0 n x1 v) = P :=
  ex_out (F := fun n (a : Int32 × V) => sl_X7_begins_2 post k0 n a.1 a.2) (a := (x1, v)) (fun _ h => h) (fun n => hs (sl_X7_begins_2 post k0 n))

theorem xs_X7_returns_2 {post : V → Prop}   {k0 : Int32 → V → Prop} {x1 y1 : Int32} {v v' : V} (hs : ∀ rec : Int32 → V → Prop, sb_X7_returns_2 post k0 rec x1 v = rec y1 v') : (∃ n, sl_X7_returns_2 post k0 n x1 v) = (∃ n, sl_X7_returns_2 post k0 n y1 v') :=
  ex_step (F := fun n (a : Int32 × V) => sl_X7_returns_2 post k0 n a.1 a.2) (a := (x1, v)) (a' := (y1, v')) (fun _ h => h) (fun n => hs (sl_X7_returns_2 post k0 n))
theorem xo_X7_returns_2 {post : V → Prop}   {k0 : Int32 → V → Prop} {x1 : Int32} {v : V} {P : Prop} (hs : ∀ rec : Int32 → V → Prop, sb_X7_returns_2 post k0 rec x1 v = P) : (∃ n, sl_X7_returns_2 post k0 n x1 v) = P :=
  ex_out (F := fun n (a : Int32 × V) => sl_X7_returns_2 post k0 n a.1 a.2) (a := (x1, v)) (fun _ h => h) (fun n => hs (sl_X7_returns_2 post k0 n))

theorem xs_X7_acted_63 {post : Int32 → V → Prop}  {f1 : Int32} {k0 : Int32 → V → Prop} {x2 y2 : Int32} {v v' : V} (hs : ∀ rec : Int32 → V → Prop, sb_X7_acted_63 post f1 k0 rec x2 v = rec y2 v') : (∃ n, sl_X7_acted_63 post f1 k0 n x2 v) = (∃ n, sl_X7_acted_63 post f1 k0 n y2 v') :=
  ex_step (F := fun n (a : Int32 × V) => sl_X7_acted_63 post f1 k0 n a.1 a.2) (a := (x2, v)) (a' := (y2, v')) (fun _ h => h) (fun n => hs (sl_X7_acted_63 post f1 k0 n))
theorem xo_X7_acted_63 {post : Int32 → V → Prop}  {f1 : Int32} {k0 : Int32 → V → Prop} {x2 : Int32} {v : V} {P : Prop} (hs : ∀ rec : Int32 → V → Prop, sb_X7_acted_63 post f1 k0 rec x2 v = P) : (∃ n, sl_X7_acted_63 post f1 k0 n x2 v) = P :=
  ex_out (F := fun n (a : Int32 × V) => sl_X7_acted_63 post f1 k0 n a.1 a.2) (a := (x2, v)) (fun _ h => h) (fun n => hs (sl_X7_acted_63 post f1 k0 n))

theorem xs_X7_acted_22 {post : Int32 → V → Prop}  {f1 : Int32} {k0 : Int32 → V → Prop} {x2 y2 : Int32} {v v' : V} (hs : ∀ rec : Int32 → V → Prop, sb_X7_acted_22 post f1 k0 rec x2 v = rec y2 v') : (∃ n, sl_X7_acted_22 post f1 k0 n x2 v) = (∃ n, sl_X7_acted_22 post f1 k0 n y2 v') :=
  ex_step (F := fun n (a : Int32 × V) => sl_X7_acted_22 post f1 k0 n a.1 a.2) (a := (x2, v)) (a' := (y2, v')) (fun _ h => h) (fun n => hs (sl_X7_acted_22 post f1 k0 n))
theorem xo_X7_acted_22 {post : Int32 → V → Prop}  {f1 : Int32} {k0 : Int32 → V → Prop} {x2 : Int32} {v : V} {P : Prop} (hs : ∀ rec : Int32 → V → Prop, sb_X7_acted_22 post f1 k0 rec x2 v = P) : (∃ n, sl_X7_acted_22 post f1 k0 n x2 v) = P :=
  ex_out (F := fun n (a : Int32 × V) => sl_X7_acted_22 post f1 k0 n a.1 a.2) (a := (x2, v)) (fun _ h => h) (fun n => hs (sl_X7_acted_22 post f1 k0 n))

theorem xs_X7_rateFor_34 {post : Int32 → V → Prop}  {f1 : Int32} {f3 : Int32} {f4 : Int32} {f6 : Int32} {k0 : Int32 → Int32 → V → Prop} {x5 y5 : Int32} {x7 y7 : Int32} {v v' : V} (hs : ∀ rec : Int32 → Int32 → V → Prop, sb_X7_rateFor_34 post f1 f3 f4 f6 k0 rec x5 x7 v = rec y5 y7 v') : (∃ n, sl_X7_rateFor_34 post f1 f3 f4 f6 k0 n x5 x7 v) = (∃ n, sl_X7_rateFor_34 post f1 f3 f4 f6 k0 n y5 y7 v') :=
  ex_step (F := fun n (a : Int32 × Int32 × V) => sl_X7_rateFor_34 post f1 f3 f4 f6 k0 n a.1 a.2.1 a.2.2) (a := (x5, x7, v)) (a' := (y5, y7, v')) (fun _ h => h) (fun n => hs (sl_X7_rateFor_34 post f1 f3 f4 f6 k0 n))
theorem xo_X7_rateFor_34 {post : Int32 → V → Prop}  {f1 : Int32} {f3 : Int32} {f4 : Int32} {f6 : Int32} {k0 : Int32 → Int32 → V → Prop} {x5 : Int32} {x7 : Int32} {v : V} {P : Prop} (hs : ∀ rec : Int32 → Int32 → V → Prop, sb_X7_rateFor_34 post f1 f3 f4 f6 k0 rec x5 x7 v = P) : (∃ n, sl_X7_rateFor_34 post f1 f3 f4 f6 k0 n x5 x7 v) = P :=
  ex_out (F := fun n (a : Int32 × Int32 × V) => sl_X7_rateFor_34 post f1 f3 f4 f6 k0 n a.1 a.2.1 a.2.2) (a := (x5, x7, v)) (fun _ h => h) (fun n => hs (sl_X7_rateFor_34 post f1 f3 f4 f6 k0 n))

theorem xs_X7_rateFor_19 {post : Int32 → V → Prop}  {f1 : Int32} {f3 : Int32} {f4 : Int32} {k0 : Int32 → Int32 → V → Prop} {x5 y5 : Int32} {x6 y6 : Int32} {v v' : V} (hs : ∀ rec : Int32 → Int32 → V → Prop, sb_X7_rateFor_19 post f1 f3 f4 k0 rec x5 x6 v = rec y5 y6 v') : (∃ n, sl_X7_rateFor_19 post f1 f3 f4 k0 n x5 x6 v) = (∃ n, sl_X7_rateFor_19 post f1 f3 f4 k0 n y5 y6 v') :=
  ex_step (F := fun n (a : Int32 × Int32 × V) => sl_X7_rateFor_19 post f1 f3 f4 k0 n a.1 a.2.1 a.2.2) (a := (x5, x6, v)) (a' := (y5, y6, v')) (fun _ h => h) (fun n => hs (sl_X7_rateFor_19 post f1 f3 f4 k0 n))
theorem xo_X7_rateFor_19 {post : Int32 → V → Prop}  {f1 : Int32} {f3 : Int32} {f4 : Int32} {k0 : Int32 → Int32 → V → Prop} {x5 : Int32} {x6 : Int32} {v : V} {P : Prop} (hs : ∀ rec : Int32 → Int32 → V → Prop, sb_X7_rateFor_19 post f1 f3 f4 k0 rec x5 x6 v = P) : (∃ n, sl_X7_rateFor_19 post f1 f3 f4 k0 n x5 x6 v) = P :=
  ex_out (F := fun n (a : Int32 × Int32 × V) => sl_X7_rateFor_19 post f1 f3 f4 k0 n a.1 a.2.1 a.2.2) (a := (x5, x6, v)) (fun _ h => h) (fun n => hs (sl_X7_rateFor_19 post f1 f3 f4 k0 n))

theorem xs_X7_outBy_4 {post : Int32 → V → Prop}  {f1 : Int32} {k0 : Int32 → Int32 → V → Prop} {x2 y2 : Int32} {x3 y3 : Int32} {v v' : V} (hs : ∀ rec : Int32 → Int32 → V → Prop, sb_X7_outBy_4 post f1 k0 rec x2 x3 v = rec y2 y3 v') : (∃ n, sl_X7_outBy_4 post f1 k0 n x2 x3 v) = (∃ n, sl_X7_outBy_4 post f1 k0 n y2 y3 v') :=
  ex_step (F := fun n (a : Int32 × Int32 × V) => sl_X7_outBy_4 post f1 k0 n a.1 a.2.1 a.2.2) (a := (x2, x3, v)) (a' := (y2, y3, v')) (fun _ h => h) (fun n => hs (sl_X7_outBy_4 post f1 k0 n))
theorem xo_X7_outBy_4 {post : Int32 → V → Prop}  {f1 : Int32} {k0 : Int32 → Int32 → V → Prop} {x2 : Int32} {x3 : Int32} {v : V} {P : Prop} (hs : ∀ rec : Int32 → Int32 → V → Prop, sb_X7_outBy_4 post f1 k0 rec x2 x3 v = P) : (∃ n, sl_X7_outBy_4 post f1 k0 n x2 x3 v) = P :=
  ex_out (F := fun n (a : Int32 × Int32 × V) => sl_X7_outBy_4 post f1 k0 n a.1 a.2.1 a.2.2) (a := (x2, x3, v)) (fun _ h => h) (fun n => hs (sl_X7_outBy_4 post f1 k0 n))

theorem xs_X7_ones_4 {post : Int32 → Prop}  {f0 : Int32} {k0 : Int32 → Int32 → Prop} {x1 y1 : Int32} {x2 y2 : Int32}  (hs : ∀ rec : Int32 → Int32 → Prop, sb_X7_ones_4 post f0 k0 rec x1 x2 = rec y1 y2) : (∃ n, sl_X7_ones_4 post f0 k0 n x1 x2) = (∃ n, sl_X7_ones_4 post f0 k0 n y1 y2) :=
  ex_step (F := fun n (a : Int32 × Int32) => sl_X7_ones_4 post f0 k0 n a.1 a.2) (a := (x1, x2)) (a' := (y1, y2)) (fun _ h => h) (fun n => hs (sl_X7_ones_4 post f0 k0 n))
theorem xo_X7_ones_4 {post : Int32 → Prop}  {f0 : Int32} {k0 : Int32 → Int32 → Prop} {x1 : Int32} {x2 : Int32}  {P : Prop} (hs : ∀ rec : Int32 → Int32 → Prop, sb_X7_ones_4 post f0 k0 rec x1 x2 = P) : (∃ n, sl_X7_ones_4 post f0 k0 n x1 x2) = P :=
  ex_out (F := fun n (a : Int32 × Int32) => sl_X7_ones_4 post f0 k0 n a.1 a.2) (a := (x1, x2)) (fun _ h => h) (fun n => hs (sl_X7_ones_4 post f0 k0 n))

theorem xs_X7_mayLend_5 {post : Int32 → V → Prop}  {f1 : Int32} {f2 : Int32} {k0 : Int32 → Int32 → V → Prop} {x3 y3 : Int32} {x4 y4 : Int32} {v v' : V} (hs : ∀ rec : Int32 → Int32 → V → Prop, sb_X7_mayLend_5 post f1 f2 k0 rec x3 x4 v = rec y3 y4 v') : (∃ n, sl_X7_mayLend_5 post f1 f2 k0 n x3 x4 v) = (∃ n, sl_X7_mayLend_5 post f1 f2 k0 n y3 y4 v') :=
  ex_step (F := fun n (a : Int32 × Int32 × V) => sl_X7_mayLend_5 post f1 f2 k0 n a.1 a.2.1 a.2.2) (a := (x3, x4, v)) (a' := (y3, y4, v')) (fun _ h => h) (fun n => hs (sl_X7_mayLend_5 post f1 f2 k0 n))
theorem xo_X7_mayLend_5 {post : Int32 → V → Prop}  {f1 : Int32} {f2 : Int32} {k0 : Int32 → Int32 → V → Prop} {x3 : Int32} {x4 : Int32} {v : V} {P : Prop} (hs : ∀ rec : Int32 → Int32 → V → Prop, sb_X7_mayLend_5 post f1 f2 k0 rec x3 x4 v = P) : (∃ n, sl_X7_mayLend_5 post f1 f2 k0 n x3 x4 v) = P :=
  ex_out (F := fun n (a : Int32 × Int32 × V) => sl_X7_mayLend_5 post f1 f2 k0 n a.1 a.2.1 a.2.2) (a := (x3, x4, v)) (fun _ h => h) (fun n => hs (sl_X7_mayLend_5 post f1 f2 k0 n))

theorem xs_X7_lends_181 {post : Int32 → V → Prop}  {f2 : Int32} {f4 : Int32} {f6 : Int32} {k0 : Int32 → V → Prop} {x8 y8 : Int32} {v v' : V} (hs : ∀ rec : Int32 → V → Prop, sb_X7_lends_181 post f2 f4 f6 k0 rec x8 v = rec y8 v') : (∃ n, sl_X7_lends_181 post f2 f4 f6 k0 n x8 v) = (∃ n, sl_X7_lends_181 post f2 f4 f6 k0 n y8 v') :=
  ex_step (F := fun n (a : Int32 × V) => sl_X7_lends_181 post f2 f4 f6 k0 n a.1 a.2) (a := (x8, v)) (a' := (y8, v')) (fun _ h => h) (fun n => hs (sl_X7_lends_181 post f2 f4 f6 k0 n))
theorem xo_X7_lends_181 {post : Int32 → V → Prop}  {f2 : Int32} {f4 : Int32} {f6 : Int32} {k0 : Int32 → V → Prop} {x8 : Int32} {v : V} {P : Prop} (hs : ∀ rec : Int32 → V → Prop, sb_X7_lends_181 post f2 f4 f6 k0 rec x8 v = P) : (∃ n, sl_X7_lends_181 post f2 f4 f6 k0 n x8 v) = P :=
  ex_out (F := fun n (a : Int32 × V) => sl_X7_lends_181 post f2 f4 f6 k0 n a.1 a.2) (a := (x8, v)) (fun _ h => h) (fun n => hs (sl_X7_lends_181 post f2 f4 f6 k0 n))

theorem xs_X7_day_53 {post : V → Prop}  {f1 : Int32} {f2 : Int32} {k0 : Int32 → V → Prop} {x3 y3 : Int32} {v v' : V} (hs : ∀ rec : Int32 → V → Prop, sb_X7_day_53 post f1 f2 k0 rec x3 v = rec y3 v') : (∃ n, sl_X7_day_53 post f1 f2 k0 n x3 v) = (∃ n, sl_X7_day_53 post f1 f2 k0 n y3 v') :=
  ex_step (F := fun n (a : Int32 × V) => sl_X7_day_53 post f1 f2 k0 n a.1 a.2) (a := (x3, v)) (a' := (y3, v')) (fun _ h => h) (fun n => hs (sl_X7_day_53 post f1 f2 k0 n))
theorem xo_X7_day_53 {post : V → Prop}  {f1 : Int32} {f2 : Int32} {k0 : Int32 → V → Prop} {x3 : Int32} {v : V} {P : Prop} (hs : ∀ rec : Int32 → V → Prop, sb_X7_day_53 post f1 f2 k0 rec x3 v = P) : (∃ n, sl_X7_day_53 post f1 f2 k0 n x3 v) = P :=
  ex_out (F := fun n (a : Int32 × V) => sl_X7_day_53 post f1 f2 k0 n a.1 a.2) (a := (x3, v)) (fun _ h => h) (fun n => hs (sl_X7_day_53 post f1 f2 k0 n))

theorem xs_X7_day_12 {post : V → Prop}   {k0 : Int32 → V → Prop} {x1 y1 : Int32} {v v' : V} (hs : ∀ rec : Int32 → V → Prop, sb_X7_day_12 post k0 rec x1 v = rec y1 v') : (∃ n, sl_X7_day_12 post k0 n x1 v) = (∃ n, sl_X7_day_12 post k0 n y1 v') :=
  ex_step (F := fun n (a : Int32 × V) => sl_X7_day_12 post k0 n a.1 a.2) (a := (x1, v)) (a' := (y1, v')) (fun _ h => h) (fun n => hs (sl_X7_day_12 post k0 n))
theorem xo_X7_day_12 {post : V → Prop}   {k0 : Int32 → V → Prop} {x1 : Int32} {v : V} {P : Prop} (hs : ∀ rec : Int32 → V → Prop, sb_X7_day_12 post k0 rec x1 v = P) : (∃ n, sl_X7_day_12 post k0 n x1 v) = P :=
  ex_out (F := fun n (a : Int32 × V) => sl_X7_day_12 post k0 n a.1 a.2) (a := (x1, v)) (fun _ h => h) (fun n => hs (sl_X7_day_12 post k0 n))

theorem xs_X7_goes_39 {post : Int32 → V → Prop}  {f1 : Int32} {f2 : Int32} {k0 : Int32 → V → Prop} {x3 y3 : Int32} {v v' : V} (hs : ∀ rec : Int32 → V → Prop, sb_X7_goes_39 post f1 f2 k0 rec x3 v = rec y3 v') : (∃ n, sl_X7_goes_39 post f1 f2 k0 n x3 v) = (∃ n, sl_X7_goes_39 post f1 f2 k0 n y3 v') :=
  ex_step (F := fun n (a : Int32 × V) => sl_X7_goes_39 post f1 f2 k0 n a.1 a.2) (a := (x3, v)) (a' := (y3, v')) (fun _ h => h) (fun n => hs (sl_X7_goes_39 post f1 f2 k0 n))
theorem xo_X7_goes_39 {post : Int32 → V → Prop}  {f1 : Int32} {f2 : Int32} {k0 : Int32 → V → Prop} {x3 : Int32} {v : V} {P : Prop} (hs : ∀ rec : Int32 → V → Prop, sb_X7_goes_39 post f1 f2 k0 rec x3 v = P) : (∃ n, sl_X7_goes_39 post f1 f2 k0 n x3 v) = P :=
  ex_out (F := fun n (a : Int32 × V) => sl_X7_goes_39 post f1 f2 k0 n a.1 a.2) (a := (x3, v)) (fun _ h => h) (fun n => hs (sl_X7_goes_39 post f1 f2 k0 n))

theorem xs_X7_setOf_5 {post : Int32 → V → Prop}  {f1 : Int32} {f2 : Int32} {k0 : Int32 → Int32 → V → Prop} {x3 y3 : Int32} {x4 y4 : Int32} {v v' : V} (hs : ∀ rec : Int32 → Int32 → V → Prop, sb_X7_setOf_5 post f1 f2 k0 rec x3 x4 v = rec y3 y4 v') : (∃ n, sl_X7_setOf_5 post f1 f2 k0 n x3 x4 v) = (∃ n, sl_X7_setOf_5 post f1 f2 k0 n y3 y4 v') :=
  ex_step (F := fun n (a : Int32 × Int32 × V) => sl_X7_setOf_5 post f1 f2 k0 n a.1 a.2.1 a.2.2) (a := (x3, x4, v)) (a' := (y3, y4, v')) (fun _ h => h) (fun n => hs (sl_X7_setOf_5 post f1 f2 k0 n))
theorem xo_X7_setOf_5 {post : Int32 → V → Prop}  {f1 : Int32} {f2 : Int32} {k0 : Int32 → Int32 → V → Prop} {x3 : Int32} {x4 : Int32} {v : V} {P : Prop} (hs : ∀ rec : Int32 → Int32 → V → Prop, sb_X7_setOf_5 post f1 f2 k0 rec x3 x4 v = P) : (∃ n, sl_X7_setOf_5 post f1 f2 k0 n x3 x4 v) = P :=
  ex_out (F := fun n (a : Int32 × Int32 × V) => sl_X7_setOf_5 post f1 f2 k0 n a.1 a.2.1 a.2.2) (a := (x3, x4, v)) (fun _ h => h) (fun n => hs (sl_X7_setOf_5 post f1 f2 k0 n))

theorem xs_X7_worth_4 {post : Int32 → V → Prop}  {f1 : Int32} {k0 : Int32 → Int32 → V → Prop} {x2 y2 : Int32} {x3 y3 : Int32} {v v' : V} (hs : ∀ rec : Int32 → Int32 → V → Prop, sb_X7_worth_4 post f1 k0 rec x2 x3 v = rec y2 y3 v') : (∃ n, sl_X7_worth_4 post f1 k0 n x2 x3 v) = (∃ n, sl_X7_worth_4 post f1 k0 n y2 y3 v') :=
  ex_step (F := fun n (a : Int32 × Int32 × V) => sl_X7_worth_4 post f1 k0 n a.1 a.2.1 a.2.2) (a := (x2, x3, v)) (a' := (y2, y3, v')) (fun _ h => h) (fun n => hs (sl_X7_worth_4 post f1 k0 n))
theorem xo_X7_worth_4 {post : Int32 → V → Prop}  {f1 : Int32} {k0 : Int32 → Int32 → V → Prop} {x2 : Int32} {x3 : Int32} {v : V} {P : Prop} (hs : ∀ rec : Int32 → Int32 → V → Prop, sb_X7_worth_4 post f1 k0 rec x2 x3 v = P) : (∃ n, sl_X7_worth_4 post f1 k0 n x2 x3 v) = P :=
  ex_out (F := fun n (a : Int32 × Int32 × V) => sl_X7_worth_4 post f1 k0 n a.1 a.2.1 a.2.2) (a := (x2, x3, v)) (fun _ h => h) (fun n => hs (sl_X7_worth_4 post f1 k0 n))

theorem xs_X7_askedBy_5 {post : Int32 → V → Prop}  {f1 : Int32} {f2 : Int32} {k0 : Int32 → Int32 → V → Prop} {x3 y3 : Int32} {x4 y4 : Int32} {v v' : V} (hs : ∀ rec : Int32 → Int32 → V → Prop, sb_X7_askedBy_5 post f1 f2 k0 rec x3 x4 v = rec y3 y4 v') : (∃ n, sl_X7_askedBy_5 post f1 f2 k0 n x3 x4 v) = (∃ n, sl_X7_askedBy_5 post f1 f2 k0 n y3 y4 v') :=
  ex_step (F := fun n (a : Int32 × Int32 × V) => sl_X7_askedBy_5 post f1 f2 k0 n a.1 a.2.1 a.2.2) (a := (x3, x4, v)) (a' := (y3, y4, v')) (fun _ h => h) (fun n => hs (sl_X7_askedBy_5 post f1 f2 k0 n))
theorem xo_X7_askedBy_5 {post : Int32 → V → Prop}  {f1 : Int32} {f2 : Int32} {k0 : Int32 → Int32 → V → Prop} {x3 : Int32} {x4 : Int32} {v : V} {P : Prop} (hs : ∀ rec : Int32 → Int32 → V → Prop, sb_X7_askedBy_5 post f1 f2 k0 rec x3 x4 v = P) : (∃ n, sl_X7_askedBy_5 post f1 f2 k0 n x3 x4 v) = P :=
  ex_out (F := fun n (a : Int32 × Int32 × V) => sl_X7_askedBy_5 post f1 f2 k0 n a.1 a.2.1 a.2.2) (a := (x3, x4, v)) (fun _ h => h) (fun n => hs (sl_X7_askedBy_5 post f1 f2 k0 n))

theorem xs_X7_stonesOf_4 {post : Int32 → V → Prop}  {f1 : Int32} {k0 : Int32 → Int32 → V → Prop} {x2 y2 : Int32} {x3 y3 : Int32} {v v' : V} (hs : ∀ rec : Int32 → Int32 → V → Prop, sb_X7_stonesOf_4 post f1 k0 rec x2 x3 v = rec y2 y3 v') : (∃ n, sl_X7_stonesOf_4 post f1 k0 n x2 x3 v) = (∃ n, sl_X7_stonesOf_4 post f1 k0 n y2 y3 v') :=
  ex_step (F := fun n (a : Int32 × Int32 × V) => sl_X7_stonesOf_4 post f1 k0 n a.1 a.2.1 a.2.2) (a := (x2, x3, v)) (a' := (y2, y3, v')) (fun _ h => h) (fun n => hs (sl_X7_stonesOf_4 post f1 k0 n))
theorem xo_X7_stonesOf_4 {post : Int32 → V → Prop}  {f1 : Int32} {k0 : Int32 → Int32 → V → Prop} {x2 : Int32} {x3 : Int32} {v : V} {P : Prop} (hs : ∀ rec : Int32 → Int32 → V → Prop, sb_X7_stonesOf_4 post f1 k0 rec x2 x3 v = P) : (∃ n, sl_X7_stonesOf_4 post f1 k0 n x2 x3 v) = P :=
  ex_out (F := fun n (a : Int32 × Int32 × V) => sl_X7_stonesOf_4 post f1 k0 n a.1 a.2.1 a.2.2) (a := (x2, x3, v)) (fun _ h => h) (fun n => hs (sl_X7_stonesOf_4 post f1 k0 n))

theorem xs_X7_openMemos_4 {post : Int32 → V → Prop}   {k0 : Int32 → Int32 → V → Prop} {x1 y1 : Int32} {x2 y2 : Int32} {v v' : V} (hs : ∀ rec : Int32 → Int32 → V → Prop, sb_X7_openMemos_4 post k0 rec x1 x2 v = rec y1 y2 v') : (∃ n, sl_X7_openMemos_4 post k0 n x1 x2 v) = (∃ n, sl_X7_openMemos_4 post k0 n y1 y2 v') :=
  ex_step (F := fun n (a : Int32 × Int32 × V) => sl_X7_openMemos_4 post k0 n a.1 a.2.1 a.2.2) (a := (x1, x2, v)) (a' := (y1, y2, v')) (fun _ h => h) (fun n => hs (sl_X7_openMemos_4 post k0 n))
theorem xo_X7_openMemos_4 {post : Int32 → V → Prop}   {k0 : Int32 → Int32 → V → Prop} {x1 : Int32} {x2 : Int32} {v : V} {P : Prop} (hs : ∀ rec : Int32 → Int32 → V → Prop, sb_X7_openMemos_4 post k0 rec x1 x2 v = P) : (∃ n, sl_X7_openMemos_4 post k0 n x1 x2 v) = P :=
  ex_out (F := fun n (a : Int32 × Int32 × V) => sl_X7_openMemos_4 post k0 n a.1 a.2.1 a.2.2) (a := (x1, x2, v)) (fun _ h => h) (fun n => hs (sl_X7_openMemos_4 post k0 n))

theorem xs_X7_balances_4 {post : Int32 → V → Prop}   {k0 : Int32 → Int32 → V → Prop} {x1 y1 : Int32} {x2 y2 : Int32} {v v' : V} (hs : ∀ rec : Int32 → Int32 → V → Prop, sb_X7_balances_4 post k0 rec x1 x2 v = rec y1 y2 v') : (∃ n, sl_X7_balances_4 post k0 n x1 x2 v) = (∃ n, sl_X7_balances_4 post k0 n y1 y2 v') :=
  ex_step (F := fun n (a : Int32 × Int32 × V) => sl_X7_balances_4 post k0 n a.1 a.2.1 a.2.2) (a := (x1, x2, v)) (a' := (y1, y2, v')) (fun _ h => h) (fun n => hs (sl_X7_balances_4 post k0 n))
theorem xo_X7_balances_4 {post : Int32 → V → Prop}   {k0 : Int32 → Int32 → V → Prop} {x1 : Int32} {x2 : Int32} {v : V} {P : Prop} (hs : ∀ rec : Int32 → Int32 → V → Prop, sb_X7_balances_4 post k0 rec x1 x2 v = P) : (∃ n, sl_X7_balances_4 post k0 n x1 x2 v) = P :=
  ex_out (F := fun n (a : Int32 × Int32 × V) => sl_X7_balances_4 post k0 n a.1 a.2.1 a.2.2) (a := (x1, x2, v)) (fun _ h => h) (fun n => hs (sl_X7_balances_4 post k0 n))

theorem xs_X7_best_26 {post : Int32 → V → Prop}  {f1 : Int32} {f2 : Int32} {k0 : Int32 → Int32 → V → Prop} {x3 y3 : Int32} {x4 y4 : Int32} {v v' : V} (hs : ∀ rec : Int32 → Int32 → V → Prop, sb_X7_best_26 post f1 f2 k0 rec x3 x4 v = rec y3 y4 v') : (∃ n, sl_X7_best_26 post f1 f2 k0 n x3 x4 v) = (∃ n, sl_X7_best_26 post f1 f2 k0 n y3 y4 v') :=
  ex_step (F := fun n (a : Int32 × Int32 × V) => sl_X7_best_26 post f1 f2 k0 n a.1 a.2.1 a.2.2) (a := (x3, x4, v)) (a' := (y3, y4, v')) (fun _ h => h) (fun n => hs (sl_X7_best_26 post f1 f2 k0 n))
theorem xo_X7_best_26 {post : Int32 → V → Prop}  {f1 : Int32} {f2 : Int32} {k0 : Int32 → Int32 → V → Prop} {x3 : Int32} {x4 : Int32} {v : V} {P : Prop} (hs : ∀ rec : Int32 → Int32 → V → Prop, sb_X7_best_26 post f1 f2 k0 rec x3 x4 v = P) : (∃ n, sl_X7_best_26 post f1 f2 k0 n x3 x4 v) = P :=
  ex_out (F := fun n (a : Int32 × Int32 × V) => sl_X7_best_26 post f1 f2 k0 n a.1 a.2.1 a.2.2) (a := (x3, x4, v)) (fun _ h => h) (fun n => hs (sl_X7_best_26 post f1 f2 k0 n))

theorem xs_X7_pair_28 {post : Int32 → V → Prop}  {f1 : Int32} {f2 : Int32} {k0 : Int32 → Int32 → Int32 → V → Prop} {x3 y3 : Int32} {x4 y4 : Int32} {x5 y5 : Int32} {v v' : V} (hs : ∀ rec : Int32 → Int32 → Int32 → V → Prop, sb_X7_pair_28 post f1 f2 k0 rec x3 x4 x5 v = rec y3 y4 y5 v') : (∃ n, sl_X7_pair_28 post f1 f2 k0 n x3 x4 x5 v) = (∃ n, sl_X7_pair_28 post f1 f2 k0 n y3 y4 y5 v') :=
  ex_step (F := fun n (a : Int32 × Int32 × Int32 × V) => sl_X7_pair_28 post f1 f2 k0 n a.1 a.2.1 a.2.2.1 a.2.2.2) (a := (x3, x4, x5, v)) (a' := (y3, y4, y5, v')) (fun _ h => h) (fun n => hs (sl_X7_pair_28 post f1 f2 k0 n))
theorem xo_X7_pair_28 {post : Int32 → V → Prop}  {f1 : Int32} {f2 : Int32} {k0 : Int32 → Int32 → Int32 → V → Prop} {x3 : Int32} {x4 : Int32} {x5 : Int32} {v : V} {P : Prop} (hs : ∀ rec : Int32 → Int32 → Int32 → V → Prop, sb_X7_pair_28 post f1 f2 k0 rec x3 x4 x5 v = P) : (∃ n, sl_X7_pair_28 post f1 f2 k0 n x3 x4 x5 v) = P :=
  ex_out (F := fun n (a : Int32 × Int32 × Int32 × V) => sl_X7_pair_28 post f1 f2 k0 n a.1 a.2.1 a.2.2.1 a.2.2.2) (a := (x3, x4, x5, v)) (fun _ h => h) (fun n => hs (sl_X7_pair_28 post f1 f2 k0 n))

theorem xs_X7_grades_45 {post : Int32 → V → Prop}  {f1 : Int32} {f2 : Int32} {f3 : Int32} {k0 : Int32 → Int32 → V → Prop} {x4 y4 : Int32} {x5 y5 : Int32} {v v' : V} (hs : ∀ rec : Int32 → Int32 → V → Prop, sb_X7_grades_45 post f1 f2 f3 k0 rec x4 x5 v = rec y4 y5 v') : (∃ n, sl_X7_grades_45 post f1 f2 f3 k0 n x4 x5 v) = (∃ n, sl_X7_grades_45 post f1 f2 f3 k0 n y4 y5 v') :=
  ex_step (F := fun n (a : Int32 × Int32 × V) => sl_X7_grades_45 post f1 f2 f3 k0 n a.1 a.2.1 a.2.2) (a := (x4, x5, v)) (a' := (y4, y5, v')) (fun _ h => h) (fun n => hs (sl_X7_grades_45 post f1 f2 f3 k0 n))
theorem xo_X7_grades_45 {post : Int32 → V → Prop}  {f1 : Int32} {f2 : Int32} {f3 : Int32} {k0 : Int32 → Int32 → V → Prop} {x4 : Int32} {x5 : Int32} {v : V} {P : Prop} (hs : ∀ rec : Int32 → Int32 → V → Prop, sb_X7_grades_45 post f1 f2 f3 k0 rec x4 x5 v = P) : (∃ n, sl_X7_grades_45 post f1 f2 f3 k0 n x4 x5 v) = P :=
  ex_out (F := fun n (a : Int32 × Int32 × V) => sl_X7_grades_45 post f1 f2 f3 k0 n a.1 a.2.1 a.2.2) (a := (x4, x5, v)) (fun _ h => h) (fun n => hs (sl_X7_grades_45 post f1 f2 f3 k0 n))

theorem xs_X7_grades_15 {post : Int32 → V → Prop}  {f1 : Int32} {k0 : Int32 → Int32 → V → Prop} {x2 y2 : Int32} {x3 y3 : Int32} {v v' : V} (hs : ∀ rec : Int32 → Int32 → V → Prop, sb_X7_grades_15 post f1 k0 rec x2 x3 v = rec y2 y3 v') : (∃ n, sl_X7_grades_15 post f1 k0 n x2 x3 v) = (∃ n, sl_X7_grades_15 post f1 k0 n y2 y3 v') :=
  ex_step (F := fun n (a : Int32 × Int32 × V) => sl_X7_grades_15 post f1 k0 n a.1 a.2.1 a.2.2) (a := (x2, x3, v)) (a' := (y2, y3, v')) (fun _ h => h) (fun n => hs (sl_X7_grades_15 post f1 k0 n))
theorem xo_X7_grades_15 {post : Int32 → V → Prop}  {f1 : Int32} {k0 : Int32 → Int32 → V → Prop} {x2 : Int32} {x3 : Int32} {v : V} {P : Prop} (hs : ∀ rec : Int32 → Int32 → V → Prop, sb_X7_grades_15 post f1 k0 rec x2 x3 v = P) : (∃ n, sl_X7_grades_15 post f1 k0 n x2 x3 v) = P :=
  ex_out (F := fun n (a : Int32 × Int32 × V) => sl_X7_grades_15 post f1 k0 n a.1 a.2.1 a.2.2) (a := (x2, x3, v)) (fun _ h => h) (fun n => hs (sl_X7_grades_15 post f1 k0 n))

theorem xs_X7_mark_2 {post : Int32 → V → Prop}   {k0 : Int32 → V → Prop} {x1 y1 : Int32} {v v' : V} (hs : ∀ rec : Int32 → V → Prop, sb_X7_mark_2 post k0 rec x1 v = rec y1 v') : (∃ n, sl_X7_mark_2 post k0 n x1 v) = (∃ n, sl_X7_mark_2 post k0 n y1 v') :=
  ex_step (F := fun n (a : Int32 × V) => sl_X7_mark_2 post k0 n a.1 a.2) (a := (x1, v)) (a' := (y1, v')) (fun _ h => h) (fun n => hs (sl_X7_mark_2 post k0 n))
theorem xo_X7_mark_2 {post : Int32 → V → Prop}   {k0 : Int32 → V → Prop} {x1 : Int32} {v : V} {P : Prop} (hs : ∀ rec : Int32 → V → Prop, sb_X7_mark_2 post k0 rec x1 v = P) : (∃ n, sl_X7_mark_2 post k0 n x1 v) = P :=
  ex_out (F := fun n (a : Int32 × V) => sl_X7_mark_2 post k0 n a.1 a.2) (a := (x1, v)) (fun _ h => h) (fun n => hs (sl_X7_mark_2 post k0 n))

theorem xs_X7_restore_16 {post : Int32 → V → Prop}   {k0 : Int32 → V → Prop} {x1 y1 : Int32} {v v' : V} (hs : ∀ rec : Int32 → V → Prop, sb_X7_restore_16 post k0 rec x1 v = rec y1 v') : (∃ n, sl_X7_restore_16 post k0 n x1 v) = (∃ n, sl_X7_restore_16 post k0 n y1 v') :=
  ex_step (F := fun n (a : Int32 × V) => sl_X7_restore_16 post k0 n a.1 a.2) (a := (x1, v)) (a' := (y1, v')) (fun _ h => h) (fun n => hs (sl_X7_restore_16 post k0 n))
theorem xo_X7_restore_16 {post : Int32 → V → Prop}   {k0 : Int32 → V → Prop} {x1 : Int32} {v : V} {P : Prop} (hs : ∀ rec : Int32 → V → Prop, sb_X7_restore_16 post k0 rec x1 v = P) : (∃ n, sl_X7_restore_16 post k0 n x1 v) = P :=
  ex_out (F := fun n (a : Int32 × V) => sl_X7_restore_16 post k0 n a.1 a.2) (a := (x1, v)) (fun _ h => h) (fun n => hs (sl_X7_restore_16 post k0 n))

theorem xs_X7_undo_22 {post : Int32 → V → Prop}   {k0 : Int32 → V → Prop} {x1 y1 : Int32} {v v' : V} (hs : ∀ rec : Int32 → V → Prop, sb_X7_undo_22 post k0 rec x1 v = rec y1 v') : (∃ n, sl_X7_undo_22 post k0 n x1 v) = (∃ n, sl_X7_undo_22 post k0 n y1 v') :=
  ex_step (F := fun n (a : Int32 × V) => sl_X7_undo_22 post k0 n a.1 a.2) (a := (x1, v)) (a' := (y1, v')) (fun _ h => h) (fun n => hs (sl_X7_undo_22 post k0 n))
theorem xo_X7_undo_22 {post : Int32 → V → Prop}   {k0 : Int32 → V → Prop} {x1 : Int32} {v : V} {P : Prop} (hs : ∀ rec : Int32 → V → Prop, sb_X7_undo_22 post k0 rec x1 v = P) : (∃ n, sl_X7_undo_22 post k0 n x1 v) = P :=
  ex_out (F := fun n (a : Int32 × V) => sl_X7_undo_22 post k0 n a.1 a.2) (a := (x1, v)) (fun _ h => h) (fun n => hs (sl_X7_undo_22 post k0 n))

theorem xs_X7_number_27 {post : Int32 → V → Prop}   {k0 : Int32 → Int32 → V → Prop} {x1 y1 : Int32} {x2 y2 : Int32} {v v' : V} (hs : ∀ rec : Int32 → Int32 → V → Prop, sb_X7_number_27 post k0 rec x1 x2 v = rec y1 y2 v') : (∃ n, sl_X7_number_27 post k0 n x1 x2 v) = (∃ n, sl_X7_number_27 post k0 n y1 y2 v') :=
  ex_step (F := fun n (a : Int32 × Int32 × V) => sl_X7_number_27 post k0 n a.1 a.2.1 a.2.2) (a := (x1, x2, v)) (a' := (y1, y2, v')) (fun _ h => h) (fun n => hs (sl_X7_number_27 post k0 n))
theorem xo_X7_number_27 {post : Int32 → V → Prop}   {k0 : Int32 → Int32 → V → Prop} {x1 : Int32} {x2 : Int32} {v : V} {P : Prop} (hs : ∀ rec : Int32 → Int32 → V → Prop, sb_X7_number_27 post k0 rec x1 x2 v = P) : (∃ n, sl_X7_number_27 post k0 n x1 x2 v) = P :=
  ex_out (F := fun n (a : Int32 × Int32 × V) => sl_X7_number_27 post k0 n a.1 a.2.1 a.2.2) (a := (x1, x2, v)) (fun _ h => h) (fun n => hs (sl_X7_number_27 post k0 n))

theorem xs_X7_word_4 {post : Int32 → V → Prop}   {k0 : Int32 → Int32 → V → Prop} {x1 y1 : Int32} {x2 y2 : Int32} {v v' : V} (hs : ∀ rec : Int32 → Int32 → V → Prop, sb_X7_word_4 post k0 rec x1 x2 v = rec y1 y2 v') : (∃ n, sl_X7_word_4 post k0 n x1 x2 v) = (∃ n, sl_X7_word_4 post k0 n y1 y2 v') :=
  ex_step (F := fun n (a : Int32 × Int32 × V) => sl_X7_word_4 post k0 n a.1 a.2.1 a.2.2) (a := (x1, x2, v)) (a' := (y1, y2, v')) (fun _ h => h) (fun n => hs (sl_X7_word_4 post k0 n))
theorem xo_X7_word_4 {post : Int32 → V → Prop}   {k0 : Int32 → Int32 → V → Prop} {x1 : Int32} {x2 : Int32} {v : V} {P : Prop} (hs : ∀ rec : Int32 → Int32 → V → Prop, sb_X7_word_4 post k0 rec x1 x2 v = P) : (∃ n, sl_X7_word_4 post k0 n x1 x2 v) = P :=
  ex_out (F := fun n (a : Int32 × Int32 × V) => sl_X7_word_4 post k0 n a.1 a.2.1 a.2.2) (a := (x1, x2, v)) (fun _ h => h) (fun n => hs (sl_X7_word_4 post k0 n))

theorem xs_X7_does_49 {post : Int32 → V → Prop}  {f1 : Int32} {f2 : Int32} {k0 : Int32 → V → Prop} {x3 y3 : Int32} {v v' : V} (hs : ∀ rec : Int32 → V → Prop, sb_X7_does_49 post f1 f2 k0 rec x3 v = rec y3 v') : (∃ n, sl_X7_does_49 post f1 f2 k0 n x3 v) = (∃ n, sl_X7_does_49 post f1 f2 k0 n y3 v') :=
  ex_step (F := fun n (a : Int32 × V) => sl_X7_does_49 post f1 f2 k0 n a.1 a.2) (a := (x3, v)) (a' := (y3, v')) (fun _ h => h) (fun n => hs (sl_X7_does_49 post f1 f2 k0 n))
theorem xo_X7_does_49 {post : Int32 → V → Prop}  {f1 : Int32} {f2 : Int32} {k0 : Int32 → V → Prop} {x3 : Int32} {v : V} {P : Prop} (hs : ∀ rec : Int32 → V → Prop, sb_X7_does_49 post f1 f2 k0 rec x3 v = P) : (∃ n, sl_X7_does_49 post f1 f2 k0 n x3 v) = P :=
  ex_out (F := fun n (a : Int32 × V) => sl_X7_does_49 post f1 f2 k0 n a.1 a.2) (a := (x3, v)) (fun _ h => h) (fun n => hs (sl_X7_does_49 post f1 f2 k0 n))

theorem xs_X7_does_10 {post : Int32 → V → Prop}   {k0 : V → Prop}  {v v' : V} (hs : ∀ rec : V → Prop, sb_X7_does_10 post k0 rec v = rec v') : (∃ n, sl_X7_does_10 post k0 n v) = (∃ n, sl_X7_does_10 post k0 n v') :=
  ex_step (F := fun n (a : V) => sl_X7_does_10 post k0 n a) (a := (v)) (a' := (v')) (fun _ h => h) (fun n => hs (sl_X7_does_10 post k0 n))
theorem xo_X7_does_10 {post : Int32 → V → Prop}   {k0 : V → Prop}  {v : V} {P : Prop} (hs : ∀ rec : V → Prop, sb_X7_does_10 post k0 rec v = P) : (∃ n, sl_X7_does_10 post k0 n v) = P :=
  ex_out (F := fun n (a : V) => sl_X7_does_10 post k0 n a) (a := (v)) (fun _ h => h) (fun n => hs (sl_X7_does_10 post k0 n))
