section
-- ===== PART A: goes FIRST, ahead of the names: the tables' words, and 'selects' of the private methods out of them =====
/-- a private method of a class that the tables say can be made, by its rows of tables_1 -/
def lw_okq (q : MethodName × Nat) : Prop := (q.1.cls ≠ "java/lang/invoke/MethodHandle" ∧ q.1.cls ≠ "java/lang/invoke/VarHandle") ∧ Cond.instantiable q.1.cls q.2 ∈ tables_1 ∧ Cond.privateMethod q.1 ∈ tables_1 ∧ Cond.instanceMethod q.1 ∈ tables_1
theorem lw_p0 : lw_okq (⟨"GemMemos", "recorded", "(I)I"⟩, 7) := ⟨⟨by decide +kernel, by decide +kernel⟩, List.mem_of_getElem? (i := 16) (by decide +kernel), List.mem_of_getElem? (i := 267) (by decide +kernel), List.mem_of_getElem? (i := 268) (by decide +kernel)⟩
theorem lw_p1 : lw_okq (⟨"GemMemos$Prices", "isEntryOf", "(IIII)Z"⟩, 4) := ⟨⟨by decide +kernel, by decide +kernel⟩, List.mem_of_getElem? (i := 30) (by decide +kernel), List.mem_of_getElem? (i := 315) (by decide +kernel), List.mem_of_getElem? (i := 316) (by decide +kernel)⟩
theorem lw_p2 : lw_okq (⟨"GemMemos$Market", "countOpen", "()I"⟩, 9) := ⟨⟨by decide +kernel, by decide +kernel⟩, List.mem_of_getElem? (i := 24) (by decide +kernel), List.mem_of_getElem? (i := 351) (by decide +kernel), List.mem_of_getElem? (i := 352) (by decide +kernel)⟩
theorem lw_p3 : lw_okq (⟨"GemMemos$Market", "isOpen", "(I)Z"⟩, 9) := ⟨⟨by decide +kernel, by decide +kernel⟩, List.mem_of_getElem? (i := 24) (by decide +kernel), List.mem_of_getElem? (i := 355) (by decide +kernel), List.mem_of_getElem? (i := 356) (by decide +kernel)⟩
theorem lw_p4 : lw_okq (⟨"GemMemos$Market", "sumOfBalances", "()I"⟩, 9) := ⟨⟨by decide +kernel, by decide +kernel⟩, List.mem_of_getElem? (i := 24) (by decide +kernel), List.mem_of_getElem? (i := 367) (by decide +kernel), List.mem_of_getElem? (i := 368) (by decide +kernel)⟩
theorem lw_p5 : lw_okq (⟨"GemMemos$Market", "priceOf", "(I)I"⟩, 9) := ⟨⟨by decide +kernel, by decide +kernel⟩, List.mem_of_getElem? (i := 24) (by decide +kernel), List.mem_of_getElem? (i := 417) (by decide +kernel), List.mem_of_getElem? (i := 418) (by decide +kernel)⟩
theorem lw_p6 : lw_okq (⟨"GemMemos$Market", "worthOf", "(I)I"⟩, 9) := ⟨⟨by decide +kernel, by decide +kernel⟩, List.mem_of_getElem? (i := 24) (by decide +kernel), List.mem_of_getElem? (i := 435) (by decide +kernel), List.mem_of_getElem? (i := 436) (by decide +kernel)⟩
theorem lw_p7 : lw_okq (⟨"GemMemos$Stones", "hasLikeBefore", "(II)Z"⟩, 10) := ⟨⟨by decide +kernel, by decide +kernel⟩, List.mem_of_getElem? (i := 50) (by decide +kernel), List.mem_of_getElem? (i := 477) (by decide +kernel), List.mem_of_getElem? (i := 478) (by decide +kernel)⟩
theorem lw_p8 : lw_okq (⟨"GemMemos$Stones", "sameGrade", "(II)Z"⟩, 10) := ⟨⟨by decide +kernel, by decide +kernel⟩, List.mem_of_getElem? (i := 50) (by decide +kernel), List.mem_of_getElem? (i := 481) (by decide +kernel), List.mem_of_getElem? (i := 482) (by decide +kernel)⟩
theorem lw_p9 : lw_okq (⟨"GemMemos$Market", "canLend", "(II)Z"⟩, 9) := ⟨⟨by decide +kernel, by decide +kernel⟩, List.mem_of_getElem? (i := 24) (by decide +kernel), List.mem_of_getElem? (i := 510) (by decide +kernel), List.mem_of_getElem? (i := 511) (by decide +kernel)⟩
theorem lw_p10 : lw_okq (⟨"GemMemos$Market", "keepFor", "(II)V"⟩, 9) := ⟨⟨by decide +kernel, by decide +kernel⟩, List.mem_of_getElem? (i := 24) (by decide +kernel), List.mem_of_getElem? (i := 541) (by decide +kernel), List.mem_of_getElem? (i := 542) (by decide +kernel)⟩
theorem lw_p11 : lw_okq (⟨"GemMemos$Market", "keepLateOnes", "()I"⟩, 9) := ⟨⟨by decide +kernel, by decide +kernel⟩, List.mem_of_getElem? (i := 24) (by decide +kernel), List.mem_of_getElem? (i := 570) (by decide +kernel), List.mem_of_getElem? (i := 571) (by decide +kernel)⟩
theorem lw_p12 : lw_okq (⟨"GemMemos$Script", "readCommand", "(I)Z"⟩, 8) := ⟨⟨by decide +kernel, by decide +kernel⟩, List.mem_of_getElem? (i := 181) (by decide +kernel), List.mem_of_getElem? (i := 623) (by decide +kernel), List.mem_of_getElem? (i := 624) (by decide +kernel)⟩
theorem lw_p13 : lw_okq (⟨"GemMemos$Script", "isWordAt", "(ILjava/lang/String;)Z"⟩, 8) := ⟨⟨by decide +kernel, by decide +kernel⟩, List.mem_of_getElem? (i := 181) (by decide +kernel), List.mem_of_getElem? (i := 637) (by decide +kernel), List.mem_of_getElem? (i := 638) (by decide +kernel)⟩
theorem lw_p14 : lw_okq (⟨"GemMemos$Script", "signAt", "(I)C"⟩, 8) := ⟨⟨by decide +kernel, by decide +kernel⟩, List.mem_of_getElem? (i := 181) (by decide +kernel), List.mem_of_getElem? (i := 651) (by decide +kernel), List.mem_of_getElem? (i := 652) (by decide +kernel)⟩
theorem lw_p15 : lw_okq (⟨"GemMemos$Script", "readNumbers", "(II)Z"⟩, 8) := ⟨⟨by decide +kernel, by decide +kernel⟩, List.mem_of_getElem? (i := 181) (by decide +kernel), List.mem_of_getElem? (i := 696) (by decide +kernel), List.mem_of_getElem? (i := 697) (by decide +kernel)⟩
def lw_privs_1 : List (MethodName × Nat) := [(⟨"GemMemos", "recorded", "(I)I"⟩, 7), (⟨"GemMemos$Prices", "isEntryOf", "(IIII)Z"⟩, 4), (⟨"GemMemos$Market", "countOpen", "()I"⟩, 9), (⟨"GemMemos$Market", "isOpen", "(I)Z"⟩, 9), (⟨"GemMemos$Market", "sumOfBalances", "()I"⟩, 9), (⟨"GemMemos$Market", "priceOf", "(I)I"⟩, 9), (⟨"GemMemos$Market", "worthOf", "(I)I"⟩, 9), (⟨"GemMemos$Stones", "hasLikeBefore", "(II)Z"⟩, 10), (⟨"GemMemos$Stones", "sameGrade", "(II)Z"⟩, 10), (⟨"GemMemos$Market", "canLend", "(II)Z"⟩, 9), (⟨"GemMemos$Market", "keepFor", "(II)V"⟩, 9), (⟨"GemMemos$Market", "keepLateOnes", "()I"⟩, 9), (⟨"GemMemos$Script", "readCommand", "(I)Z"⟩, 8), (⟨"GemMemos$Script", "isWordAt", "(ILjava/lang/String;)Z"⟩, 8), (⟨"GemMemos$Script", "signAt", "(I)C"⟩, 8), (⟨"GemMemos$Script", "readNumbers", "(II)Z"⟩, 8)]
theorem lw_r1 : ∀ q ∈ lw_privs_1, lw_okq q := List.forall_mem_cons.mpr ⟨lw_p0, List.forall_mem_cons.mpr ⟨lw_p1, List.forall_mem_cons.mpr ⟨lw_p2, List.forall_mem_cons.mpr ⟨lw_p3, List.forall_mem_cons.mpr ⟨lw_p4, List.forall_mem_cons.mpr ⟨lw_p5, List.forall_mem_cons.mpr ⟨lw_p6, List.forall_mem_cons.mpr ⟨lw_p7, List.forall_mem_cons.mpr ⟨lw_p8, List.forall_mem_cons.mpr ⟨lw_p9, List.forall_mem_cons.mpr ⟨lw_p10, List.forall_mem_cons.mpr ⟨lw_p11, List.forall_mem_cons.mpr ⟨lw_p12, List.forall_mem_cons.mpr ⟨lw_p13, List.forall_mem_cons.mpr ⟨lw_p14, List.forall_mem_cons.mpr ⟨lw_p15, fun _ h => absurd h List.not_mem_nil⟩⟩⟩⟩⟩⟩⟩⟩⟩⟩⟩⟩⟩⟩⟩⟩
theorem lw_p16 : lw_okq (⟨"GemMemos$Script", "digitsAt", "(I)I"⟩, 8) := ⟨⟨by decide +kernel, by decide +kernel⟩, List.mem_of_getElem? (i := 181) (by decide +kernel), List.mem_of_getElem? (i := 700) (by decide +kernel), List.mem_of_getElem? (i := 701) (by decide +kernel)⟩
theorem lw_p17 : lw_okq (⟨"GemMemos$Script", "valueAt", "(II)I"⟩, 8) := ⟨⟨by decide +kernel, by decide +kernel⟩, List.mem_of_getElem? (i := 181) (by decide +kernel), List.mem_of_getElem? (i := 707) (by decide +kernel), List.mem_of_getElem? (i := 708) (by decide +kernel)⟩
theorem lw_p18 : lw_okq (⟨"GemMemos$Script", "putFault", "(III)V"⟩, 8) := ⟨⟨by decide +kernel, by decide +kernel⟩, List.mem_of_getElem? (i := 181) (by decide +kernel), List.mem_of_getElem? (i := 712) (by decide +kernel), List.mem_of_getElem? (i := 713) (by decide +kernel)⟩
theorem lw_p19 : lw_okq (⟨"GemMemos$Script", "perform", "(LGemMemos$Market;)I"⟩, 8) := ⟨⟨by decide +kernel, by decide +kernel⟩, List.mem_of_getElem? (i := 181) (by decide +kernel), List.mem_of_getElem? (i := 716) (by decide +kernel), List.mem_of_getElem? (i := 717) (by decide +kernel)⟩
def lw_privs_2 : List (MethodName × Nat) := [(⟨"GemMemos$Script", "digitsAt", "(I)I"⟩, 8), (⟨"GemMemos$Script", "valueAt", "(II)I"⟩, 8), (⟨"GemMemos$Script", "putFault", "(III)V"⟩, 8), (⟨"GemMemos$Script", "perform", "(LGemMemos$Market;)I"⟩, 8)]
theorem lw_r2 : ∀ q ∈ lw_privs_2, lw_okq q := List.forall_mem_cons.mpr ⟨lw_p16, List.forall_mem_cons.mpr ⟨lw_p17, List.forall_mem_cons.mpr ⟨lw_p18, List.forall_mem_cons.mpr ⟨lw_p19, fun _ h => absurd h List.not_mem_nil⟩⟩⟩⟩
def lw_privs : List (MethodName × Nat) := lw_privs_1 ++ (lw_privs_2)
def lw_tbl : List Cond := k2_sels lw_privs ++ tables_1
theorem lw_privs_ok : ∀ q ∈ lw_privs, lw_okq q := by
  show ∀ q ∈ lw_privs_1 ++ (lw_privs_2), lw_okq q
  exact List.forall_mem_append.mpr ⟨lw_r1, lw_r2⟩
-- ===== end of PART A; then your names; then what follows =====
end
section
/-! ===== BEGIN words of one list among another's, by their places ===== -/
theorem goodIn_r {big : List Cond} (ws : List Cond) (ps : List Nat) (hp : ws = ps.filterMap (fun i => big[i]?)) (h : ws.all goodWord = true) : GoodIn big ws := by
  intro w hw
  have h1 := List.all_eq_true.mp h w hw
  rw [hp] at hw
  obtain ⟨i, -, hi⟩ := List.mem_filterMap.mp hw
  have hm : w ∈ big := by first | exact List.mem_of_getElem? hi | exact List.getElem?_mem hi
  exact ⟨hm, good_of_word h1⟩
theorem goodIn_app {big a b : List Cond} (ha : GoodIn big a) (hb : GoodIn big b) : GoodIn big (a ++ b) := fun w h => (List.mem_append.mp h).elim (ha w) (hb w)
theorem goodIn_ca {big a b : List Cond} {c : Cond} (ha : GoodIn big (c :: a)) (hb : GoodIn big b) : GoodIn big (c :: (a ++ b)) := fun w h => (List.mem_cons.mp h).elim (fun e => ha w (List.mem_cons.mpr (Or.inl e))) (fun h => (List.mem_append.mp h).elim (fun h => ha w (List.mem_cons.mpr (Or.inr h))) (hb w))
theorem goodIn_sub {big ws : List Cond} (hm : ∀ w ∈ ws, w ∈ big) (h : ws.all goodWord = true) : GoodIn big ws := fun w hw => ⟨hm w hw, good_of_word (List.all_eq_true.mp h w hw)⟩
/-! ===== END ===== -/

/-! ===== BEGIN printed: names, fields, word lists, decode rows ===== -/
def RX0 : String := "GemMemos$History"
def TX0 : u_T := fun k => match k with
  | 0 => ("GemMemos$History", "states", "[LGemMemos$Market;", true)
  | 1 => ("GemMemos$History", "oldest", "I", false)
  | _ => ("GemMemos$History", "size", "I", false)
def tyX0 : Nat → FieldType := fun k => match k with
  | 0 => .array (.object "GemMemos$Market")
  | 1 => .int
  | _ => .int
abbrev wsX00 : List Cond := u_ws RX0 TX0 3
theorem nmX0 : ∀ a, a < 3 → ∀ b, b < 3 → a ≠ b → (TX0 a).2.1 ≠ (TX0 b).2.1 := by decide +kernel
theorem tyX0_ok : ∀ k, k < 3 → parseFieldDescriptor (TX0 k).2.2.1 = some (tyX0 k) := by decide +kernel
abbrev cX0_init : ByteArray := prog_2_method_1_code
def yX0_init : MethodName := ⟨RX0, "<init>", "()V"⟩
abbrev cX0_push : ByteArray := prog_2_method_2_code
def yX0_push : MethodName := ⟨RX0, "push", "(LGemMemos$Market;)V"⟩
abbrev cX0_popInto : ByteArray := prog_2_method_3_code
def yX0_popInto : MethodName := ⟨RX0, "popInto", "(LGemMemos$Market;)V"⟩
def RX1 : String := "GemMemos$Market"
def TX1 : u_T := fun k => match k with
  | 0 => ("GemMemos$Market", "prices", "LGemMemos$Prices;", true)
  | 1 => ("GemMemos$Market", "stones", "LGemMemos$Stones;", true)
  | 2 => ("GemMemos$Market", "memos", "LGemMemos$Memos;", true)
  | 3 => ("GemMemos$Market", "balances", "[I", true)
  | 4 => ("GemMemos$Market", "dealers", "I", false)
  | 5 => ("GemMemos$Market", "time", "I", false)
  | 6 => ("GemMemos$Market", "grace", "I", false)
  | 7 => ("GemMemos$Market", "extra", "I", false)
  | _ => ("GemMemos$Market", "keptLate", "I", false)
def tyX1 : Nat → FieldType := fun k => match k with
  | 0 => .object "GemMemos$Prices"
  | 1 => .object "GemMemos$Stones"
  | 2 => .object "GemMemos$Memos"
  | 3 => .array .int
  | 4 => .int
  | 5 => .int
  | 6 => .int
  | 7 => .int
  | _ => .int
abbrev wsX10 : List Cond := u_ws RX1 TX1 9
theorem nmX1 : ∀ a, a < 9 → ∀ b, b < 9 → a ≠ b → (TX1 a).2.1 ≠ (TX1 b).2.1 := by decide +kernel
theorem tyX1_ok : ∀ k, k < 9 → parseFieldDescriptor (TX1 k).2.2.1 = some (tyX1 k) := by decide +kernel
abbrev cX1_init : ByteArray := prog_3_method_1_code
def yX1_init : MethodName := ⟨RX1, "<init>", "()V"⟩
abbrev cX1_copyFrom : ByteArray := prog_3_method_2_code
def yX1_copyFrom : MethodName := ⟨RX1, "copyFrom", "(LGemMemos$Market;)V"⟩
abbrev cX1_hasDealer : ByteArray := prog_3_method_3_code
def yX1_hasDealer : MethodName := ⟨RX1, "hasDealer", "(I)Z"⟩
abbrev cX1_addDealer : ByteArray := prog_3_method_4_code
def yX1_addDealer : MethodName := ⟨RX1, "addDealer", "()I"⟩
abbrev cX1_addStone : ByteArray := prog_3_method_5_code
def yX1_addStone : MethodName := ⟨RX1, "addStone", "(IIII)I"⟩
abbrev cX1_putRate : ByteArray := prog_3_method_6_code
def yX1_putRate : MethodName := ⟨RX1, "putRate", "(IIII)I"⟩
abbrev cX1_takeRate : ByteArray := prog_3_method_7_code
def yX1_takeRate : MethodName := ⟨RX1, "takeRate", "(III)I"⟩
abbrev cX1_lendStones : ByteArray := prog_3_method_8_code
def yX1_lendStones : MethodName := ⟨RX1, "lendStones", "(IIII)I"⟩
abbrev cX1_giveBack : ByteArray := prog_3_method_9_code
def yX1_giveBack : MethodName := ⟨RX1, "giveBack", "(I)I"⟩
abbrev cX1_keepStone : ByteArray := prog_3_method_10_code
def yX1_keepStone : MethodName := ⟨RX1, "keepStone", "(I)I"⟩
abbrev cX1_sellStone : ByteArray := prog_3_method_11_code
def yX1_sellStone : MethodName := ⟨RX1, "sellStone", "(II)I"⟩
abbrev cX1_regrade : ByteArray := prog_3_method_12_code
def yX1_regrade : MethodName := ⟨RX1, "regrade", "(III)I"⟩
abbrev cX1_passDays : ByteArray := prog_3_method_13_code
def yX1_passDays : MethodName := ⟨RX1, "passDays", "(I)I"⟩
abbrev cX1_putSetting : ByteArray := prog_3_method_14_code
def yX1_putSetting : MethodName := ⟨RX1, "putSetting", "(II)I"⟩
abbrev cX1_tellStone : ByteArray := prog_3_method_15_code
def yX1_tellStone : MethodName := ⟨RX1, "tellStone", "(II)I"⟩
abbrev cX1_tellDealer : ByteArray := prog_3_method_16_code
def yX1_tellDealer : MethodName := ⟨RX1, "tellDealer", "(II)I"⟩
abbrev cX1_tellMemo : ByteArray := prog_3_method_17_code
def yX1_tellMemo : MethodName := ⟨RX1, "tellMemo", "(II)I"⟩
abbrev cX1_tellNumber : ByteArray := prog_3_method_18_code
def yX1_tellNumber : MethodName := ⟨RX1, "tellNumber", "(I)I"⟩
abbrev cX1_priceOf : ByteArray := prog_3_method_20_code
def yX1_priceOf : MethodName := ⟨RX1, "priceOf", "(I)I"⟩
abbrev cX1_canLend : ByteArray := prog_3_method_21_code
def yX1_canLend : MethodName := ⟨RX1, "canLend", "(II)Z"⟩
abbrev cX1_keepFor : ByteArray := prog_3_method_22_code
def yX1_keepFor : MethodName := ⟨RX1, "keepFor", "(II)V"⟩
abbrev cX1_keepLateOnes : ByteArray := prog_3_method_23_code
def yX1_keepLateOnes : MethodName := ⟨RX1, "keepLateOnes", "()I"⟩
abbrev cX1_worthOf : ByteArray := prog_3_method_24_code
def yX1_worthOf : MethodName := ⟨RX1, "worthOf", "(I)I"⟩
abbrev cX1_isOpen : ByteArray := prog_3_method_25_code
def yX1_isOpen : MethodName := ⟨RX1, "isOpen", "(I)Z"⟩
abbrev cX1_countOpen : ByteArray := prog_3_method_26_code
def yX1_countOpen : MethodName := ⟨RX1, "countOpen", "()I"⟩
abbrev cX1_sumOfBalances : ByteArray := prog_3_method_27_code
def yX1_sumOfBalances : MethodName := ⟨RX1, "sumOfBalances", "()I"⟩
def RX2 : String := "GemMemos$Memos"
def TX2 : u_T := fun k => match k with
  | 0 => ("GemMemos$Memos", "count", "I", false)
  | 1 => ("GemMemos$Memos", "lenders", "[I", true)
  | 2 => ("GemMemos$Memos", "takers", "[I", true)
  | 3 => ("GemMemos$Memos", "lastDays", "[I", true)
  | 4 => ("GemMemos$Memos", "lent", "[I", true)
  | _ => ("GemMemos$Memos", "kept", "[I", true)
def tyX2 : Nat → FieldType := fun k => match k with
  | 0 => .int
  | 1 => .array .int
  | 2 => .array .int
  | 3 => .array .int
  | 4 => .array .int
  | _ => .array .int
abbrev wsX20 : List Cond := u_ws RX2 TX2 6
theorem nmX2 : ∀ a, a < 6 → ∀ b, b < 6 → a ≠ b → (TX2 a).2.1 ≠ (TX2 b).2.1 := by decide +kernel
theorem tyX2_ok : ∀ k, k < 6 → parseFieldDescriptor (TX2 k).2.2.1 = some (tyX2 k) := by decide +kernel
abbrev cX2_init : ByteArray := prog_4_method_1_code
def yX2_init : MethodName := ⟨RX2, "<init>", "()V"⟩
abbrev cX2_has : ByteArray := prog_4_method_2_code
def yX2_has : MethodName := ⟨RX2, "has", "(I)Z"⟩
abbrev cX2_add : ByteArray := prog_4_method_3_code
def yX2_add : MethodName := ⟨RX2, "add", "(IIII)I"⟩
abbrev cX2_copyFrom : ByteArray := prog_4_method_4_code
def yX2_copyFrom : MethodName := ⟨RX2, "copyFrom", "(LGemMemos$Memos;)V"⟩
def RX3 : String := "GemMemos$Prices"
def TX3 : u_T := fun k => match k with
  | 0 => ("GemMemos$Prices", "sieves", "[I", true)
  | 1 => ("GemMemos$Prices", "colours", "[I", true)
  | 2 => ("GemMemos$Prices", "clarities", "[I", true)
  | _ => ("GemMemos$Prices", "coins", "[I", true)
def tyX3 : Nat → FieldType := fun k => match k with
  | 0 => .array .int
  | 1 => .array .int
  | 2 => .array .int
  | _ => .array .int
abbrev wsX30 : List Cond := u_ws RX3 TX3 4
theorem nmX3 : ∀ a, a < 4 → ∀ b, b < 4 → a ≠ b → (TX3 a).2.1 ≠ (TX3 b).2.1 := by decide +kernel
theorem tyX3_ok : ∀ k, k < 4 → parseFieldDescriptor (TX3 k).2.2.1 = some (tyX3 k) := by decide +kernel
abbrev cX3_init : ByteArray := prog_5_method_1_code
def yX3_init : MethodName := ⟨RX3, "<init>", "()V"⟩
abbrev cX3_entries : ByteArray := prog_5_method_2_code
def yX3_entries : MethodName := ⟨RX3, "entries", "()I"⟩
abbrev cX3_ownRate : ByteArray := prog_5_method_3_code
def yX3_ownRate : MethodName := ⟨RX3, "ownRate", "(III)I"⟩
abbrev cX3_rateFor : ByteArray := prog_5_method_4_code
def yX3_rateFor : MethodName := ⟨RX3, "rateFor", "(III)I"⟩
abbrev cX3_change : ByteArray := prog_5_method_5_code
def yX3_change : MethodName := ⟨RX3, "change", "(IIII)V"⟩
abbrev cX3_add : ByteArray := prog_5_method_6_code
def yX3_add : MethodName := ⟨RX3, "add", "(IIII)Z"⟩
abbrev cX3_copyFrom : ByteArray := prog_5_method_7_code
def yX3_copyFrom : MethodName := ⟨RX3, "copyFrom", "(LGemMemos$Prices;)V"⟩
abbrev cX3_isEntryOf : ByteArray := prog_5_method_8_code
def yX3_isEntryOf : MethodName := ⟨RX3, "isEntryOf", "(IIII)Z"⟩
def RX4 : String := "GemMemos$Script"
def TX4 : u_T := fun k => match k with
  | 0 => ("GemMemos$Script", "signs", "[C", true)
  | 1 => ("GemMemos$Script", "length", "I", false)
  | 2 => ("GemMemos$Script", "kind", "I", false)
  | 3 => ("GemMemos$Script", "numbers", "[I", true)
  | 4 => ("GemMemos$Script", "next", "I", false)
  | 5 => ("GemMemos$Script", "faultAt", "I", false)
  | 6 => ("GemMemos$Script", "reason", "I", false)
  | _ => ("GemMemos$Script", "cause", "I", false)
def tyX4 : Nat → FieldType := fun k => match k with
  | 0 => .array .char
  | 1 => .int
  | 2 => .int
  | 3 => .array .int
  | 4 => .int
  | 5 => .int
  | 6 => .int
  | _ => .int
abbrev wsX40 : List Cond := u_ws RX4 TX4 8
theorem nmX4 : ∀ a, a < 8 → ∀ b, b < 8 → a ≠ b → (TX4 a).2.1 ≠ (TX4 b).2.1 := by decide +kernel
theorem tyX4_ok : ∀ k, k < 8 → parseFieldDescriptor (TX4 k).2.2.1 = some (tyX4 k) := by decide +kernel
abbrev cX4_init : ByteArray := prog_6_method_1_code
def yX4_init : MethodName := ⟨RX4, "<init>", "()V"⟩
abbrev cX4_append : ByteArray := prog_6_method_2_code
def yX4_append : MethodName := ⟨RX4, "append", "(C)I"⟩
abbrev cX4_hasFault : ByteArray := prog_6_method_3_code
def yX4_hasFault : MethodName := ⟨RX4, "hasFault", "()Z"⟩
abbrev cX4_tellFault : ByteArray := prog_6_method_4_code
def yX4_tellFault : MethodName := ⟨RX4, "tellFault", "(I)I"⟩
abbrev cX4_runOn : ByteArray := prog_6_method_5_code
def yX4_runOn : MethodName := ⟨RX4, "runOn", "(LGemMemos$Market;)I"⟩
abbrev cX4_putFault : ByteArray := prog_6_method_6_code
def yX4_putFault : MethodName := ⟨RX4, "putFault", "(III)V"⟩
abbrev cX4_perform : ByteArray := prog_6_method_7_code
def yX4_perform : MethodName := ⟨RX4, "perform", "(LGemMemos$Market;)I"⟩
abbrev cX4_readCommand : ByteArray := prog_6_method_8_code
def yX4_readCommand : MethodName := ⟨RX4, "readCommand", "(I)Z"⟩
abbrev cX4_wordOf : ByteArray := prog_6_method_9_code
def yX4_wordOf : MethodName := ⟨RX4, "wordOf", "(I)Ljava/lang/String;"⟩
abbrev cX4_howManyNumbers : ByteArray := prog_6_method_10_code
def yX4_howManyNumbers : MethodName := ⟨RX4, "howManyNumbers", "(I)I"⟩
abbrev cX4_isWordAt : ByteArray := prog_6_method_11_code
def yX4_isWordAt : MethodName := ⟨RX4, "isWordAt", "(ILjava/lang/String;)Z"⟩
abbrev cX4_readNumbers : ByteArray := prog_6_method_12_code
def yX4_readNumbers : MethodName := ⟨RX4, "readNumbers", "(II)Z"⟩
abbrev cX4_digitsAt : ByteArray := prog_6_method_13_code
def yX4_digitsAt : MethodName := ⟨RX4, "digitsAt", "(I)I"⟩
abbrev cX4_valueAt : ByteArray := prog_6_method_14_code
def yX4_valueAt : MethodName := ⟨RX4, "valueAt", "(II)I"⟩
abbrev cX4_isDigit : ByteArray := prog_6_method_15_code
def yX4_isDigit : MethodName := ⟨RX4, "isDigit", "(C)Z"⟩
abbrev cX4_signAt : ByteArray := prog_6_method_16_code
def yX4_signAt : MethodName := ⟨RX4, "signAt", "(I)C"⟩
def RX5 : String := "GemMemos$Stones"
def TX5 : u_T := fun k => match k with
  | 0 => ("GemMemos$Stones", "count", "I", false)
  | 1 => ("GemMemos$Stones", "weights", "[I", true)
  | 2 => ("GemMemos$Stones", "colours", "[I", true)
  | 3 => ("GemMemos$Stones", "clarities", "[I", true)
  | 4 => ("GemMemos$Stones", "owners", "[I", true)
  | 5 => ("GemMemos$Stones", "holders", "[I", true)
  | 6 => ("GemMemos$Stones", "memos", "[I", true)
  | 7 => ("GemMemos$Stones", "asked", "[I", true)
  | 8 => ("GemMemos$Stones", "soldFor", "[I", true)
  | _ => ("GemMemos$Stones", "timesKept", "[I", true)
def tyX5 : Nat → FieldType := fun k => match k with
  | 0 => .int
  | 1 => .array .int
  | 2 => .array .int
  | 3 => .array .int
  | 4 => .array .int
  | 5 => .array .int
  | 6 => .array .int
  | 7 => .array .int
  | 8 => .array .int
  | _ => .array .int
abbrev wsX50 : List Cond := u_ws RX5 TX5 10
theorem nmX5 : ∀ a, a < 10 → ∀ b, b < 10 → a ≠ b → (TX5 a).2.1 ≠ (TX5 b).2.1 := by decide +kernel
theorem tyX5_ok : ∀ k, k < 10 → parseFieldDescriptor (TX5 k).2.2.1 = some (tyX5 k) := by decide +kernel
abbrev cX5_init : ByteArray := prog_7_method_1_code
def yX5_init : MethodName := ⟨RX5, "<init>", "()V"⟩
abbrev cX5_has : ByteArray := prog_7_method_2_code
def yX5_has : MethodName := ⟨RX5, "has", "(I)Z"⟩
abbrev cX5_add : ByteArray := prog_7_method_3_code
def yX5_add : MethodName := ⟨RX5, "add", "(IIII)I"⟩
abbrev cX5_sieveOf : ByteArray := prog_7_method_4_code
def yX5_sieveOf : MethodName := ⟨RX5, "sieveOf", "(I)I"⟩
abbrev cX5_isOut : ByteArray := prog_7_method_5_code
def yX5_isOut : MethodName := ⟨RX5, "isOut", "(I)Z"⟩
abbrev cX5_isSold : ByteArray := prog_7_method_6_code
def yX5_isSold : MethodName := ⟨RX5, "isSold", "(I)Z"⟩
abbrev cX5_setWhere : ByteArray := prog_7_method_7_code
def yX5_setWhere : MethodName := ⟨RX5, "setWhere", "([II)I"⟩
abbrev cX5_countSold : ByteArray := prog_7_method_8_code
def yX5_countSold : MethodName := ⟨RX5, "countSold", "()I"⟩
abbrev cX5_countOut : ByteArray := prog_7_method_9_code
def yX5_countOut : MethodName := ⟨RX5, "countOut", "()I"⟩
abbrev cX5_sumSold : ByteArray := prog_7_method_10_code
def yX5_sumSold : MethodName := ⟨RX5, "sumSold", "()I"⟩
abbrev cX5_sumAsked : ByteArray := prog_7_method_11_code
def yX5_sumAsked : MethodName := ⟨RX5, "sumAsked", "([II)I"⟩
abbrev cX5_unlikeGrades : ByteArray := prog_7_method_13_code
def yX5_unlikeGrades : MethodName := ⟨RX5, "unlikeGrades", "(I)I"⟩
abbrev cX5_copyFrom : ByteArray := prog_7_method_14_code
def yX5_copyFrom : MethodName := ⟨RX5, "copyFrom", "(LGemMemos$Stones;)V"⟩
abbrev cX5_hasLikeBefore : ByteArray := prog_7_method_15_code
def yX5_hasLikeBefore : MethodName := ⟨RX5, "hasLikeBefore", "(II)Z"⟩
abbrev cX5_sameGrade : ByteArray := prog_7_method_16_code
def yX5_sameGrade : MethodName := ⟨RX5, "sameGrade", "(II)Z"⟩
def RX6 : String := "GemMemos"
def TX6 : u_T := fun k => match k with
  | 0 => ("GemMemos", "now", "LGemMemos$Market;", true)
  | 1 => ("GemMemos", "before", "LGemMemos$Market;", true)
  | 2 => ("GemMemos", "trial", "LGemMemos$Market;", true)
  | 3 => ("GemMemos", "snapshot", "LGemMemos$Market;", true)
  | 4 => ("GemMemos", "history", "LGemMemos$History;", true)
  | 5 => ("GemMemos", "script", "LGemMemos$Script;", true)
  | _ => ("GemMemos", "hasSnapshot", "Z", false)
def tyX6 : Nat → FieldType := fun k => match k with
  | 0 => .object "GemMemos$Market"
  | 1 => .object "GemMemos$Market"
  | 2 => .object "GemMemos$Market"
  | 3 => .object "GemMemos$Market"
  | 4 => .object "GemMemos$History"
  | 5 => .object "GemMemos$Script"
  | _ => .boolean
abbrev wsX60 : List Cond := u_ws RX6 TX6 7
theorem nmX6 : ∀ a, a < 7 → ∀ b, b < 7 → a ≠ b → (TX6 a).2.1 ≠ (TX6 b).2.1 := by decide +kernel
theorem tyX6_ok : ∀ k, k < 7 → parseFieldDescriptor (TX6 k).2.2.1 = some (tyX6 k) := by decide +kernel
abbrev cX6_init : ByteArray := prog_1_method_1_code
def yX6_init : MethodName := ⟨RX6, "<init>", "()V"⟩
abbrev cX6_dealer : ByteArray := prog_1_method_2_code
def yX6_dealer : MethodName := ⟨RX6, "dealer", "()I"⟩
abbrev cX6_stone : ByteArray := prog_1_method_3_code
def yX6_stone : MethodName := ⟨RX6, "stone", "(IIII)I"⟩
abbrev cX6_rate : ByteArray := prog_1_method_4_code
def yX6_rate : MethodName := ⟨RX6, "rate", "(IIII)I"⟩
abbrev cX6_unrate : ByteArray := prog_1_method_5_code
def yX6_unrate : MethodName := ⟨RX6, "unrate", "(III)I"⟩
abbrev cX6_lend : ByteArray := prog_1_method_6_code
def yX6_lend : MethodName := ⟨RX6, "lend", "(IIII)I"⟩
abbrev cX6_back : ByteArray := prog_1_method_7_code
def yX6_back : MethodName := ⟨RX6, "back", "(I)I"⟩
abbrev cX6_keep : ByteArray := prog_1_method_8_code
def yX6_keep : MethodName := ⟨RX6, "keep", "(I)I"⟩
abbrev cX6_sell : ByteArray := prog_1_method_9_code
def yX6_sell : MethodName := ⟨RX6, "sell", "(II)I"⟩
abbrev cX6_grade : ByteArray := prog_1_method_10_code
def yX6_grade : MethodName := ⟨RX6, "grade", "(III)I"⟩
abbrev cX6_pause : ByteArray := prog_1_method_11_code
def yX6_pause : MethodName := ⟨RX6, "pause", "(I)I"⟩
abbrev cX6_set : ByteArray := prog_1_method_12_code
def yX6_set : MethodName := ⟨RX6, "set", "(II)I"⟩
abbrev cX6_stoneOf : ByteArray := prog_1_method_13_code
def yX6_stoneOf : MethodName := ⟨RX6, "stoneOf", "(II)I"⟩
abbrev cX6_dealerOf : ByteArray := prog_1_method_14_code
def yX6_dealerOf : MethodName := ⟨RX6, "dealerOf", "(II)I"⟩
abbrev cX6_memoOf : ByteArray := prog_1_method_15_code
def yX6_memoOf : MethodName := ⟨RX6, "memoOf", "(II)I"⟩
abbrev cX6_rateOf : ByteArray := prog_1_method_16_code
def yX6_rateOf : MethodName := ⟨RX6, "rateOf", "(IIII)I"⟩
abbrev cX6_count : ByteArray := prog_1_method_17_code
def yX6_count : MethodName := ⟨RX6, "count", "(I)I"⟩
abbrev cX6_grades : ByteArray := prog_1_method_20_code
def yX6_grades : MethodName := ⟨RX6, "grades", "(I)I"⟩
abbrev cX6_mark : ByteArray := prog_1_method_21_code
def yX6_mark : MethodName := ⟨RX6, "mark", "()I"⟩
abbrev cX6_restore : ByteArray := prog_1_method_22_code
def yX6_restore : MethodName := ⟨RX6, "restore", "()I"⟩
abbrev cX6_undo : ByteArray := prog_1_method_23_code
def yX6_undo : MethodName := ⟨RX6, "undo", "()I"⟩
abbrev cX6_type : ByteArray := prog_1_method_24_code
def yX6_type : MethodName := ⟨RX6, "type", "(I)I"⟩
abbrev cX6_clearText : ByteArray := prog_1_method_25_code
def yX6_clearText : MethodName := ⟨RX6, "clearText", "()I"⟩
abbrev cX6_fault : ByteArray := prog_1_method_26_code
def yX6_fault : MethodName := ⟨RX6, "fault", "(I)I"⟩
abbrev cX6_play : ByteArray := prog_1_method_27_code
def yX6_play : MethodName := ⟨RX6, "play", "()I"⟩
abbrev cX6_recorded : ByteArray := prog_1_method_28_code
def yX6_recorded : MethodName := ⟨RX6, "recorded", "(I)I"⟩
abbrev cX6_isGrade : ByteArray := prog_1_method_29_code
def yX6_isGrade : MethodName := ⟨RX6, "isGrade", "(III)Z"⟩
abbrev cX6_isLook : ByteArray := prog_1_method_30_code
def yX6_isLook : MethodName := ⟨RX6, "isLook", "(II)Z"⟩
def RX7 : String := "GemMemosModel"
def TX7 : u_T := fun k => match k with
  | _ => ("", "", "", false)
def tyX7 : Nat → FieldType := fun k => match k with
  | _ => .int
abbrev wsX70 : List Cond := u_ws RX7 TX7 0
theorem nmX7 : ∀ a, a < 0 → ∀ b, b < 0 → a ≠ b → (TX7 a).2.1 ≠ (TX7 b).2.1 := by decide +kernel
theorem tyX7_ok : ∀ k, k < 0 → parseFieldDescriptor (TX7 k).2.2.1 = some (tyX7 k) := by decide +kernel
def RJ6 : String := "java/lang/Integer"
def TJ6 : u_T := fun k => match k with
  | _ => ("", "", "", false)
def tyJ6 : Nat → FieldType := fun k => match k with
  | _ => .int
abbrev wsJ60 : List Cond := u_ws RJ6 TJ6 0
theorem nmJ6 : ∀ a, a < 0 → ∀ b, b < 0 → a ≠ b → (TJ6 a).2.1 ≠ (TJ6 b).2.1 := by decide +kernel
theorem tyJ6_ok : ∀ k, k < 0 → parseFieldDescriptor (TJ6 k).2.2.1 = some (tyJ6 k) := by decide +kernel
abbrev cJ6_bitCount_0f7a4 : ByteArray := prog_10_method_49_code
def yJ6_bitCount_0f7a4 : MethodName := ⟨RJ6, "bitCount", "(I)I"⟩
def RJ9 : String := "java/lang/Math"
def TJ9 : u_T := fun k => match k with
  | _ => ("", "", "", false)
def tyJ9 : Nat → FieldType := fun k => match k with
  | _ => .int
abbrev wsJ90 : List Cond := u_ws RJ9 TJ9 0
theorem nmJ9 : ∀ a, a < 0 → ∀ b, b < 0 → a ≠ b → (TJ9 a).2.1 ≠ (TJ9 b).2.1 := by decide +kernel
theorem tyJ9_ok : ∀ k, k < 0 → parseFieldDescriptor (TJ9 k).2.2.1 = some (tyJ9 k) := by decide +kernel
abbrev cJ9_floorMod_7cf53 : ByteArray := prog_11_method_50_code
def yJ9_floorMod_7cf53 : MethodName := ⟨RJ9, "floorMod", "(II)I"⟩
abbrev cJ9_max_7cf53 : ByteArray := prog_11_method_65_code
def yJ9_max_7cf53 : MethodName := ⟨RJ9, "max", "(II)I"⟩
def RJ0 : String := "java/lang/String"
def TJ0 : u_T := fun k => match k with
  | _ => ("", "", "", false)
def tyJ0 : Nat → FieldType := fun k => match k with
  | _ => .int
abbrev wsJ00 : List Cond := u_ws RJ0 TJ0 0
theorem nmJ0 : ∀ a, a < 0 → ∀ b, b < 0 → a ≠ b → (TJ0 a).2.1 ≠ (TJ0 b).2.1 := by decide +kernel
theorem tyJ0_ok : ∀ k, k < 0 → parseFieldDescriptor (TJ0 k).2.2.1 = some (tyJ0 k) := by decide +kernel
abbrev cJ0_length_8abf5 : ByteArray := prog_12_method_54_code
def yJ0_length_8abf5 : MethodName := ⟨RJ0, "length", "()I"⟩
abbrev cJ0_charAt_5068e : ByteArray := prog_12_method_56_code
def yJ0_charAt_5068e : MethodName := ⟨RJ0, "charAt", "(I)C"⟩
abbrev cJ0_coder_7d493 : ByteArray := prog_12_method_152_code
def yJ0_coder_7d493 : MethodName := ⟨RJ0, "coder", "()B"⟩
abbrev cJ0_isLatin1_aae02 : ByteArray := prog_12_method_154_code
def yJ0_isLatin1_aae02 : MethodName := ⟨RJ0, "isLatin1", "()Z"⟩
abbrev cJ0_checkIndex_df160 : ByteArray := prog_12_method_155_code
def yJ0_checkIndex_df160 : MethodName := ⟨RJ0, "checkIndex", "(II)V"⟩
def RJ1 : String := "java/lang/StringLatin1"
def TJ1 : u_T := fun k => match k with
  | _ => ("", "", "", false)
def tyJ1 : Nat → FieldType := fun k => match k with
  | _ => .int
abbrev wsJ10 : List Cond := u_ws RJ1 TJ1 0
theorem nmJ1 : ∀ a, a < 0 → ∀ b, b < 0 → a ≠ b → (TJ1 a).2.1 ≠ (TJ1 b).2.1 := by decide +kernel
theorem tyJ1_ok : ∀ k, k < 0 → parseFieldDescriptor (TJ1 k).2.2.1 = some (tyJ1 k) := by decide +kernel
abbrev cJ1_charAt_3b067 : ByteArray := prog_13_method_2_code
def yJ1_charAt_3b067 : MethodName := ⟨RJ1, "charAt", "([BI)C"⟩
def RJ2 : String := "java/lang/StringUTF16"
def TJ2 : u_T := fun k => match k with
  | _ => ("", "", "", false)
def tyJ2 : Nat → FieldType := fun k => match k with
  | _ => .int
abbrev wsJ20 : List Cond := u_ws RJ2 TJ2 0
theorem nmJ2 : ∀ a, a < 0 → ∀ b, b < 0 → a ≠ b → (TJ2 a).2.1 ≠ (TJ2 b).2.1 := by decide +kernel
theorem tyJ2_ok : ∀ k, k < 0 → parseFieldDescriptor (TJ2 k).2.2.1 = some (tyJ2 k) := by decide +kernel
abbrev cJ2_getChar_3b067 : ByteArray := prog_14_method_5_code
def yJ2_getChar_3b067 : MethodName := ⟨RJ2, "getChar", "([BI)C"⟩
abbrev cJ2_length_9d52b : ByteArray := prog_14_method_6_code
def yJ2_length_9d52b : MethodName := ⟨RJ2, "length", "([B)I"⟩
abbrev cJ2_charAt_3b067 : ByteArray := prog_14_method_83_code
def yJ2_charAt_3b067 : MethodName := ⟨RJ2, "charAt", "([BI)C"⟩
abbrev cJ2_checkIndex_2214a : ByteArray := prog_14_method_91_code
def yJ2_checkIndex_2214a : MethodName := ⟨RJ2, "checkIndex", "(I[B)V"⟩
def RJ10 : String := "java/lang/System"
def TJ10 : u_T := fun k => match k with
  | _ => ("", "", "", false)
def tyJ10 : Nat → FieldType := fun k => match k with
  | _ => .int
abbrev wsJ100 : List Cond := u_ws RJ10 TJ10 0
theorem nmJ10 : ∀ a, a < 0 → ∀ b, b < 0 → a ≠ b → (TJ10 a).2.1 ≠ (TJ10 b).2.1 := by decide +kernel
theorem tyJ10_ok : ∀ k, k < 0 → parseFieldDescriptor (TJ10 k).2.2.1 = some (tyJ10 k) := by decide +kernel
def RJ3 : String := "jdk/internal/util/Preconditions"
def TJ3 : u_T := fun k => match k with
  | _ => ("", "", "", false)
def tyJ3 : Nat → FieldType := fun k => match k with
  | _ => .int
abbrev wsJ30 : List Cond := u_ws RJ3 TJ3 0
theorem nmJ3 : ∀ a, a < 0 → ∀ b, b < 0 → a ≠ b → (TJ3 a).2.1 ≠ (TJ3 b).2.1 := by decide +kernel
theorem tyJ3_ok : ∀ k, k < 0 → parseFieldDescriptor (TJ3 k).2.2.1 = some (tyJ3 k) := by decide +kernel
abbrev cJ3_checkIndex_8e157 : ByteArray := prog_16_method_11_code
def yJ3_checkIndex_8e157 : MethodName := ⟨RJ3, "checkIndex", "(IILjava/util/function/BiFunction;)I"⟩
def RL : String := "GemMemosLaw"
abbrev cL_lot : ByteArray := method_2_code
def yL_lot : MethodName := ⟨RL, "lot", "([II)I"⟩
abbrev cL_low : ByteArray := method_3_code
def yL_low : MethodName := ⟨RL, "low", "(II)I"⟩
abbrev cL_digest : ByteArray := method_4_code
def yL_digest : MethodName := ⟨RL, "digest", "(LGemMemos;)J"⟩
abbrev cL_holds : ByteArray := method_5_code
def yL_holds : MethodName := ⟨RL, "holds", "(LGemMemos;I)Z"⟩
abbrev cL_digits : ByteArray := method_6_code
def yL_digits : MethodName := ⟨RL, "digits", "(LGemMemos;I)Z"⟩
abbrev cL_signs : ByteArray := method_7_code
def yL_signs : MethodName := ⟨RL, "signs", "(LGemMemos;IIII)Z"⟩
abbrev cL_types : ByteArray := method_8_code
def yL_types : MethodName := ⟨RL, "types", "(LGemMemos;I)Z"⟩
abbrev cL_reads : ByteArray := method_9_code
def yL_reads : MethodName := ⟨RL, "reads", "(LGemMemos;)Z"⟩
abbrev cL_acts : ByteArray := method_10_code
def yL_acts : MethodName := ⟨RL, "acts", "(LGemMemos;II)Z"⟩
abbrev cL_law : ByteArray := code
def yL_law : MethodName := ⟨RL, "law", "([I)Z"⟩
def wsX3_init : List Cond := .code yX3_init cX3_init 1 none :: ([.methodLink RX3 1 objectInit, .instanceMethod objectInit, .code objectInit ⟨#[0xb1]⟩ 1 none, .arrayClass .int, .fieldLink RX3 9 "GemMemos$Prices" "sieves" "[I", .fieldLink RX3 13 "GemMemos$Prices" "colours" "[I", .fieldLink RX3 16 "GemMemos$Prices" "clarities" "[I", .fieldLink RX3 19 "GemMemos$Prices" "coins" "[I"] ++ wsX30)
def wsX5_init : List Cond := .code yX5_init cX5_init 1 none :: ([.methodLink RX5 3 objectInit, .instanceMethod objectInit, .code objectInit ⟨#[0xb1]⟩ 1 none, .fieldLink RX5 9 "GemMemos$Stones" "count" "I", .arrayClass .int, .fieldLink RX5 15 "GemMemos$Stones" "weights" "[I", .fieldLink RX5 19 "GemMemos$Stones" "colours" "[I", .fieldLink RX5 22 "GemMemos$Stones" "clarities" "[I", .fieldLink RX5 25 "GemMemos$Stones" "owners" "[I", .fieldLink RX5 28 "GemMemos$Stones" "holders" "[I", .fieldLink RX5 31 "GemMemos$Stones" "memos" "[I", .fieldLink RX5 34 "GemMemos$Stones" "asked" "[I", .fieldLink RX5 37 "GemMemos$Stones" "soldFor" "[I", .fieldLink RX5 40 "GemMemos$Stones" "timesKept" "[I"] ++ wsX50)
def wsX2_init : List Cond := .code yX2_init cX2_init 1 none :: ([.methodLink RX2 3 objectInit, .instanceMethod objectInit, .code objectInit ⟨#[0xb1]⟩ 1 none, .fieldLink RX2 9 "GemMemos$Memos" "count" "I", .arrayClass .int, .fieldLink RX2 15 "GemMemos$Memos" "lenders" "[I", .fieldLink RX2 19 "GemMemos$Memos" "takers" "[I", .fieldLink RX2 22 "GemMemos$Memos" "lastDays" "[I", .fieldLink RX2 25 "GemMemos$Memos" "lent" "[I", .fieldLink RX2 28 "GemMemos$Memos" "kept" "[I"] ++ wsX20)
def wsX1_init_r1 : List Cond := [Cond.methodLink RX1 3 objectInit, Cond.instanceMethod objectInit, Cond.code objectInit ⟨#[0xb1]⟩ 1 none, Cond.classLink RX1 9 RX3, Cond.instantiable RX3 4, Cond.initialized RX3, Cond.fieldLink RX1 12 "GemMemos$Market" "prices" "LGemMemos$Prices;", Cond.classLink RX1 18 RX5, Cond.instantiable RX5 10, Cond.initialized RX5, Cond.fieldLink RX1 21 "GemMemos$Market" "stones" "LGemMemos$Stones;", Cond.classLink RX1 25 RX2, Cond.instantiable RX2 6, Cond.initialized RX2, Cond.fieldLink RX1 28 "GemMemos$Market" "memos" "LGemMemos$Memos;", Cond.arrayClass .int, Cond.fieldLink RX1 32 "GemMemos$Market" "balances" "[I", Cond.fieldLink RX1 36 "GemMemos$Market" "dealers" "I", Cond.fieldLink RX1 40 "GemMemos$Market" "time" "I", Cond.fieldLink RX1 43 "GemMemos$Market" "grace" "I", Cond.fieldLink RX1 46 "GemMemos$Market" "extra" "I", Cond.fieldLink RX1 49 "GemMemos$Market" "keptLate" "I", Cond.instanceMethod yX3_init, Cond.code yX3_init cX3_init 1 none]
def wsX1_init_r2 : List Cond := [Cond.methodLink RX3 1 objectInit, Cond.fieldLink RX3 9 "GemMemos$Prices" "sieves" "[I", Cond.fieldLink RX3 13 "GemMemos$Prices" "colours" "[I", Cond.fieldLink RX3 16 "GemMemos$Prices" "clarities" "[I", Cond.fieldLink RX3 19 "GemMemos$Prices" "coins" "[I", Cond.instanceMethod yX5_init, Cond.code yX5_init cX5_init 1 none, Cond.methodLink RX5 3 objectInit, Cond.fieldLink RX5 9 "GemMemos$Stones" "count" "I", Cond.fieldLink RX5 15 "GemMemos$Stones" "weights" "[I", Cond.fieldLink RX5 19 "GemMemos$Stones" "colours" "[I", Cond.fieldLink RX5 22 "GemMemos$Stones" "clarities" "[I", Cond.fieldLink RX5 25 "GemMemos$Stones" "owners" "[I", Cond.fieldLink RX5 28 "GemMemos$Stones" "holders" "[I", Cond.fieldLink RX5 31 "GemMemos$Stones" "memos" "[I", Cond.fieldLink RX5 34 "GemMemos$Stones" "asked" "[I", Cond.fieldLink RX5 37 "GemMemos$Stones" "soldFor" "[I", Cond.fieldLink RX5 40 "GemMemos$Stones" "timesKept" "[I", Cond.instanceMethod yX2_init, Cond.code yX2_init cX2_init 1 none, Cond.methodLink RX2 3 objectInit, Cond.fieldLink RX2 9 "GemMemos$Memos" "count" "I", Cond.fieldLink RX2 15 "GemMemos$Memos" "lenders" "[I", Cond.fieldLink RX2 19 "GemMemos$Memos" "takers" "[I"]
def wsX1_init_r3 : List Cond := [Cond.fieldLink RX2 22 "GemMemos$Memos" "lastDays" "[I", Cond.fieldLink RX2 25 "GemMemos$Memos" "lent" "[I", Cond.fieldLink RX2 28 "GemMemos$Memos" "kept" "[I"]
def wsX1_init : List Cond := .code yX1_init cX1_init 1 none :: ((wsX1_init_r1 ++ (wsX1_init_r2 ++ wsX1_init_r3)) ++ wsX30 ++ wsX10 ++ wsX50 ++ wsX20)
def wsX0_init_r1 : List Cond := [Cond.methodLink RX0 1 objectInit, Cond.instanceMethod objectInit, Cond.code objectInit ⟨#[0xb1]⟩ 1 none, Cond.classLink RX0 9 RX1, Cond.fieldLink RX0 11 "GemMemos$History" "states" "[LGemMemos$Market;", Cond.fieldLink RX0 15 "GemMemos$History" "oldest" "I", Cond.fieldLink RX0 19 "GemMemos$History" "size" "I", Cond.instantiable RX1 9, Cond.initialized RX1, Cond.instanceMethod yX1_init, Cond.code yX1_init cX1_init 1 none, Cond.methodLink RX1 3 objectInit, Cond.classLink RX1 9 RX3, Cond.instantiable RX3 4, Cond.initialized RX3, Cond.fieldLink RX1 12 "GemMemos$Market" "prices" "LGemMemos$Prices;", Cond.classLink RX1 18 RX5, Cond.instantiable RX5 10, Cond.initialized RX5, Cond.fieldLink RX1 21 "GemMemos$Market" "stones" "LGemMemos$Stones;", Cond.classLink RX1 25 RX2, Cond.instantiable RX2 6, Cond.initialized RX2, Cond.fieldLink RX1 28 "GemMemos$Market" "memos" "LGemMemos$Memos;"]
def wsX0_init_r2 : List Cond := [Cond.arrayClass .int, Cond.fieldLink RX1 32 "GemMemos$Market" "balances" "[I", Cond.fieldLink RX1 36 "GemMemos$Market" "dealers" "I", Cond.fieldLink RX1 40 "GemMemos$Market" "time" "I", Cond.fieldLink RX1 43 "GemMemos$Market" "grace" "I", Cond.fieldLink RX1 46 "GemMemos$Market" "extra" "I", Cond.fieldLink RX1 49 "GemMemos$Market" "keptLate" "I", Cond.instanceMethod yX3_init, Cond.code yX3_init cX3_init 1 none, Cond.methodLink RX3 1 objectInit, Cond.fieldLink RX3 9 "GemMemos$Prices" "sieves" "[I", Cond.fieldLink RX3 13 "GemMemos$Prices" "colours" "[I", Cond.fieldLink RX3 16 "GemMemos$Prices" "clarities" "[I", Cond.fieldLink RX3 19 "GemMemos$Prices" "coins" "[I", Cond.instanceMethod yX5_init, Cond.code yX5_init cX5_init 1 none, Cond.methodLink RX5 3 objectInit, Cond.fieldLink RX5 9 "GemMemos$Stones" "count" "I", Cond.fieldLink RX5 15 "GemMemos$Stones" "weights" "[I", Cond.fieldLink RX5 19 "GemMemos$Stones" "colours" "[I", Cond.fieldLink RX5 22 "GemMemos$Stones" "clarities" "[I", Cond.fieldLink RX5 25 "GemMemos$Stones" "owners" "[I", Cond.fieldLink RX5 28 "GemMemos$Stones" "holders" "[I", Cond.fieldLink RX5 31 "GemMemos$Stones" "memos" "[I"]
def wsX0_init_r3 : List Cond := [Cond.fieldLink RX5 34 "GemMemos$Stones" "asked" "[I", Cond.fieldLink RX5 37 "GemMemos$Stones" "soldFor" "[I", Cond.fieldLink RX5 40 "GemMemos$Stones" "timesKept" "[I", Cond.instanceMethod yX2_init, Cond.code yX2_init cX2_init 1 none, Cond.methodLink RX2 3 objectInit, Cond.fieldLink RX2 9 "GemMemos$Memos" "count" "I", Cond.fieldLink RX2 15 "GemMemos$Memos" "lenders" "[I", Cond.fieldLink RX2 19 "GemMemos$Memos" "takers" "[I", Cond.fieldLink RX2 22 "GemMemos$Memos" "lastDays" "[I", Cond.fieldLink RX2 25 "GemMemos$Memos" "lent" "[I", Cond.fieldLink RX2 28 "GemMemos$Memos" "kept" "[I"]
def wsX0_init : List Cond := .code yX0_init cX0_init 2 none :: ((wsX0_init_r1 ++ (wsX0_init_r2 ++ wsX0_init_r3)) ++ wsX00 ++ wsX10 ++ wsX30 ++ wsX50 ++ wsX20)
def wsJ9_floorMod_7cf53 : List Cond := .code yJ9_floorMod_7cf53 cJ9_floorMod_7cf53 3 (some .int) :: ([])
def wsX3_copyFrom : List Cond := .code yX3_copyFrom cX3_copyFrom 2 none :: ([.fieldLink RX3 9 "GemMemos$Prices" "sieves" "[I", .methodLink RX3 26 arraycopyName, .native arraycopyName, .static arraycopyName, .initialized "java/lang/System", .fieldLink RX3 13 "GemMemos$Prices" "colours" "[I", .fieldLink RX3 16 "GemMemos$Prices" "clarities" "[I", .fieldLink RX3 19 "GemMemos$Prices" "coins" "[I"] ++ wsX30)
def wsX5_copyFrom : List Cond := .code yX5_copyFrom cX5_copyFrom 2 none :: ([.fieldLink RX5 9 "GemMemos$Stones" "count" "I", .fieldLink RX5 15 "GemMemos$Stones" "weights" "[I", .methodLink RX5 64 arraycopyName, .native arraycopyName, .static arraycopyName, .initialized "java/lang/System", .fieldLink RX5 19 "GemMemos$Stones" "colours" "[I", .fieldLink RX5 22 "GemMemos$Stones" "clarities" "[I", .fieldLink RX5 25 "GemMemos$Stones" "owners" "[I", .fieldLink RX5 28 "GemMemos$Stones" "holders" "[I", .fieldLink RX5 31 "GemMemos$Stones" "memos" "[I", .fieldLink RX5 34 "GemMemos$Stones" "asked" "[I", .fieldLink RX5 37 "GemMemos$Stones" "soldFor" "[I", .fieldLink RX5 40 "GemMemos$Stones" "timesKept" "[I"] ++ wsX50)
def wsX2_copyFrom : List Cond := .code yX2_copyFrom cX2_copyFrom 2 none :: ([.fieldLink RX2 9 "GemMemos$Memos" "count" "I", .fieldLink RX2 15 "GemMemos$Memos" "lenders" "[I", .methodLink RX2 31 arraycopyName, .native arraycopyName, .static arraycopyName, .initialized "java/lang/System", .fieldLink RX2 19 "GemMemos$Memos" "takers" "[I", .fieldLink RX2 22 "GemMemos$Memos" "lastDays" "[I", .fieldLink RX2 25 "GemMemos$Memos" "lent" "[I", .fieldLink RX2 28 "GemMemos$Memos" "kept" "[I"] ++ wsX20)
def wsX1_copyFrom_r1 : List Cond := [Cond.fieldLink RX1 12 "GemMemos$Market" "prices" "LGemMemos$Prices;", Cond.fieldLink RX1 21 "GemMemos$Market" "stones" "LGemMemos$Stones;", Cond.fieldLink RX1 28 "GemMemos$Market" "memos" "LGemMemos$Memos;", Cond.fieldLink RX1 32 "GemMemos$Market" "balances" "[I", Cond.methodLink RX1 62 arraycopyName, Cond.native arraycopyName, Cond.static arraycopyName, Cond.initialized "java/lang/System", Cond.fieldLink RX1 36 "GemMemos$Market" "dealers" "I", Cond.fieldLink RX1 40 "GemMemos$Market" "time" "I", Cond.fieldLink RX1 43 "GemMemos$Market" "grace" "I", Cond.fieldLink RX1 46 "GemMemos$Market" "extra" "I", Cond.fieldLink RX1 49 "GemMemos$Market" "keptLate" "I", Cond.methodLink RX1 52 yX3_copyFrom, Cond.instanceMethod yX3_copyFrom, Cond.selects RX3 yX3_copyFrom yX3_copyFrom, Cond.initialized RX3, Cond.code yX3_copyFrom cX3_copyFrom 2 none, Cond.fieldLink RX3 9 "GemMemos$Prices" "sieves" "[I", Cond.methodLink RX3 26 arraycopyName, Cond.fieldLink RX3 13 "GemMemos$Prices" "colours" "[I", Cond.fieldLink RX3 16 "GemMemos$Prices" "clarities" "[I", Cond.fieldLink RX3 19 "GemMemos$Prices" "coins" "[I", Cond.methodLink RX1 56 yX5_copyFrom]
def wsX1_copyFrom_r2 : List Cond := [Cond.instanceMethod yX5_copyFrom, Cond.selects RX5 yX5_copyFrom yX5_copyFrom, Cond.initialized RX5, Cond.code yX5_copyFrom cX5_copyFrom 2 none, Cond.fieldLink RX5 9 "GemMemos$Stones" "count" "I", Cond.fieldLink RX5 15 "GemMemos$Stones" "weights" "[I", Cond.methodLink RX5 64 arraycopyName, Cond.fieldLink RX5 19 "GemMemos$Stones" "colours" "[I", Cond.fieldLink RX5 22 "GemMemos$Stones" "clarities" "[I", Cond.fieldLink RX5 25 "GemMemos$Stones" "owners" "[I", Cond.fieldLink RX5 28 "GemMemos$Stones" "holders" "[I", Cond.fieldLink RX5 31 "GemMemos$Stones" "memos" "[I", Cond.fieldLink RX5 34 "GemMemos$Stones" "asked" "[I", Cond.fieldLink RX5 37 "GemMemos$Stones" "soldFor" "[I", Cond.fieldLink RX5 40 "GemMemos$Stones" "timesKept" "[I", Cond.methodLink RX1 59 yX2_copyFrom, Cond.instanceMethod yX2_copyFrom, Cond.selects RX2 yX2_copyFrom yX2_copyFrom, Cond.initialized RX2, Cond.code yX2_copyFrom cX2_copyFrom 2 none, Cond.fieldLink RX2 9 "GemMemos$Memos" "count" "I", Cond.fieldLink RX2 15 "GemMemos$Memos" "lenders" "[I", Cond.methodLink RX2 31 arraycopyName, Cond.fieldLink RX2 19 "GemMemos$Memos" "takers" "[I"]
def wsX1_copyFrom_r3 : List Cond := [Cond.fieldLink RX2 22 "GemMemos$Memos" "lastDays" "[I", Cond.fieldLink RX2 25 "GemMemos$Memos" "lent" "[I", Cond.fieldLink RX2 28 "GemMemos$Memos" "kept" "[I"]
def wsX1_copyFrom : List Cond := .code yX1_copyFrom cX1_copyFrom 2 none :: ((wsX1_copyFrom_r1 ++ (wsX1_copyFrom_r2 ++ wsX1_copyFrom_r3)) ++ wsX10 ++ wsX30 ++ wsX50 ++ wsX20)
def wsX0_push_r1 : List Cond := [Cond.fieldLink RX0 19 "GemMemos$History" "size" "I", Cond.fieldLink RX0 15 "GemMemos$History" "oldest" "I", Cond.fieldLink RX0 11 "GemMemos$History" "states" "[LGemMemos$Market;", Cond.methodLink RX0 23 yJ9_floorMod_7cf53, Cond.static yJ9_floorMod_7cf53, Cond.initialized RJ9, Cond.code yJ9_floorMod_7cf53 cJ9_floorMod_7cf53 3 (some .int), Cond.methodLink RX0 29 yX1_copyFrom, Cond.instanceMethod yX1_copyFrom, Cond.selects RX1 yX1_copyFrom yX1_copyFrom, Cond.initialized RX1, Cond.code yX1_copyFrom cX1_copyFrom 2 none, Cond.fieldLink RX1 12 "GemMemos$Market" "prices" "LGemMemos$Prices;", Cond.fieldLink RX1 21 "GemMemos$Market" "stones" "LGemMemos$Stones;", Cond.fieldLink RX1 28 "GemMemos$Market" "memos" "LGemMemos$Memos;", Cond.fieldLink RX1 32 "GemMemos$Market" "balances" "[I", Cond.methodLink RX1 62 arraycopyName, Cond.native arraycopyName, Cond.static arraycopyName, Cond.initialized "java/lang/System", Cond.fieldLink RX1 36 "GemMemos$Market" "dealers" "I", Cond.fieldLink RX1 40 "GemMemos$Market" "time" "I", Cond.fieldLink RX1 43 "GemMemos$Market" "grace" "I", Cond.fieldLink RX1 46 "GemMemos$Market" "extra" "I"]
def wsX0_push_r2 : List Cond := [Cond.fieldLink RX1 49 "GemMemos$Market" "keptLate" "I", Cond.methodLink RX1 52 yX3_copyFrom, Cond.instanceMethod yX3_copyFrom, Cond.selects RX3 yX3_copyFrom yX3_copyFrom, Cond.initialized RX3, Cond.code yX3_copyFrom cX3_copyFrom 2 none, Cond.fieldLink RX3 9 "GemMemos$Prices" "sieves" "[I", Cond.methodLink RX3 26 arraycopyName, Cond.fieldLink RX3 13 "GemMemos$Prices" "colours" "[I", Cond.fieldLink RX3 16 "GemMemos$Prices" "clarities" "[I", Cond.fieldLink RX3 19 "GemMemos$Prices" "coins" "[I", Cond.methodLink RX1 56 yX5_copyFrom, Cond.instanceMethod yX5_copyFrom, Cond.selects RX5 yX5_copyFrom yX5_copyFrom, Cond.initialized RX5, Cond.code yX5_copyFrom cX5_copyFrom 2 none, Cond.fieldLink RX5 9 "GemMemos$Stones" "count" "I", Cond.fieldLink RX5 15 "GemMemos$Stones" "weights" "[I", Cond.methodLink RX5 64 arraycopyName, Cond.fieldLink RX5 19 "GemMemos$Stones" "colours" "[I", Cond.fieldLink RX5 22 "GemMemos$Stones" "clarities" "[I", Cond.fieldLink RX5 25 "GemMemos$Stones" "owners" "[I", Cond.fieldLink RX5 28 "GemMemos$Stones" "holders" "[I", Cond.fieldLink RX5 31 "GemMemos$Stones" "memos" "[I"]
def wsX0_push_r3 : List Cond := [Cond.fieldLink RX5 34 "GemMemos$Stones" "asked" "[I", Cond.fieldLink RX5 37 "GemMemos$Stones" "soldFor" "[I", Cond.fieldLink RX5 40 "GemMemos$Stones" "timesKept" "[I", Cond.methodLink RX1 59 yX2_copyFrom, Cond.instanceMethod yX2_copyFrom, Cond.selects RX2 yX2_copyFrom yX2_copyFrom, Cond.initialized RX2, Cond.code yX2_copyFrom cX2_copyFrom 2 none, Cond.fieldLink RX2 9 "GemMemos$Memos" "count" "I", Cond.fieldLink RX2 15 "GemMemos$Memos" "lenders" "[I", Cond.methodLink RX2 31 arraycopyName, Cond.fieldLink RX2 19 "GemMemos$Memos" "takers" "[I", Cond.fieldLink RX2 22 "GemMemos$Memos" "lastDays" "[I", Cond.fieldLink RX2 25 "GemMemos$Memos" "lent" "[I", Cond.fieldLink RX2 28 "GemMemos$Memos" "kept" "[I"]
def wsX0_push : List Cond := .code yX0_push cX0_push 3 none :: ((wsX0_push_r1 ++ (wsX0_push_r2 ++ wsX0_push_r3)) ++ wsX00 ++ wsX10 ++ wsX30 ++ wsX50 ++ wsX20)
def wsX0_popInto_r1 : List Cond := [Cond.fieldLink RX0 19 "GemMemos$History" "size" "I", Cond.fieldLink RX0 11 "GemMemos$History" "states" "[LGemMemos$Market;", Cond.fieldLink RX0 15 "GemMemos$History" "oldest" "I", Cond.methodLink RX0 23 yJ9_floorMod_7cf53, Cond.static yJ9_floorMod_7cf53, Cond.initialized RJ9, Cond.code yJ9_floorMod_7cf53 cJ9_floorMod_7cf53 3 (some .int), Cond.methodLink RX0 29 yX1_copyFrom, Cond.instanceMethod yX1_copyFrom, Cond.selects RX1 yX1_copyFrom yX1_copyFrom, Cond.initialized RX1, Cond.code yX1_copyFrom cX1_copyFrom 2 none, Cond.fieldLink RX1 12 "GemMemos$Market" "prices" "LGemMemos$Prices;", Cond.fieldLink RX1 21 "GemMemos$Market" "stones" "LGemMemos$Stones;", Cond.fieldLink RX1 28 "GemMemos$Market" "memos" "LGemMemos$Memos;", Cond.fieldLink RX1 32 "GemMemos$Market" "balances" "[I", Cond.methodLink RX1 62 arraycopyName, Cond.native arraycopyName, Cond.static arraycopyName, Cond.initialized "java/lang/System", Cond.fieldLink RX1 36 "GemMemos$Market" "dealers" "I", Cond.fieldLink RX1 40 "GemMemos$Market" "time" "I", Cond.fieldLink RX1 43 "GemMemos$Market" "grace" "I", Cond.fieldLink RX1 46 "GemMemos$Market" "extra" "I"]
def wsX0_popInto_r2 : List Cond := [Cond.fieldLink RX1 49 "GemMemos$Market" "keptLate" "I", Cond.methodLink RX1 52 yX3_copyFrom, Cond.instanceMethod yX3_copyFrom, Cond.selects RX3 yX3_copyFrom yX3_copyFrom, Cond.initialized RX3, Cond.code yX3_copyFrom cX3_copyFrom 2 none, Cond.fieldLink RX3 9 "GemMemos$Prices" "sieves" "[I", Cond.methodLink RX3 26 arraycopyName, Cond.fieldLink RX3 13 "GemMemos$Prices" "colours" "[I", Cond.fieldLink RX3 16 "GemMemos$Prices" "clarities" "[I", Cond.fieldLink RX3 19 "GemMemos$Prices" "coins" "[I", Cond.methodLink RX1 56 yX5_copyFrom, Cond.instanceMethod yX5_copyFrom, Cond.selects RX5 yX5_copyFrom yX5_copyFrom, Cond.initialized RX5, Cond.code yX5_copyFrom cX5_copyFrom 2 none, Cond.fieldLink RX5 9 "GemMemos$Stones" "count" "I", Cond.fieldLink RX5 15 "GemMemos$Stones" "weights" "[I", Cond.methodLink RX5 64 arraycopyName, Cond.fieldLink RX5 19 "GemMemos$Stones" "colours" "[I", Cond.fieldLink RX5 22 "GemMemos$Stones" "clarities" "[I", Cond.fieldLink RX5 25 "GemMemos$Stones" "owners" "[I", Cond.fieldLink RX5 28 "GemMemos$Stones" "holders" "[I", Cond.fieldLink RX5 31 "GemMemos$Stones" "memos" "[I"]
def wsX0_popInto_r3 : List Cond := [Cond.fieldLink RX5 34 "GemMemos$Stones" "asked" "[I", Cond.fieldLink RX5 37 "GemMemos$Stones" "soldFor" "[I", Cond.fieldLink RX5 40 "GemMemos$Stones" "timesKept" "[I", Cond.methodLink RX1 59 yX2_copyFrom, Cond.instanceMethod yX2_copyFrom, Cond.selects RX2 yX2_copyFrom yX2_copyFrom, Cond.initialized RX2, Cond.code yX2_copyFrom cX2_copyFrom 2 none, Cond.fieldLink RX2 9 "GemMemos$Memos" "count" "I", Cond.fieldLink RX2 15 "GemMemos$Memos" "lenders" "[I", Cond.methodLink RX2 31 arraycopyName, Cond.fieldLink RX2 19 "GemMemos$Memos" "takers" "[I", Cond.fieldLink RX2 22 "GemMemos$Memos" "lastDays" "[I", Cond.fieldLink RX2 25 "GemMemos$Memos" "lent" "[I", Cond.fieldLink RX2 28 "GemMemos$Memos" "kept" "[I"]
def wsX0_popInto : List Cond := .code yX0_popInto cX0_popInto 3 none :: ((wsX0_popInto_r1 ++ (wsX0_popInto_r2 ++ wsX0_popInto_r3)) ++ wsX00 ++ wsX10 ++ wsX30 ++ wsX50 ++ wsX20)
def wsX1_hasDealer : List Cond := .code yX1_hasDealer cX1_hasDealer 2 (some .boolean) :: ([.fieldLink RX1 36 "GemMemos$Market" "dealers" "I"] ++ wsX10)
def wsX1_addDealer : List Cond := .code yX1_addDealer cX1_addDealer 1 (some .int) :: ([.fieldLink RX1 36 "GemMemos$Market" "dealers" "I", .constant RX1 68 (-10000003), .fieldLink RX1 32 "GemMemos$Market" "balances" "[I"] ++ wsX10)
def wsX6_isLook : List Cond := .code yX6_isLook cX6_isLook 2 (some .boolean) :: ([])
def wsX5_add : List Cond := .code yX5_add cX5_add 6 (some .int) :: ([.fieldLink RX5 9 "GemMemos$Stones" "count" "I", .fieldLink RX5 15 "GemMemos$Stones" "weights" "[I", .fieldLink RX5 19 "GemMemos$Stones" "colours" "[I", .fieldLink RX5 22 "GemMemos$Stones" "clarities" "[I", .fieldLink RX5 25 "GemMemos$Stones" "owners" "[I", .fieldLink RX5 28 "GemMemos$Stones" "holders" "[I", .fieldLink RX5 31 "GemMemos$Stones" "memos" "[I", .fieldLink RX5 34 "GemMemos$Stones" "asked" "[I", .fieldLink RX5 37 "GemMemos$Stones" "soldFor" "[I", .fieldLink RX5 40 "GemMemos$Stones" "timesKept" "[I"] ++ wsX50)
def wsX1_addStone_r1 : List Cond := [Cond.constant RX1 77 (-10000001), Cond.fieldLink RX1 21 "GemMemos$Market" "stones" "LGemMemos$Stones;", Cond.constant RX1 68 (-10000003), Cond.methodLink RX1 69 yX1_hasDealer, Cond.instanceMethod yX1_hasDealer, Cond.selects RX1 yX1_hasDealer yX1_hasDealer, Cond.initialized RX1, Cond.code yX1_hasDealer cX1_hasDealer 2 (some .boolean), Cond.fieldLink RX1 36 "GemMemos$Market" "dealers" "I", Cond.static yX6_isLook, Cond.initialized RX6, Cond.code yX6_isLook cX6_isLook 2 (some .boolean), Cond.methodLink RX1 78 yX5_add, Cond.instanceMethod yX5_add, Cond.selects RX5 yX5_add yX5_add, Cond.initialized RX5, Cond.code yX5_add cX5_add 6 (some .int), Cond.fieldLink RX5 9 "GemMemos$Stones" "count" "I", Cond.fieldLink RX5 15 "GemMemos$Stones" "weights" "[I", Cond.fieldLink RX5 19 "GemMemos$Stones" "colours" "[I", Cond.fieldLink RX5 22 "GemMemos$Stones" "clarities" "[I", Cond.fieldLink RX5 25 "GemMemos$Stones" "owners" "[I", Cond.fieldLink RX5 28 "GemMemos$Stones" "holders" "[I", Cond.fieldLink RX5 31 "GemMemos$Stones" "memos" "[I"]
def wsX1_addStone_r2 : List Cond := [Cond.fieldLink RX5 34 "GemMemos$Stones" "asked" "[I", Cond.fieldLink RX5 37 "GemMemos$Stones" "soldFor" "[I", Cond.fieldLink RX5 40 "GemMemos$Stones" "timesKept" "[I"]
def wsX1_addStone : List Cond := .code yX1_addStone cX1_addStone 6 (some .int) :: ((wsX1_addStone_r1 ++ wsX1_addStone_r2) ++ wsX10 ++ wsX50)
def wsX6_isGrade : List Cond := .code yX6_isGrade cX6_isGrade 3 (some .boolean) :: ([.methodLink RX6 180 yX6_isLook, .static yX6_isLook, .initialized RX6, .code yX6_isLook cX6_isLook 2 (some .boolean)])
def wsX3_isEntryOf : List Cond := .code yX3_isEntryOf cX3_isEntryOf 5 (some .boolean) :: ([.fieldLink RX3 19 "GemMemos$Prices" "coins" "[I", .fieldLink RX3 9 "GemMemos$Prices" "sieves" "[I", .fieldLink RX3 13 "GemMemos$Prices" "colours" "[I", .fieldLink RX3 16 "GemMemos$Prices" "clarities" "[I"] ++ wsX30)
def wsX3_ownRate : List Cond := .code yX3_ownRate cX3_ownRate 5 (some .int) :: ([.fieldLink RX3 19 "GemMemos$Prices" "coins" "[I", .methodLink RX3 22 yX3_isEntryOf, .instanceMethod yX3_isEntryOf, .selects RX3 yX3_isEntryOf yX3_isEntryOf, .initialized RX3, .code yX3_isEntryOf cX3_isEntryOf 5 (some .boolean), .fieldLink RX3 9 "GemMemos$Prices" "sieves" "[I", .fieldLink RX3 13 "GemMemos$Prices" "colours" "[I", .fieldLink RX3 16 "GemMemos$Prices" "clarities" "[I"] ++ wsX30)
def wsX3_change : List Cond := .code yX3_change cX3_change 6 none :: ([.fieldLink RX3 19 "GemMemos$Prices" "coins" "[I", .methodLink RX3 22 yX3_isEntryOf, .instanceMethod yX3_isEntryOf, .selects RX3 yX3_isEntryOf yX3_isEntryOf, .initialized RX3, .code yX3_isEntryOf cX3_isEntryOf 5 (some .boolean), .fieldLink RX3 9 "GemMemos$Prices" "sieves" "[I", .fieldLink RX3 13 "GemMemos$Prices" "colours" "[I", .fieldLink RX3 16 "GemMemos$Prices" "clarities" "[I"] ++ wsX30)
def wsX3_add : List Cond := .code yX3_add cX3_add 6 (some .boolean) :: ([.fieldLink RX3 19 "GemMemos$Prices" "coins" "[I", .fieldLink RX3 9 "GemMemos$Prices" "sieves" "[I", .fieldLink RX3 13 "GemMemos$Prices" "colours" "[I", .fieldLink RX3 16 "GemMemos$Prices" "clarities" "[I"] ++ wsX30)
def wsX1_putRate_r1 : List Cond := [Cond.constant RX1 77 (-10000001), Cond.fieldLink RX1 12 "GemMemos$Market" "prices" "LGemMemos$Prices;", Cond.constant RX1 68 (-10000003), Cond.static yX6_isGrade, Cond.initialized RX6, Cond.code yX6_isGrade cX6_isGrade 3 (some .boolean), Cond.methodLink RX6 180 yX6_isLook, Cond.static yX6_isLook, Cond.code yX6_isLook cX6_isLook 2 (some .boolean), Cond.methodLink RX1 86 yX3_ownRate, Cond.instanceMethod yX3_ownRate, Cond.selects RX3 yX3_ownRate yX3_ownRate, Cond.initialized RX3, Cond.code yX3_ownRate cX3_ownRate 5 (some .int), Cond.fieldLink RX3 19 "GemMemos$Prices" "coins" "[I", Cond.methodLink RX3 22 yX3_isEntryOf, Cond.instanceMethod yX3_isEntryOf, Cond.selects RX3 yX3_isEntryOf yX3_isEntryOf, Cond.code yX3_isEntryOf cX3_isEntryOf 5 (some .boolean), Cond.fieldLink RX3 9 "GemMemos$Prices" "sieves" "[I", Cond.fieldLink RX3 13 "GemMemos$Prices" "colours" "[I", Cond.fieldLink RX3 16 "GemMemos$Prices" "clarities" "[I", Cond.methodLink RX1 90 yX3_change, Cond.instanceMethod yX3_change]
def wsX1_putRate_r2 : List Cond := [Cond.selects RX3 yX3_change yX3_change, Cond.code yX3_change cX3_change 6 none, Cond.methodLink RX1 94 yX3_add, Cond.instanceMethod yX3_add, Cond.selects RX3 yX3_add yX3_add, Cond.code yX3_add cX3_add 6 (some .boolean)]
def wsX1_putRate : List Cond := .code yX1_putRate cX1_putRate 6 (some .int) :: ((wsX1_putRate_r1 ++ wsX1_putRate_r2) ++ wsX10 ++ wsX30)
def wsX1_takeRate_r1 : List Cond := [Cond.constant RX1 77 (-10000001), Cond.fieldLink RX1 12 "GemMemos$Market" "prices" "LGemMemos$Prices;", Cond.constant RX1 97 (-10000002), Cond.static yX6_isGrade, Cond.initialized RX6, Cond.code yX6_isGrade cX6_isGrade 3 (some .boolean), Cond.methodLink RX6 180 yX6_isLook, Cond.static yX6_isLook, Cond.code yX6_isLook cX6_isLook 2 (some .boolean), Cond.methodLink RX1 86 yX3_ownRate, Cond.instanceMethod yX3_ownRate, Cond.selects RX3 yX3_ownRate yX3_ownRate, Cond.initialized RX3, Cond.code yX3_ownRate cX3_ownRate 5 (some .int), Cond.fieldLink RX3 19 "GemMemos$Prices" "coins" "[I", Cond.methodLink RX3 22 yX3_isEntryOf, Cond.instanceMethod yX3_isEntryOf, Cond.selects RX3 yX3_isEntryOf yX3_isEntryOf, Cond.code yX3_isEntryOf cX3_isEntryOf 5 (some .boolean), Cond.fieldLink RX3 9 "GemMemos$Prices" "sieves" "[I", Cond.fieldLink RX3 13 "GemMemos$Prices" "colours" "[I", Cond.fieldLink RX3 16 "GemMemos$Prices" "clarities" "[I", Cond.methodLink RX1 90 yX3_change, Cond.instanceMethod yX3_change]
def wsX1_takeRate_r2 : List Cond := [Cond.selects RX3 yX3_change yX3_change, Cond.code yX3_change cX3_change 6 none]
def wsX1_takeRate : List Cond := .code yX1_takeRate cX1_takeRate 5 (some .int) :: ((wsX1_takeRate_r1 ++ wsX1_takeRate_r2) ++ wsX10 ++ wsX30)
def wsX5_sieveOf : List Cond := .code yX5_sieveOf cX5_sieveOf 3 (some .int) :: ([.fieldLink RX5 15 "GemMemos$Stones" "weights" "[I"] ++ wsX50)
def wsX3_rateFor : List Cond := .code yX3_rateFor cX3_rateFor 6 (some .int) :: ([.fieldLink RX3 19 "GemMemos$Prices" "coins" "[I", .fieldLink RX3 9 "GemMemos$Prices" "sieves" "[I", .fieldLink RX3 13 "GemMemos$Prices" "colours" "[I", .fieldLink RX3 16 "GemMemos$Prices" "clarities" "[I"] ++ wsX30)
def wsX1_priceOf : List Cond := .code yX1_priceOf cX1_priceOf 3 (some .int) :: ([.fieldLink RX1 12 "GemMemos$Market" "prices" "LGemMemos$Prices;", .fieldLink RX1 21 "GemMemos$Market" "stones" "LGemMemos$Stones;", .methodLink RX1 159 yX5_sieveOf, .instanceMethod yX5_sieveOf, .selects RX5 yX5_sieveOf yX5_sieveOf, .initialized RX5, .code yX5_sieveOf cX5_sieveOf 3 (some .int), .fieldLink RX5 15 "GemMemos$Stones" "weights" "[I", .methodLink RX1 215 yX3_rateFor, .instanceMethod yX3_rateFor, .selects RX3 yX3_rateFor yX3_rateFor, .initialized RX3, .code yX3_rateFor cX3_rateFor 6 (some .int), .fieldLink RX3 19 "GemMemos$Prices" "coins" "[I", .fieldLink RX3 9 "GemMemos$Prices" "sieves" "[I", .fieldLink RX3 13 "GemMemos$Prices" "colours" "[I", .fieldLink RX3 16 "GemMemos$Prices" "clarities" "[I"] ++ wsX10 ++ wsX50 ++ wsX30)
def wsX1_canLend : List Cond := .code yX1_canLend cX1_canLend 4 (some .boolean) :: ([.fieldLink RX1 21 "GemMemos$Market" "stones" "LGemMemos$Stones;", .methodLink RX1 113 yX1_priceOf, .instanceMethod yX1_priceOf, .selects RX1 yX1_priceOf yX1_priceOf, .initialized RX1, .code yX1_priceOf cX1_priceOf 3 (some .int), .fieldLink RX1 12 "GemMemos$Market" "prices" "LGemMemos$Prices;", .methodLink RX1 159 yX5_sieveOf, .instanceMethod yX5_sieveOf, .selects RX5 yX5_sieveOf yX5_sieveOf, .initialized RX5, .code yX5_sieveOf cX5_sieveOf 3 (some .int), .fieldLink RX5 15 "GemMemos$Stones" "weights" "[I", .methodLink RX1 215 yX3_rateFor, .instanceMethod yX3_rateFor, .selects RX3 yX3_rateFor yX3_rateFor, .initialized RX3, .code yX3_rateFor cX3_rateFor 6 (some .int), .fieldLink RX3 19 "GemMemos$Prices" "coins" "[I", .fieldLink RX3 9 "GemMemos$Prices" "sieves" "[I", .fieldLink RX3 13 "GemMemos$Prices" "colours" "[I", .fieldLink RX3 16 "GemMemos$Prices" "clarities" "[I"] ++ wsX10 ++ wsX50 ++ wsX30)
def wsX2_add : List Cond := .code yX2_add cX2_add 6 (some .int) :: ([.fieldLink RX2 9 "GemMemos$Memos" "count" "I", .fieldLink RX2 15 "GemMemos$Memos" "lenders" "[I", .fieldLink RX2 19 "GemMemos$Memos" "takers" "[I", .fieldLink RX2 22 "GemMemos$Memos" "lastDays" "[I", .fieldLink RX2 25 "GemMemos$Memos" "lent" "[I", .fieldLink RX2 28 "GemMemos$Memos" "kept" "[I"] ++ wsX20)
def wsX1_lendStones_r1 : List Cond := [Cond.fieldLink RX1 21 "GemMemos$Market" "stones" "LGemMemos$Stones;", Cond.constant RX1 77 (-10000001), Cond.constant RX1 97 (-10000002), Cond.fieldLink RX1 28 "GemMemos$Market" "memos" "LGemMemos$Memos;", Cond.fieldLink RX1 40 "GemMemos$Market" "time" "I", Cond.constant RX1 68 (-10000003), Cond.methodLink RX1 69 yX1_hasDealer, Cond.instanceMethod yX1_hasDealer, Cond.selects RX1 yX1_hasDealer yX1_hasDealer, Cond.initialized RX1, Cond.code yX1_hasDealer cX1_hasDealer 2 (some .boolean), Cond.fieldLink RX1 36 "GemMemos$Market" "dealers" "I", Cond.methodLink RX1 101 yX1_canLend, Cond.instanceMethod yX1_canLend, Cond.selects RX1 yX1_canLend yX1_canLend, Cond.code yX1_canLend cX1_canLend 4 (some .boolean), Cond.methodLink RX1 113 yX1_priceOf, Cond.instanceMethod yX1_priceOf, Cond.selects RX1 yX1_priceOf yX1_priceOf, Cond.code yX1_priceOf cX1_priceOf 3 (some .int), Cond.fieldLink RX1 12 "GemMemos$Market" "prices" "LGemMemos$Prices;", Cond.methodLink RX1 159 yX5_sieveOf, Cond.instanceMethod yX5_sieveOf, Cond.selects RX5 yX5_sieveOf yX5_sieveOf]
def wsX1_lendStones_r2 : List Cond := [Cond.initialized RX5, Cond.code yX5_sieveOf cX5_sieveOf 3 (some .int), Cond.fieldLink RX5 15 "GemMemos$Stones" "weights" "[I", Cond.methodLink RX1 215 yX3_rateFor, Cond.instanceMethod yX3_rateFor, Cond.selects RX3 yX3_rateFor yX3_rateFor, Cond.initialized RX3, Cond.code yX3_rateFor cX3_rateFor 6 (some .int), Cond.fieldLink RX3 19 "GemMemos$Prices" "coins" "[I", Cond.fieldLink RX3 9 "GemMemos$Prices" "sieves" "[I", Cond.fieldLink RX3 13 "GemMemos$Prices" "colours" "[I", Cond.fieldLink RX3 16 "GemMemos$Prices" "clarities" "[I", Cond.methodLink RX1 104 yX2_add, Cond.instanceMethod yX2_add, Cond.selects RX2 yX2_add yX2_add, Cond.initialized RX2, Cond.code yX2_add cX2_add 6 (some .int), Cond.fieldLink RX2 9 "GemMemos$Memos" "count" "I", Cond.fieldLink RX2 15 "GemMemos$Memos" "lenders" "[I", Cond.fieldLink RX2 19 "GemMemos$Memos" "takers" "[I", Cond.fieldLink RX2 22 "GemMemos$Memos" "lastDays" "[I", Cond.fieldLink RX2 25 "GemMemos$Memos" "lent" "[I", Cond.fieldLink RX2 28 "GemMemos$Memos" "kept" "[I"]
def wsX1_lendStones : List Cond := .code yX1_lendStones cX1_lendStones 7 (some .int) :: ((wsX1_lendStones_r1 ++ wsX1_lendStones_r2) ++ wsX10 ++ wsX50 ++ wsX30 ++ wsX20)
def wsX5_has : List Cond := .code yX5_has cX5_has 2 (some .boolean) :: ([.fieldLink RX5 9 "GemMemos$Stones" "count" "I"] ++ wsX50)
def wsX5_isOut : List Cond := .code yX5_isOut cX5_isOut 2 (some .boolean) :: ([.fieldLink RX5 31 "GemMemos$Stones" "memos" "[I"] ++ wsX50)
def wsX5_setWhere : List Cond := .code yX5_setWhere cX5_setWhere 5 (some .int) :: ([.fieldLink RX5 9 "GemMemos$Stones" "count" "I"] ++ wsX50)
def wsJ6_bitCount_0f7a4 : List Cond := .code yJ6_bitCount_0f7a4 cJ6_bitCount_0f7a4 1 (some .int) :: ([.constant RJ6 265 (1431655765), .constant RJ6 266 (858993459), .constant RJ6 267 (252645135)])
def wsX1_giveBack_r1 : List Cond := [Cond.fieldLink RX1 21 "GemMemos$Market" "stones" "LGemMemos$Stones;", Cond.constant RX1 77 (-10000001), Cond.constant RX1 97 (-10000002), Cond.methodLink RX1 117 yX5_has, Cond.instanceMethod yX5_has, Cond.selects RX5 yX5_has yX5_has, Cond.initialized RX5, Cond.code yX5_has cX5_has 2 (some .boolean), Cond.fieldLink RX5 9 "GemMemos$Stones" "count" "I", Cond.methodLink RX1 120 yX5_isOut, Cond.instanceMethod yX5_isOut, Cond.selects RX5 yX5_isOut yX5_isOut, Cond.code yX5_isOut cX5_isOut 2 (some .boolean), Cond.fieldLink RX5 31 "GemMemos$Stones" "memos" "[I", Cond.methodLink RX1 126 yX5_setWhere, Cond.instanceMethod yX5_setWhere, Cond.selects RX5 yX5_setWhere yX5_setWhere, Cond.code yX5_setWhere cX5_setWhere 5 (some .int), Cond.methodLink RX1 130 yJ6_bitCount_0f7a4, Cond.static yJ6_bitCount_0f7a4, Cond.initialized RJ6, Cond.code yJ6_bitCount_0f7a4 cJ6_bitCount_0f7a4 1 (some .int), Cond.constant RJ6 265 (1431655765), Cond.constant RJ6 266 (858993459)]
def wsX1_giveBack_r2 : List Cond := [Cond.constant RJ6 267 (252645135)]
def wsX1_giveBack : List Cond := .code yX1_giveBack cX1_giveBack 3 (some .int) :: ((wsX1_giveBack_r1 ++ wsX1_giveBack_r2) ++ wsX10 ++ wsX50)
def wsX2_has : List Cond := .code yX2_has cX2_has 2 (some .boolean) :: ([.fieldLink RX2 9 "GemMemos$Memos" "count" "I"] ++ wsX20)
def wsX1_keepFor : List Cond := .code yX1_keepFor cX1_keepFor 6 none :: ([.fieldLink RX1 21 "GemMemos$Market" "stones" "LGemMemos$Stones;", .fieldLink RX1 28 "GemMemos$Market" "memos" "LGemMemos$Memos;", .fieldLink RX1 32 "GemMemos$Market" "balances" "[I", .methodLink RX1 69 yX1_hasDealer, .instanceMethod yX1_hasDealer, .selects RX1 yX1_hasDealer yX1_hasDealer, .initialized RX1, .code yX1_hasDealer cX1_hasDealer 2 (some .boolean), .fieldLink RX1 36 "GemMemos$Market" "dealers" "I", .methodLink RX1 218 yX2_has, .instanceMethod yX2_has, .selects RX2 yX2_has yX2_has, .initialized RX2, .code yX2_has cX2_has 2 (some .boolean), .fieldLink RX2 9 "GemMemos$Memos" "count" "I"] ++ wsX10 ++ wsX50 ++ wsX20)
def wsX1_keepStone_r1 : List Cond := [Cond.fieldLink RX1 21 "GemMemos$Market" "stones" "LGemMemos$Stones;", Cond.constant RX1 77 (-10000001), Cond.constant RX1 97 (-10000002), Cond.methodLink RX1 117 yX5_has, Cond.instanceMethod yX5_has, Cond.selects RX5 yX5_has yX5_has, Cond.initialized RX5, Cond.code yX5_has cX5_has 2 (some .boolean), Cond.fieldLink RX5 9 "GemMemos$Stones" "count" "I", Cond.methodLink RX1 120 yX5_isOut, Cond.instanceMethod yX5_isOut, Cond.selects RX5 yX5_isOut yX5_isOut, Cond.code yX5_isOut cX5_isOut 2 (some .boolean), Cond.fieldLink RX5 31 "GemMemos$Stones" "memos" "[I", Cond.methodLink RX1 135 yX1_keepFor, Cond.instanceMethod yX1_keepFor, Cond.selects RX1 yX1_keepFor yX1_keepFor, Cond.initialized RX1, Cond.code yX1_keepFor cX1_keepFor 6 none, Cond.fieldLink RX1 28 "GemMemos$Market" "memos" "LGemMemos$Memos;", Cond.fieldLink RX1 32 "GemMemos$Market" "balances" "[I", Cond.methodLink RX1 69 yX1_hasDealer, Cond.instanceMethod yX1_hasDealer, Cond.selects RX1 yX1_hasDealer yX1_hasDealer]
def wsX1_keepStone_r2 : List Cond := [Cond.code yX1_hasDealer cX1_hasDealer 2 (some .boolean), Cond.fieldLink RX1 36 "GemMemos$Market" "dealers" "I", Cond.methodLink RX1 218 yX2_has, Cond.instanceMethod yX2_has, Cond.selects RX2 yX2_has yX2_has, Cond.initialized RX2, Cond.code yX2_has cX2_has 2 (some .boolean), Cond.fieldLink RX2 9 "GemMemos$Memos" "count" "I"]
def wsX1_keepStone : List Cond := .code yX1_keepStone cX1_keepStone 3 (some .int) :: ((wsX1_keepStone_r1 ++ wsX1_keepStone_r2) ++ wsX10 ++ wsX50 ++ wsX20)
def wsX5_isSold : List Cond := .code yX5_isSold cX5_isSold 2 (some .boolean) :: ([.fieldLink RX5 37 "GemMemos$Stones" "soldFor" "[I"] ++ wsX50)
def wsX1_sellStone_r1 : List Cond := [Cond.fieldLink RX1 21 "GemMemos$Market" "stones" "LGemMemos$Stones;", Cond.constant RX1 77 (-10000001), Cond.constant RX1 97 (-10000002), Cond.fieldLink RX1 32 "GemMemos$Market" "balances" "[I", Cond.constant RX1 145 (100000000), Cond.methodLink RX1 117 yX5_has, Cond.instanceMethod yX5_has, Cond.selects RX5 yX5_has yX5_has, Cond.initialized RX5, Cond.code yX5_has cX5_has 2 (some .boolean), Cond.fieldLink RX5 9 "GemMemos$Stones" "count" "I", Cond.methodLink RX1 120 yX5_isOut, Cond.instanceMethod yX5_isOut, Cond.selects RX5 yX5_isOut yX5_isOut, Cond.code yX5_isOut cX5_isOut 2 (some .boolean), Cond.fieldLink RX5 31 "GemMemos$Stones" "memos" "[I", Cond.methodLink RX1 139 yX5_isSold, Cond.instanceMethod yX5_isSold, Cond.selects RX5 yX5_isSold yX5_isSold, Cond.code yX5_isSold cX5_isSold 2 (some .boolean), Cond.fieldLink RX5 37 "GemMemos$Stones" "soldFor" "[I", Cond.methodLink RX1 69 yX1_hasDealer, Cond.instanceMethod yX1_hasDealer, Cond.selects RX1 yX1_hasDealer yX1_hasDealer]
def wsX1_sellStone_r2 : List Cond := [Cond.initialized RX1, Cond.code yX1_hasDealer cX1_hasDealer 2 (some .boolean), Cond.fieldLink RX1 36 "GemMemos$Market" "dealers" "I"]
def wsX1_sellStone : List Cond := .code yX1_sellStone cX1_sellStone 4 (some .int) :: ((wsX1_sellStone_r1 ++ wsX1_sellStone_r2) ++ wsX10 ++ wsX50)
def wsX1_regrade_r1 : List Cond := [Cond.fieldLink RX1 21 "GemMemos$Market" "stones" "LGemMemos$Stones;", Cond.constant RX1 77 (-10000001), Cond.constant RX1 97 (-10000002), Cond.methodLink RX1 117 yX5_has, Cond.instanceMethod yX5_has, Cond.selects RX5 yX5_has yX5_has, Cond.initialized RX5, Cond.code yX5_has cX5_has 2 (some .boolean), Cond.fieldLink RX5 9 "GemMemos$Stones" "count" "I", Cond.static yX6_isLook, Cond.initialized RX6, Cond.code yX6_isLook cX6_isLook 2 (some .boolean), Cond.methodLink RX1 139 yX5_isSold, Cond.instanceMethod yX5_isSold, Cond.selects RX5 yX5_isSold yX5_isSold, Cond.code yX5_isSold cX5_isSold 2 (some .boolean), Cond.fieldLink RX5 37 "GemMemos$Stones" "soldFor" "[I", Cond.methodLink RX1 113 yX1_priceOf, Cond.instanceMethod yX1_priceOf, Cond.selects RX1 yX1_priceOf yX1_priceOf, Cond.initialized RX1, Cond.code yX1_priceOf cX1_priceOf 3 (some .int), Cond.fieldLink RX1 12 "GemMemos$Market" "prices" "LGemMemos$Prices;", Cond.methodLink RX1 159 yX5_sieveOf]
def wsX1_regrade_r2 : List Cond := [Cond.instanceMethod yX5_sieveOf, Cond.selects RX5 yX5_sieveOf yX5_sieveOf, Cond.code yX5_sieveOf cX5_sieveOf 3 (some .int), Cond.fieldLink RX5 15 "GemMemos$Stones" "weights" "[I", Cond.methodLink RX1 215 yX3_rateFor, Cond.instanceMethod yX3_rateFor, Cond.selects RX3 yX3_rateFor yX3_rateFor, Cond.initialized RX3, Cond.code yX3_rateFor cX3_rateFor 6 (some .int), Cond.fieldLink RX3 19 "GemMemos$Prices" "coins" "[I", Cond.fieldLink RX3 9 "GemMemos$Prices" "sieves" "[I", Cond.fieldLink RX3 13 "GemMemos$Prices" "colours" "[I", Cond.fieldLink RX3 16 "GemMemos$Prices" "clarities" "[I", Cond.methodLink RX1 120 yX5_isOut, Cond.instanceMethod yX5_isOut, Cond.selects RX5 yX5_isOut yX5_isOut, Cond.code yX5_isOut cX5_isOut 2 (some .boolean), Cond.fieldLink RX5 31 "GemMemos$Stones" "memos" "[I"]
def wsX1_regrade : List Cond := .code yX1_regrade cX1_regrade 6 (some .int) :: ((wsX1_regrade_r1 ++ wsX1_regrade_r2) ++ wsX10 ++ wsX50 ++ wsX30)
def wsX1_keepLateOnes : List Cond := .code yX1_keepLateOnes cX1_keepLateOnes 4 (some .int) :: ([.fieldLink RX1 28 "GemMemos$Market" "memos" "LGemMemos$Memos;", .fieldLink RX1 40 "GemMemos$Market" "time" "I", .fieldLink RX1 43 "GemMemos$Market" "grace" "I", .fieldLink RX1 21 "GemMemos$Market" "stones" "LGemMemos$Stones;", .fieldLink RX1 46 "GemMemos$Market" "extra" "I", .methodLink RX1 135 yX1_keepFor, .instanceMethod yX1_keepFor, .selects RX1 yX1_keepFor yX1_keepFor, .initialized RX1, .code yX1_keepFor cX1_keepFor 6 none, .fieldLink RX1 32 "GemMemos$Market" "balances" "[I", .methodLink RX1 69 yX1_hasDealer, .instanceMethod yX1_hasDealer, .selects RX1 yX1_hasDealer yX1_hasDealer, .code yX1_hasDealer cX1_hasDealer 2 (some .boolean), .fieldLink RX1 36 "GemMemos$Market" "dealers" "I", .methodLink RX1 218 yX2_has, .instanceMethod yX2_has, .selects RX2 yX2_has yX2_has, .initialized RX2, .code yX2_has cX2_has 2 (some .boolean), .fieldLink RX2 9 "GemMemos$Memos" "count" "I"] ++ wsX10 ++ wsX20 ++ wsX50)
def wsX1_passDays_r1 : List Cond := [Cond.constant RX1 77 (-10000001), Cond.fieldLink RX1 40 "GemMemos$Market" "time" "I", Cond.constant RX1 68 (-10000003), Cond.fieldLink RX1 49 "GemMemos$Market" "keptLate" "I", Cond.methodLink RX1 152 yX1_keepLateOnes, Cond.instanceMethod yX1_keepLateOnes, Cond.selects RX1 yX1_keepLateOnes yX1_keepLateOnes, Cond.initialized RX1, Cond.code yX1_keepLateOnes cX1_keepLateOnes 4 (some .int), Cond.fieldLink RX1 28 "GemMemos$Market" "memos" "LGemMemos$Memos;", Cond.fieldLink RX1 43 "GemMemos$Market" "grace" "I", Cond.fieldLink RX1 21 "GemMemos$Market" "stones" "LGemMemos$Stones;", Cond.fieldLink RX1 46 "GemMemos$Market" "extra" "I", Cond.methodLink RX1 135 yX1_keepFor, Cond.instanceMethod yX1_keepFor, Cond.selects RX1 yX1_keepFor yX1_keepFor, Cond.code yX1_keepFor cX1_keepFor 6 none, Cond.fieldLink RX1 32 "GemMemos$Market" "balances" "[I", Cond.methodLink RX1 69 yX1_hasDealer, Cond.instanceMethod yX1_hasDealer, Cond.selects RX1 yX1_hasDealer yX1_hasDealer, Cond.code yX1_hasDealer cX1_hasDealer 2 (some .boolean), Cond.fieldLink RX1 36 "GemMemos$Market" "dealers" "I", Cond.methodLink RX1 218 yX2_has]
def wsX1_passDays_r2 : List Cond := [Cond.instanceMethod yX2_has, Cond.selects RX2 yX2_has yX2_has, Cond.initialized RX2, Cond.code yX2_has cX2_has 2 (some .boolean), Cond.fieldLink RX2 9 "GemMemos$Memos" "count" "I"]
def wsX1_passDays : List Cond := .code yX1_passDays cX1_passDays 4 (some .int) :: ((wsX1_passDays_r1 ++ wsX1_passDays_r2) ++ wsX10 ++ wsX20 ++ wsX50)
def wsX1_putSetting : List Cond := .code yX1_putSetting cX1_putSetting 4 (some .int) :: ([.constant RX1 77 (-10000001), .fieldLink RX1 43 "GemMemos$Market" "grace" "I", .fieldLink RX1 46 "GemMemos$Market" "extra" "I"] ++ wsX10)
def wsX1_tellStone_r1 : List Cond := [Cond.fieldLink RX1 21 "GemMemos$Market" "stones" "LGemMemos$Stones;", Cond.constant RX1 162 (-10000004), Cond.constant RX1 77 (-10000001), Cond.methodLink RX1 159 yX5_sieveOf, Cond.instanceMethod yX5_sieveOf, Cond.selects RX5 yX5_sieveOf yX5_sieveOf, Cond.initialized RX5, Cond.code yX5_sieveOf cX5_sieveOf 3 (some .int), Cond.fieldLink RX5 15 "GemMemos$Stones" "weights" "[I", Cond.methodLink RX1 139 yX5_isSold, Cond.instanceMethod yX5_isSold, Cond.selects RX5 yX5_isSold yX5_isSold, Cond.code yX5_isSold cX5_isSold 2 (some .boolean), Cond.fieldLink RX5 37 "GemMemos$Stones" "soldFor" "[I", Cond.methodLink RX1 113 yX1_priceOf, Cond.instanceMethod yX1_priceOf, Cond.selects RX1 yX1_priceOf yX1_priceOf, Cond.initialized RX1, Cond.code yX1_priceOf cX1_priceOf 3 (some .int), Cond.fieldLink RX1 12 "GemMemos$Market" "prices" "LGemMemos$Prices;", Cond.methodLink RX1 215 yX3_rateFor, Cond.instanceMethod yX3_rateFor, Cond.selects RX3 yX3_rateFor yX3_rateFor, Cond.initialized RX3]
def wsX1_tellStone_r2 : List Cond := [Cond.code yX3_rateFor cX3_rateFor 6 (some .int), Cond.fieldLink RX3 19 "GemMemos$Prices" "coins" "[I", Cond.fieldLink RX3 9 "GemMemos$Prices" "sieves" "[I", Cond.fieldLink RX3 13 "GemMemos$Prices" "colours" "[I", Cond.fieldLink RX3 16 "GemMemos$Prices" "clarities" "[I", Cond.methodLink RX1 120 yX5_isOut, Cond.instanceMethod yX5_isOut, Cond.selects RX5 yX5_isOut yX5_isOut, Cond.code yX5_isOut cX5_isOut 2 (some .boolean), Cond.fieldLink RX5 31 "GemMemos$Stones" "memos" "[I"]
def wsX1_tellStone : List Cond := .code yX1_tellStone cX1_tellStone 4 (some .int) :: ((wsX1_tellStone_r1 ++ wsX1_tellStone_r2) ++ wsX10 ++ wsX50 ++ wsX30)
def wsX1_worthOf : List Cond := .code yX1_worthOf cX1_worthOf 5 (some .int) :: ([.fieldLink RX1 21 "GemMemos$Market" "stones" "LGemMemos$Stones;", .methodLink RX1 113 yX1_priceOf, .instanceMethod yX1_priceOf, .selects RX1 yX1_priceOf yX1_priceOf, .initialized RX1, .code yX1_priceOf cX1_priceOf 3 (some .int), .fieldLink RX1 12 "GemMemos$Market" "prices" "LGemMemos$Prices;", .methodLink RX1 159 yX5_sieveOf, .instanceMethod yX5_sieveOf, .selects RX5 yX5_sieveOf yX5_sieveOf, .initialized RX5, .code yX5_sieveOf cX5_sieveOf 3 (some .int), .fieldLink RX5 15 "GemMemos$Stones" "weights" "[I", .methodLink RX1 215 yX3_rateFor, .instanceMethod yX3_rateFor, .selects RX3 yX3_rateFor yX3_rateFor, .initialized RX3, .code yX3_rateFor cX3_rateFor 6 (some .int), .fieldLink RX3 19 "GemMemos$Prices" "coins" "[I", .fieldLink RX3 9 "GemMemos$Prices" "sieves" "[I", .fieldLink RX3 13 "GemMemos$Prices" "colours" "[I", .fieldLink RX3 16 "GemMemos$Prices" "clarities" "[I"] ++ wsX10 ++ wsX50 ++ wsX30)
def wsX5_sumAsked : List Cond := .code yX5_sumAsked cX5_sumAsked 5 (some .int) :: ([.fieldLink RX5 9 "GemMemos$Stones" "count" "I", .fieldLink RX5 34 "GemMemos$Stones" "asked" "[I", .methodLink RX5 47 yX5_isOut, .instanceMethod yX5_isOut, .selects RX5 yX5_isOut yX5_isOut, .initialized RX5, .code yX5_isOut cX5_isOut 2 (some .boolean), .fieldLink RX5 31 "GemMemos$Stones" "memos" "[I"] ++ wsX50)
def wsX1_tellDealer_r1 : List Cond := [Cond.fieldLink RX1 32 "GemMemos$Market" "balances" "[I", Cond.constant RX1 145 (100000000), Cond.fieldLink RX1 21 "GemMemos$Market" "stones" "LGemMemos$Stones;", Cond.constant RX1 77 (-10000001), Cond.methodLink RX1 126 yX5_setWhere, Cond.instanceMethod yX5_setWhere, Cond.selects RX5 yX5_setWhere yX5_setWhere, Cond.initialized RX5, Cond.code yX5_setWhere cX5_setWhere 5 (some .int), Cond.fieldLink RX5 9 "GemMemos$Stones" "count" "I", Cond.methodLink RX1 166 yX1_worthOf, Cond.instanceMethod yX1_worthOf, Cond.selects RX1 yX1_worthOf yX1_worthOf, Cond.initialized RX1, Cond.code yX1_worthOf cX1_worthOf 5 (some .int), Cond.methodLink RX1 113 yX1_priceOf, Cond.instanceMethod yX1_priceOf, Cond.selects RX1 yX1_priceOf yX1_priceOf, Cond.code yX1_priceOf cX1_priceOf 3 (some .int), Cond.fieldLink RX1 12 "GemMemos$Market" "prices" "LGemMemos$Prices;", Cond.methodLink RX1 159 yX5_sieveOf, Cond.instanceMethod yX5_sieveOf, Cond.selects RX5 yX5_sieveOf yX5_sieveOf, Cond.code yX5_sieveOf cX5_sieveOf 3 (some .int)]
def wsX1_tellDealer_r2 : List Cond := [Cond.fieldLink RX5 15 "GemMemos$Stones" "weights" "[I", Cond.methodLink RX1 215 yX3_rateFor, Cond.instanceMethod yX3_rateFor, Cond.selects RX3 yX3_rateFor yX3_rateFor, Cond.initialized RX3, Cond.code yX3_rateFor cX3_rateFor 6 (some .int), Cond.fieldLink RX3 19 "GemMemos$Prices" "coins" "[I", Cond.fieldLink RX3 9 "GemMemos$Prices" "sieves" "[I", Cond.fieldLink RX3 13 "GemMemos$Prices" "colours" "[I", Cond.fieldLink RX3 16 "GemMemos$Prices" "clarities" "[I", Cond.methodLink RX1 169 yX5_sumAsked, Cond.instanceMethod yX5_sumAsked, Cond.selects RX5 yX5_sumAsked yX5_sumAsked, Cond.code yX5_sumAsked cX5_sumAsked 5 (some .int), Cond.fieldLink RX5 34 "GemMemos$Stones" "asked" "[I", Cond.methodLink RX5 47 yX5_isOut, Cond.instanceMethod yX5_isOut, Cond.selects RX5 yX5_isOut yX5_isOut, Cond.code yX5_isOut cX5_isOut 2 (some .boolean), Cond.fieldLink RX5 31 "GemMemos$Stones" "memos" "[I"]
def wsX1_tellDealer : List Cond := .code yX1_tellDealer cX1_tellDealer 3 (some .int) :: ((wsX1_tellDealer_r1 ++ wsX1_tellDealer_r2) ++ wsX10 ++ wsX50 ++ wsX30)
def wsX1_isOpen : List Cond := .code yX1_isOpen cX1_isOpen 2 (some .boolean) :: ([.fieldLink RX1 21 "GemMemos$Market" "stones" "LGemMemos$Stones;", .methodLink RX1 126 yX5_setWhere, .instanceMethod yX5_setWhere, .selects RX5 yX5_setWhere yX5_setWhere, .initialized RX5, .code yX5_setWhere cX5_setWhere 5 (some .int), .fieldLink RX5 9 "GemMemos$Stones" "count" "I"] ++ wsX10 ++ wsX50)
def wsX1_tellMemo : List Cond := .code yX1_tellMemo cX1_tellMemo 3 (some .int) :: ([.fieldLink RX1 28 "GemMemos$Market" "memos" "LGemMemos$Memos;", .fieldLink RX1 21 "GemMemos$Market" "stones" "LGemMemos$Stones;", .fieldLink RX1 40 "GemMemos$Market" "time" "I", .methodLink RX1 190 Lib.Math.max.name, .static Lib.Math.max.name, .initialized "java/lang/Math", .code Lib.Math.max.name Lib.Math.max.code 2 (some .int), .constant RX1 77 (-10000001), .methodLink RX1 126 yX5_setWhere, .instanceMethod yX5_setWhere, .selects RX5 yX5_setWhere yX5_setWhere, .initialized RX5, .code yX5_setWhere cX5_setWhere 5 (some .int), .fieldLink RX5 9 "GemMemos$Stones" "count" "I", .methodLink RX1 187 yX1_isOpen, .instanceMethod yX1_isOpen, .selects RX1 yX1_isOpen yX1_isOpen, .initialized RX1, .code yX1_isOpen cX1_isOpen 2 (some .boolean)] ++ wsX10 ++ wsX20 ++ wsX50)
def wsX5_countSold : List Cond := .code yX5_countSold cX5_countSold 3 (some .int) :: ([.fieldLink RX5 9 "GemMemos$Stones" "count" "I", .methodLink RX5 43 yX5_isSold, .instanceMethod yX5_isSold, .selects RX5 yX5_isSold yX5_isSold, .initialized RX5, .code yX5_isSold cX5_isSold 2 (some .boolean), .fieldLink RX5 37 "GemMemos$Stones" "soldFor" "[I"] ++ wsX50)
def wsX5_countOut : List Cond := .code yX5_countOut cX5_countOut 3 (some .int) :: ([.fieldLink RX5 9 "GemMemos$Stones" "count" "I", .methodLink RX5 47 yX5_isOut, .instanceMethod yX5_isOut, .selects RX5 yX5_isOut yX5_isOut, .initialized RX5, .code yX5_isOut cX5_isOut 2 (some .boolean), .fieldLink RX5 31 "GemMemos$Stones" "memos" "[I"] ++ wsX50)
def wsX1_countOpen : List Cond := .code yX1_countOpen cX1_countOpen 3 (some .int) :: ([.fieldLink RX1 28 "GemMemos$Market" "memos" "LGemMemos$Memos;", .methodLink RX1 187 yX1_isOpen, .instanceMethod yX1_isOpen, .selects RX1 yX1_isOpen yX1_isOpen, .initialized RX1, .code yX1_isOpen cX1_isOpen 2 (some .boolean), .fieldLink RX1 21 "GemMemos$Market" "stones" "LGemMemos$Stones;", .methodLink RX1 126 yX5_setWhere, .instanceMethod yX5_setWhere, .selects RX5 yX5_setWhere yX5_setWhere, .initialized RX5, .code yX5_setWhere cX5_setWhere 5 (some .int), .fieldLink RX5 9 "GemMemos$Stones" "count" "I"] ++ wsX10 ++ wsX20 ++ wsX50)
def wsX3_entries : List Cond := .code yX3_entries cX3_entries 3 (some .int) :: ([.fieldLink RX3 19 "GemMemos$Prices" "coins" "[I"] ++ wsX30)
def wsX1_sumOfBalances : List Cond := .code yX1_sumOfBalances cX1_sumOfBalances 3 (some .int) :: ([.fieldLink RX1 36 "GemMemos$Market" "dealers" "I", .fieldLink RX1 32 "GemMemos$Market" "balances" "[I"] ++ wsX10)
def wsX5_sumSold : List Cond := .code yX5_sumSold cX5_sumSold 3 (some .int) :: ([.fieldLink RX5 9 "GemMemos$Stones" "count" "I", .fieldLink RX5 37 "GemMemos$Stones" "soldFor" "[I"] ++ wsX50)
def wsX1_tellNumber_r1 : List Cond := [Cond.fieldLink RX1 36 "GemMemos$Market" "dealers" "I", Cond.fieldLink RX1 21 "GemMemos$Market" "stones" "LGemMemos$Stones;", Cond.fieldLink RX1 28 "GemMemos$Market" "memos" "LGemMemos$Memos;", Cond.fieldLink RX1 12 "GemMemos$Market" "prices" "LGemMemos$Prices;", Cond.fieldLink RX1 40 "GemMemos$Market" "time" "I", Cond.constant RX1 145 (100000000), Cond.fieldLink RX1 49 "GemMemos$Market" "keptLate" "I", Cond.fieldLink RX1 43 "GemMemos$Market" "grace" "I", Cond.fieldLink RX1 46 "GemMemos$Market" "extra" "I", Cond.constant RX1 77 (-10000001), Cond.methodLink RX1 196 yX5_countSold, Cond.instanceMethod yX5_countSold, Cond.selects RX5 yX5_countSold yX5_countSold, Cond.initialized RX5, Cond.code yX5_countSold cX5_countSold 3 (some .int), Cond.fieldLink RX5 9 "GemMemos$Stones" "count" "I", Cond.methodLink RX5 43 yX5_isSold, Cond.instanceMethod yX5_isSold, Cond.selects RX5 yX5_isSold yX5_isSold, Cond.code yX5_isSold cX5_isSold 2 (some .boolean), Cond.fieldLink RX5 37 "GemMemos$Stones" "soldFor" "[I", Cond.methodLink RX1 199 yX5_countOut, Cond.instanceMethod yX5_countOut, Cond.selects RX5 yX5_countOut yX5_countOut]
def wsX1_tellNumber_r2 : List Cond := [Cond.code yX5_countOut cX5_countOut 3 (some .int), Cond.methodLink RX5 47 yX5_isOut, Cond.instanceMethod yX5_isOut, Cond.selects RX5 yX5_isOut yX5_isOut, Cond.code yX5_isOut cX5_isOut 2 (some .boolean), Cond.fieldLink RX5 31 "GemMemos$Stones" "memos" "[I", Cond.methodLink RX1 203 yX1_countOpen, Cond.instanceMethod yX1_countOpen, Cond.selects RX1 yX1_countOpen yX1_countOpen, Cond.initialized RX1, Cond.code yX1_countOpen cX1_countOpen 3 (some .int), Cond.methodLink RX1 187 yX1_isOpen, Cond.instanceMethod yX1_isOpen, Cond.selects RX1 yX1_isOpen yX1_isOpen, Cond.code yX1_isOpen cX1_isOpen 2 (some .boolean), Cond.methodLink RX1 126 yX5_setWhere, Cond.instanceMethod yX5_setWhere, Cond.selects RX5 yX5_setWhere yX5_setWhere, Cond.code yX5_setWhere cX5_setWhere 5 (some .int), Cond.methodLink RX1 206 yX3_entries, Cond.instanceMethod yX3_entries, Cond.selects RX3 yX3_entries yX3_entries, Cond.initialized RX3, Cond.code yX3_entries cX3_entries 3 (some .int)]
def wsX1_tellNumber_r3 : List Cond := [Cond.fieldLink RX3 19 "GemMemos$Prices" "coins" "[I", Cond.methodLink RX1 209 yX1_sumOfBalances, Cond.instanceMethod yX1_sumOfBalances, Cond.selects RX1 yX1_sumOfBalances yX1_sumOfBalances, Cond.code yX1_sumOfBalances cX1_sumOfBalances 3 (some .int), Cond.fieldLink RX1 32 "GemMemos$Market" "balances" "[I", Cond.methodLink RX1 212 yX5_sumSold, Cond.instanceMethod yX5_sumSold, Cond.selects RX5 yX5_sumSold yX5_sumSold, Cond.code yX5_sumSold cX5_sumSold 3 (some .int)]
def wsX1_tellNumber : List Cond := .code yX1_tellNumber cX1_tellNumber 2 (some .int) :: ((wsX1_tellNumber_r1 ++ (wsX1_tellNumber_r2 ++ wsX1_tellNumber_r3)) ++ wsX10 ++ wsX50 ++ wsX20 ++ wsX30)
def wsX4_init : List Cond := .code yX4_init cX4_init 1 none :: ([.methodLink RX4 3 objectInit, .instanceMethod objectInit, .code objectInit ⟨#[0xb1]⟩ 1 none, .arrayClass .char, .fieldLink RX4 11 "GemMemos$Script" "signs" "[C", .fieldLink RX4 15 "GemMemos$Script" "length" "I", .fieldLink RX4 19 "GemMemos$Script" "kind" "I", .arrayClass .int, .fieldLink RX4 22 "GemMemos$Script" "numbers" "[I", .fieldLink RX4 26 "GemMemos$Script" "next" "I", .fieldLink RX4 29 "GemMemos$Script" "faultAt" "I", .fieldLink RX4 32 "GemMemos$Script" "reason" "I", .fieldLink RX4 35 "GemMemos$Script" "cause" "I"] ++ wsX40)
def wsX4_append : List Cond := .code yX4_append cX4_append 2 (some .int) :: ([.fieldLink RX4 15 "GemMemos$Script" "length" "I", .constant RX4 38 (-10000003), .fieldLink RX4 11 "GemMemos$Script" "signs" "[C"] ++ wsX40)
def wsX4_hasFault : List Cond := .code yX4_hasFault cX4_hasFault 1 (some .boolean) :: ([.fieldLink RX4 29 "GemMemos$Script" "faultAt" "I"] ++ wsX40)
def wsX4_tellFault : List Cond := .code yX4_tellFault cX4_tellFault 2 (some .int) :: ([.fieldLink RX4 29 "GemMemos$Script" "faultAt" "I", .constant RX4 39 (-10000004), .fieldLink RX4 32 "GemMemos$Script" "reason" "I", .fieldLink RX4 35 "GemMemos$Script" "cause" "I"] ++ wsX40)
def wsX4_wordOf : List Cond := .code yX4_wordOf cX4_wordOf 1 (some (.object "java/lang/String")) :: ([])
def wsJ0_coder_7d493 : List Cond := .code yJ0_coder_7d493 cJ0_coder_7d493 1 (some .byte) :: ([.fieldLink RJ0 38 "java/lang/String" "COMPACT_STRINGS" "Z", .fieldLink RJ0 15 "java/lang/String" "coder" "B"])
def wsJ0_length_8abf5 : List Cond := .code yJ0_length_8abf5 cJ0_length_8abf5 1 (some .int) :: ([.fieldLink RJ0 9 "java/lang/String" "value" "[B", .methodLink RJ0 335 yJ0_coder_7d493, .instanceMethod yJ0_coder_7d493, .selects RJ0 yJ0_coder_7d493 yJ0_coder_7d493, .initialized RJ0, .code yJ0_coder_7d493 cJ0_coder_7d493 1 (some .byte), .fieldLink RJ0 38 "java/lang/String" "COMPACT_STRINGS" "Z", .fieldLink RJ0 15 "java/lang/String" "coder" "B"])
def wsX4_signAt : List Cond := .code yX4_signAt cX4_signAt 2 (some .char) :: ([.fieldLink RX4 15 "GemMemos$Script" "length" "I", .fieldLink RX4 11 "GemMemos$Script" "signs" "[C"] ++ wsX40)
def wsJ0_isLatin1_aae02 : List Cond := .code yJ0_isLatin1_aae02 cJ0_isLatin1_aae02 1 (some .boolean) :: ([.fieldLink RJ0 38 "java/lang/String" "COMPACT_STRINGS" "Z", .fieldLink RJ0 15 "java/lang/String" "coder" "B"])
def wsJ3_checkIndex_8e157 : List Cond := .code yJ3_checkIndex_8e157 cJ3_checkIndex_8e157 3 (some .int) :: ([])
def wsJ0_checkIndex_df160 : List Cond := .code yJ0_checkIndex_df160 cJ0_checkIndex_df160 2 none :: ([.fieldLink RJ0 1053 "jdk/internal/util/Preconditions" "SIOOBE_FORMATTER" "Ljava/util/function/BiFunction;", .methodLink RJ0 1059 yJ3_checkIndex_8e157, .static yJ3_checkIndex_8e157, .initialized RJ3, .code yJ3_checkIndex_8e157 cJ3_checkIndex_8e157 3 (some .int)])
def wsJ1_charAt_3b067 : List Cond := .code yJ1_charAt_3b067 cJ1_charAt_3b067 2 (some .char) :: ([.methodLink RJ1 9 yJ0_checkIndex_df160, .static yJ0_checkIndex_df160, .initialized RJ0, .code yJ0_checkIndex_df160 cJ0_checkIndex_df160 2 none, .fieldLink RJ0 1053 "jdk/internal/util/Preconditions" "SIOOBE_FORMATTER" "Ljava/util/function/BiFunction;", .methodLink RJ0 1059 yJ3_checkIndex_8e157, .static yJ3_checkIndex_8e157, .initialized RJ3, .code yJ3_checkIndex_8e157 cJ3_checkIndex_8e157 3 (some .int)])
def wsJ2_length_9d52b : List Cond := .code yJ2_length_9d52b cJ2_length_9d52b 1 (some .int) :: ([])
def wsJ2_checkIndex_2214a : List Cond := .code yJ2_checkIndex_2214a cJ2_checkIndex_2214a 2 none :: ([.methodLink RJ2 48 yJ2_length_9d52b, .static yJ2_length_9d52b, .initialized RJ2, .code yJ2_length_9d52b cJ2_length_9d52b 1 (some .int), .methodLink RJ2 414 yJ0_checkIndex_df160, .static yJ0_checkIndex_df160, .initialized RJ0, .code yJ0_checkIndex_df160 cJ0_checkIndex_df160 2 none, .fieldLink RJ0 1053 "jdk/internal/util/Preconditions" "SIOOBE_FORMATTER" "Ljava/util/function/BiFunction;", .methodLink RJ0 1059 yJ3_checkIndex_8e157, .static yJ3_checkIndex_8e157, .initialized RJ3, .code yJ3_checkIndex_8e157 cJ3_checkIndex_8e157 3 (some .int)])
def wsJ2_getChar_3b067 : List Cond := .code yJ2_getChar_3b067 cJ2_getChar_3b067 2 (some .char) :: ([.fieldLink RJ2 44 "java/lang/StringUTF16" "$assertionsDisabled" "Z", .fieldLink RJ2 59 "java/lang/StringUTF16" "HI_BYTE_SHIFT" "I", .fieldLink RJ2 63 "java/lang/StringUTF16" "LO_BYTE_SHIFT" "I", .methodLink RJ2 48 yJ2_length_9d52b, .static yJ2_length_9d52b, .initialized RJ2, .code yJ2_length_9d52b cJ2_length_9d52b 1 (some .int)])
def wsJ2_charAt_3b067 : List Cond := .code yJ2_charAt_3b067 cJ2_charAt_3b067 2 (some .char) :: ([.methodLink RJ2 67 yJ2_checkIndex_2214a, .static yJ2_checkIndex_2214a, .initialized RJ2, .code yJ2_checkIndex_2214a cJ2_checkIndex_2214a 2 none, .methodLink RJ2 48 yJ2_length_9d52b, .static yJ2_length_9d52b, .code yJ2_length_9d52b cJ2_length_9d52b 1 (some .int), .methodLink RJ2 414 yJ0_checkIndex_df160, .static yJ0_checkIndex_df160, .initialized RJ0, .code yJ0_checkIndex_df160 cJ0_checkIndex_df160 2 none, .fieldLink RJ0 1053 "jdk/internal/util/Preconditions" "SIOOBE_FORMATTER" "Ljava/util/function/BiFunction;", .methodLink RJ0 1059 yJ3_checkIndex_8e157, .static yJ3_checkIndex_8e157, .initialized RJ3, .code yJ3_checkIndex_8e157 cJ3_checkIndex_8e157 3 (some .int), .methodLink RJ2 71 yJ2_getChar_3b067, .static yJ2_getChar_3b067, .code yJ2_getChar_3b067 cJ2_getChar_3b067 2 (some .char), .fieldLink RJ2 44 "java/lang/StringUTF16" "$assertionsDisabled" "Z", .fieldLink RJ2 59 "java/lang/StringUTF16" "HI_BYTE_SHIFT" "I", .fieldLink RJ2 63 "java/lang/StringUTF16" "LO_BYTE_SHIFT" "I"])
def wsJ0_charAt_5068e_r1 : List Cond := [Cond.fieldLink RJ0 9 "java/lang/String" "value" "[B", Cond.methodLink RJ0 492 yJ0_isLatin1_aae02, Cond.instanceMethod yJ0_isLatin1_aae02, Cond.selects RJ0 yJ0_isLatin1_aae02 yJ0_isLatin1_aae02, Cond.initialized RJ0, Cond.code yJ0_isLatin1_aae02 cJ0_isLatin1_aae02 1 (some .boolean), Cond.fieldLink RJ0 38 "java/lang/String" "COMPACT_STRINGS" "Z", Cond.fieldLink RJ0 15 "java/lang/String" "coder" "B", Cond.methodLink RJ0 495 yJ1_charAt_3b067, Cond.static yJ1_charAt_3b067, Cond.initialized RJ1, Cond.code yJ1_charAt_3b067 cJ1_charAt_3b067 2 (some .char), Cond.methodLink RJ1 9 yJ0_checkIndex_df160, Cond.static yJ0_checkIndex_df160, Cond.code yJ0_checkIndex_df160 cJ0_checkIndex_df160 2 none, Cond.fieldLink RJ0 1053 "jdk/internal/util/Preconditions" "SIOOBE_FORMATTER" "Ljava/util/function/BiFunction;", Cond.methodLink RJ0 1059 yJ3_checkIndex_8e157, Cond.static yJ3_checkIndex_8e157, Cond.initialized RJ3, Cond.code yJ3_checkIndex_8e157 cJ3_checkIndex_8e157 3 (some .int), Cond.methodLink RJ0 498 yJ2_charAt_3b067, Cond.static yJ2_charAt_3b067, Cond.initialized RJ2, Cond.code yJ2_charAt_3b067 cJ2_charAt_3b067 2 (some .char)]
def wsJ0_charAt_5068e_r2 : List Cond := [Cond.methodLink RJ2 67 yJ2_checkIndex_2214a, Cond.static yJ2_checkIndex_2214a, Cond.code yJ2_checkIndex_2214a cJ2_checkIndex_2214a 2 none, Cond.methodLink RJ2 48 yJ2_length_9d52b, Cond.static yJ2_length_9d52b, Cond.code yJ2_length_9d52b cJ2_length_9d52b 1 (some .int), Cond.methodLink RJ2 414 yJ0_checkIndex_df160, Cond.methodLink RJ2 71 yJ2_getChar_3b067, Cond.static yJ2_getChar_3b067, Cond.code yJ2_getChar_3b067 cJ2_getChar_3b067 2 (some .char), Cond.fieldLink RJ2 44 "java/lang/StringUTF16" "$assertionsDisabled" "Z", Cond.fieldLink RJ2 59 "java/lang/StringUTF16" "HI_BYTE_SHIFT" "I", Cond.fieldLink RJ2 63 "java/lang/StringUTF16" "LO_BYTE_SHIFT" "I"]
def wsJ0_charAt_5068e : List Cond := .code yJ0_charAt_5068e cJ0_charAt_5068e 2 (some .char) :: ((wsJ0_charAt_5068e_r1 ++ wsJ0_charAt_5068e_r2))
def wsX4_isWordAt_r1 : List Cond := [Cond.methodLink RX4 96 yJ0_length_8abf5, Cond.instanceMethod yJ0_length_8abf5, Cond.selects RJ0 yJ0_length_8abf5 yJ0_length_8abf5, Cond.initialized RJ0, Cond.code yJ0_length_8abf5 cJ0_length_8abf5 1 (some .int), Cond.fieldLink RJ0 9 "java/lang/String" "value" "[B", Cond.methodLink RJ0 335 yJ0_coder_7d493, Cond.instanceMethod yJ0_coder_7d493, Cond.selects RJ0 yJ0_coder_7d493 yJ0_coder_7d493, Cond.code yJ0_coder_7d493 cJ0_coder_7d493 1 (some .byte), Cond.fieldLink RJ0 38 "java/lang/String" "COMPACT_STRINGS" "Z", Cond.fieldLink RJ0 15 "java/lang/String" "coder" "B", Cond.methodLink RX4 122 yX4_signAt, Cond.instanceMethod yX4_signAt, Cond.selects RX4 yX4_signAt yX4_signAt, Cond.initialized RX4, Cond.code yX4_signAt cX4_signAt 2 (some .char), Cond.fieldLink RX4 15 "GemMemos$Script" "length" "I", Cond.fieldLink RX4 11 "GemMemos$Script" "signs" "[C", Cond.methodLink RX4 126 yJ0_charAt_5068e, Cond.instanceMethod yJ0_charAt_5068e, Cond.selects RJ0 yJ0_charAt_5068e yJ0_charAt_5068e, Cond.code yJ0_charAt_5068e cJ0_charAt_5068e 2 (some .char), Cond.methodLink RJ0 492 yJ0_isLatin1_aae02]
def wsX4_isWordAt_r2 : List Cond := [Cond.instanceMethod yJ0_isLatin1_aae02, Cond.selects RJ0 yJ0_isLatin1_aae02 yJ0_isLatin1_aae02, Cond.code yJ0_isLatin1_aae02 cJ0_isLatin1_aae02 1 (some .boolean), Cond.methodLink RJ0 495 yJ1_charAt_3b067, Cond.static yJ1_charAt_3b067, Cond.initialized RJ1, Cond.code yJ1_charAt_3b067 cJ1_charAt_3b067 2 (some .char), Cond.methodLink RJ1 9 yJ0_checkIndex_df160, Cond.static yJ0_checkIndex_df160, Cond.code yJ0_checkIndex_df160 cJ0_checkIndex_df160 2 none, Cond.fieldLink RJ0 1053 "jdk/internal/util/Preconditions" "SIOOBE_FORMATTER" "Ljava/util/function/BiFunction;", Cond.methodLink RJ0 1059 yJ3_checkIndex_8e157, Cond.static yJ3_checkIndex_8e157, Cond.initialized RJ3, Cond.code yJ3_checkIndex_8e157 cJ3_checkIndex_8e157 3 (some .int), Cond.methodLink RJ0 498 yJ2_charAt_3b067, Cond.static yJ2_charAt_3b067, Cond.initialized RJ2, Cond.code yJ2_charAt_3b067 cJ2_charAt_3b067 2 (some .char), Cond.methodLink RJ2 67 yJ2_checkIndex_2214a, Cond.static yJ2_checkIndex_2214a, Cond.code yJ2_checkIndex_2214a cJ2_checkIndex_2214a 2 none, Cond.methodLink RJ2 48 yJ2_length_9d52b, Cond.static yJ2_length_9d52b]
def wsX4_isWordAt_r3 : List Cond := [Cond.code yJ2_length_9d52b cJ2_length_9d52b 1 (some .int), Cond.methodLink RJ2 414 yJ0_checkIndex_df160, Cond.methodLink RJ2 71 yJ2_getChar_3b067, Cond.static yJ2_getChar_3b067, Cond.code yJ2_getChar_3b067 cJ2_getChar_3b067 2 (some .char), Cond.fieldLink RJ2 44 "java/lang/StringUTF16" "$assertionsDisabled" "Z", Cond.fieldLink RJ2 59 "java/lang/StringUTF16" "HI_BYTE_SHIFT" "I", Cond.fieldLink RJ2 63 "java/lang/StringUTF16" "LO_BYTE_SHIFT" "I"]
def wsX4_isWordAt : List Cond := .code yX4_isWordAt cX4_isWordAt 4 (some .boolean) :: ((wsX4_isWordAt_r1 ++ (wsX4_isWordAt_r2 ++ wsX4_isWordAt_r3)) ++ wsX40)
def wsX4_howManyNumbers : List Cond := .code yX4_howManyNumbers cX4_howManyNumbers 1 (some .int) :: ([])
def wsX4_isDigit : List Cond := .code yX4_isDigit cX4_isDigit 1 (some .boolean) :: ([])
def wsX4_digitsAt : List Cond := .code yX4_digitsAt cX4_digitsAt 3 (some .int) :: ([.methodLink RX4 122 yX4_signAt, .instanceMethod yX4_signAt, .selects RX4 yX4_signAt yX4_signAt, .initialized RX4, .code yX4_signAt cX4_signAt 2 (some .char), .fieldLink RX4 15 "GemMemos$Script" "length" "I", .fieldLink RX4 11 "GemMemos$Script" "signs" "[C", .methodLink RX4 135 yX4_isDigit, .static yX4_isDigit, .code yX4_isDigit cX4_isDigit 1 (some .boolean)] ++ wsX40)
def wsX4_valueAt : List Cond := .code yX4_valueAt cX4_valueAt 5 (some .int) :: ([.methodLink RX4 122 yX4_signAt, .instanceMethod yX4_signAt, .selects RX4 yX4_signAt yX4_signAt, .initialized RX4, .code yX4_signAt cX4_signAt 2 (some .char), .fieldLink RX4 15 "GemMemos$Script" "length" "I", .fieldLink RX4 11 "GemMemos$Script" "signs" "[C"] ++ wsX40)
def wsX4_readNumbers : List Cond := .code yX4_readNumbers cX4_readNumbers 6 (some .boolean) :: ([.fieldLink RX4 22 "GemMemos$Script" "numbers" "[I", .fieldLink RX4 26 "GemMemos$Script" "next" "I", .methodLink RX4 129 yX4_digitsAt, .instanceMethod yX4_digitsAt, .selects RX4 yX4_digitsAt yX4_digitsAt, .initialized RX4, .code yX4_digitsAt cX4_digitsAt 3 (some .int), .methodLink RX4 122 yX4_signAt, .instanceMethod yX4_signAt, .selects RX4 yX4_signAt yX4_signAt, .code yX4_signAt cX4_signAt 2 (some .char), .fieldLink RX4 15 "GemMemos$Script" "length" "I", .fieldLink RX4 11 "GemMemos$Script" "signs" "[C", .methodLink RX4 135 yX4_isDigit, .static yX4_isDigit, .code yX4_isDigit cX4_isDigit 1 (some .boolean), .methodLink RX4 132 yX4_valueAt, .instanceMethod yX4_valueAt, .selects RX4 yX4_valueAt yX4_valueAt, .code yX4_valueAt cX4_valueAt 5 (some .int)] ++ wsX40)
def wsX4_readCommand_r1 : List Cond := [Cond.fieldLink RX4 19 "GemMemos$Script" "kind" "I", Cond.methodLink RX4 88 yX4_wordOf, Cond.static yX4_wordOf, Cond.initialized RX4, Cond.code yX4_wordOf cX4_wordOf 1 (some (.object "java/lang/String")), Cond.methodLink RX4 92 yX4_isWordAt, Cond.instanceMethod yX4_isWordAt, Cond.selects RX4 yX4_isWordAt yX4_isWordAt, Cond.code yX4_isWordAt cX4_isWordAt 4 (some .boolean), Cond.methodLink RX4 96 yJ0_length_8abf5, Cond.instanceMethod yJ0_length_8abf5, Cond.selects RJ0 yJ0_length_8abf5 yJ0_length_8abf5, Cond.initialized RJ0, Cond.code yJ0_length_8abf5 cJ0_length_8abf5 1 (some .int), Cond.fieldLink RJ0 9 "java/lang/String" "value" "[B", Cond.methodLink RJ0 335 yJ0_coder_7d493, Cond.instanceMethod yJ0_coder_7d493, Cond.selects RJ0 yJ0_coder_7d493 yJ0_coder_7d493, Cond.code yJ0_coder_7d493 cJ0_coder_7d493 1 (some .byte), Cond.fieldLink RJ0 38 "java/lang/String" "COMPACT_STRINGS" "Z", Cond.fieldLink RJ0 15 "java/lang/String" "coder" "B", Cond.methodLink RX4 122 yX4_signAt, Cond.instanceMethod yX4_signAt, Cond.selects RX4 yX4_signAt yX4_signAt]
def wsX4_readCommand_r2 : List Cond := [Cond.code yX4_signAt cX4_signAt 2 (some .char), Cond.fieldLink RX4 15 "GemMemos$Script" "length" "I", Cond.fieldLink RX4 11 "GemMemos$Script" "signs" "[C", Cond.methodLink RX4 126 yJ0_charAt_5068e, Cond.instanceMethod yJ0_charAt_5068e, Cond.selects RJ0 yJ0_charAt_5068e yJ0_charAt_5068e, Cond.code yJ0_charAt_5068e cJ0_charAt_5068e 2 (some .char), Cond.methodLink RJ0 492 yJ0_isLatin1_aae02, Cond.instanceMethod yJ0_isLatin1_aae02, Cond.selects RJ0 yJ0_isLatin1_aae02 yJ0_isLatin1_aae02, Cond.code yJ0_isLatin1_aae02 cJ0_isLatin1_aae02 1 (some .boolean), Cond.methodLink RJ0 495 yJ1_charAt_3b067, Cond.static yJ1_charAt_3b067, Cond.initialized RJ1, Cond.code yJ1_charAt_3b067 cJ1_charAt_3b067 2 (some .char), Cond.methodLink RJ1 9 yJ0_checkIndex_df160, Cond.static yJ0_checkIndex_df160, Cond.code yJ0_checkIndex_df160 cJ0_checkIndex_df160 2 none, Cond.fieldLink RJ0 1053 "jdk/internal/util/Preconditions" "SIOOBE_FORMATTER" "Ljava/util/function/BiFunction;", Cond.methodLink RJ0 1059 yJ3_checkIndex_8e157, Cond.static yJ3_checkIndex_8e157, Cond.initialized RJ3, Cond.code yJ3_checkIndex_8e157 cJ3_checkIndex_8e157 3 (some .int), Cond.methodLink RJ0 498 yJ2_charAt_3b067]
def wsX4_readCommand_r3 : List Cond := [Cond.static yJ2_charAt_3b067, Cond.initialized RJ2, Cond.code yJ2_charAt_3b067 cJ2_charAt_3b067 2 (some .char), Cond.methodLink RJ2 67 yJ2_checkIndex_2214a, Cond.static yJ2_checkIndex_2214a, Cond.code yJ2_checkIndex_2214a cJ2_checkIndex_2214a 2 none, Cond.methodLink RJ2 48 yJ2_length_9d52b, Cond.static yJ2_length_9d52b, Cond.code yJ2_length_9d52b cJ2_length_9d52b 1 (some .int), Cond.methodLink RJ2 414 yJ0_checkIndex_df160, Cond.methodLink RJ2 71 yJ2_getChar_3b067, Cond.static yJ2_getChar_3b067, Cond.code yJ2_getChar_3b067 cJ2_getChar_3b067 2 (some .char), Cond.fieldLink RJ2 44 "java/lang/StringUTF16" "$assertionsDisabled" "Z", Cond.fieldLink RJ2 59 "java/lang/StringUTF16" "HI_BYTE_SHIFT" "I", Cond.fieldLink RJ2 63 "java/lang/StringUTF16" "LO_BYTE_SHIFT" "I", Cond.methodLink RX4 101 yX4_howManyNumbers, Cond.static yX4_howManyNumbers, Cond.code yX4_howManyNumbers cX4_howManyNumbers 1 (some .int), Cond.methodLink RX4 104 yX4_readNumbers, Cond.instanceMethod yX4_readNumbers, Cond.selects RX4 yX4_readNumbers yX4_readNumbers, Cond.code yX4_readNumbers cX4_readNumbers 6 (some .boolean), Cond.fieldLink RX4 22 "GemMemos$Script" "numbers" "[I"]
def wsX4_readCommand_r4 : List Cond := [Cond.fieldLink RX4 26 "GemMemos$Script" "next" "I", Cond.methodLink RX4 129 yX4_digitsAt, Cond.instanceMethod yX4_digitsAt, Cond.selects RX4 yX4_digitsAt yX4_digitsAt, Cond.code yX4_digitsAt cX4_digitsAt 3 (some .int), Cond.methodLink RX4 135 yX4_isDigit, Cond.static yX4_isDigit, Cond.code yX4_isDigit cX4_isDigit 1 (some .boolean), Cond.methodLink RX4 132 yX4_valueAt, Cond.instanceMethod yX4_valueAt, Cond.selects RX4 yX4_valueAt yX4_valueAt, Cond.code yX4_valueAt cX4_valueAt 5 (some .int)]
def wsX4_readCommand : List Cond := .code yX4_readCommand cX4_readCommand 4 (some .boolean) :: ((wsX4_readCommand_r1 ++ (wsX4_readCommand_r2 ++ (wsX4_readCommand_r3 ++ wsX4_readCommand_r4))) ++ wsX40)
def wsX4_putFault : List Cond := .code yX4_putFault cX4_putFault 4 none :: ([.fieldLink RX4 29 "GemMemos$Script" "faultAt" "I", .fieldLink RX4 32 "GemMemos$Script" "reason" "I", .fieldLink RX4 35 "GemMemos$Script" "cause" "I"] ++ wsX40)
def wsX4_perform_r1 : List Cond := [Cond.fieldLink RX4 22 "GemMemos$Script" "numbers" "[I", Cond.fieldLink RX4 19 "GemMemos$Script" "kind" "I", Cond.methodLink RX4 58 yX5_has, Cond.instanceMethod yX5_has, Cond.selects RX5 yX5_has yX5_has, Cond.initialized RX5, Cond.code yX5_has cX5_has 2 (some .boolean), Cond.fieldLink RX5 9 "GemMemos$Stones" "count" "I", Cond.methodLink RX4 63 yX1_lendStones, Cond.instanceMethod yX1_lendStones, Cond.selects RX1 yX1_lendStones yX1_lendStones, Cond.initialized RX1, Cond.code yX1_lendStones cX1_lendStones 7 (some .int), Cond.fieldLink RX1 21 "GemMemos$Market" "stones" "LGemMemos$Stones;", Cond.constant RX1 77 (-10000001), Cond.constant RX1 97 (-10000002), Cond.fieldLink RX1 28 "GemMemos$Market" "memos" "LGemMemos$Memos;", Cond.fieldLink RX1 40 "GemMemos$Market" "time" "I", Cond.constant RX1 68 (-10000003), Cond.methodLink RX1 69 yX1_hasDealer, Cond.instanceMethod yX1_hasDealer, Cond.selects RX1 yX1_hasDealer yX1_hasDealer, Cond.code yX1_hasDealer cX1_hasDealer 2 (some .boolean), Cond.fieldLink RX1 36 "GemMemos$Market" "dealers" "I"]
def wsX4_perform_r2 : List Cond := [Cond.methodLink RX1 101 yX1_canLend, Cond.instanceMethod yX1_canLend, Cond.selects RX1 yX1_canLend yX1_canLend, Cond.code yX1_canLend cX1_canLend 4 (some .boolean), Cond.methodLink RX1 113 yX1_priceOf, Cond.instanceMethod yX1_priceOf, Cond.selects RX1 yX1_priceOf yX1_priceOf, Cond.code yX1_priceOf cX1_priceOf 3 (some .int), Cond.fieldLink RX1 12 "GemMemos$Market" "prices" "LGemMemos$Prices;", Cond.methodLink RX1 159 yX5_sieveOf, Cond.instanceMethod yX5_sieveOf, Cond.selects RX5 yX5_sieveOf yX5_sieveOf, Cond.code yX5_sieveOf cX5_sieveOf 3 (some .int), Cond.fieldLink RX5 15 "GemMemos$Stones" "weights" "[I", Cond.methodLink RX1 215 yX3_rateFor, Cond.instanceMethod yX3_rateFor, Cond.selects RX3 yX3_rateFor yX3_rateFor, Cond.initialized RX3, Cond.code yX3_rateFor cX3_rateFor 6 (some .int), Cond.fieldLink RX3 19 "GemMemos$Prices" "coins" "[I", Cond.fieldLink RX3 9 "GemMemos$Prices" "sieves" "[I", Cond.fieldLink RX3 13 "GemMemos$Prices" "colours" "[I", Cond.fieldLink RX3 16 "GemMemos$Prices" "clarities" "[I", Cond.methodLink RX1 104 yX2_add]
def wsX4_perform_r3 : List Cond := [Cond.instanceMethod yX2_add, Cond.selects RX2 yX2_add yX2_add, Cond.initialized RX2, Cond.code yX2_add cX2_add 6 (some .int), Cond.fieldLink RX2 9 "GemMemos$Memos" "count" "I", Cond.fieldLink RX2 15 "GemMemos$Memos" "lenders" "[I", Cond.fieldLink RX2 19 "GemMemos$Memos" "takers" "[I", Cond.fieldLink RX2 22 "GemMemos$Memos" "lastDays" "[I", Cond.fieldLink RX2 25 "GemMemos$Memos" "lent" "[I", Cond.fieldLink RX2 28 "GemMemos$Memos" "kept" "[I", Cond.methodLink RX4 67 yX1_giveBack, Cond.instanceMethod yX1_giveBack, Cond.selects RX1 yX1_giveBack yX1_giveBack, Cond.code yX1_giveBack cX1_giveBack 3 (some .int), Cond.methodLink RX1 117 yX5_has, Cond.methodLink RX1 120 yX5_isOut, Cond.instanceMethod yX5_isOut, Cond.selects RX5 yX5_isOut yX5_isOut, Cond.code yX5_isOut cX5_isOut 2 (some .boolean), Cond.fieldLink RX5 31 "GemMemos$Stones" "memos" "[I", Cond.methodLink RX1 126 yX5_setWhere, Cond.instanceMethod yX5_setWhere, Cond.selects RX5 yX5_setWhere yX5_setWhere, Cond.code yX5_setWhere cX5_setWhere 5 (some .int)]
def wsX4_perform_r4 : List Cond := [Cond.methodLink RX1 130 yJ6_bitCount_0f7a4, Cond.static yJ6_bitCount_0f7a4, Cond.initialized RJ6, Cond.code yJ6_bitCount_0f7a4 cJ6_bitCount_0f7a4 1 (some .int), Cond.constant RJ6 265 (1431655765), Cond.constant RJ6 266 (858993459), Cond.constant RJ6 267 (252645135), Cond.methodLink RX4 71 yX1_keepStone, Cond.instanceMethod yX1_keepStone, Cond.selects RX1 yX1_keepStone yX1_keepStone, Cond.code yX1_keepStone cX1_keepStone 3 (some .int), Cond.methodLink RX1 135 yX1_keepFor, Cond.instanceMethod yX1_keepFor, Cond.selects RX1 yX1_keepFor yX1_keepFor, Cond.code yX1_keepFor cX1_keepFor 6 none, Cond.fieldLink RX1 32 "GemMemos$Market" "balances" "[I", Cond.methodLink RX1 218 yX2_has, Cond.instanceMethod yX2_has, Cond.selects RX2 yX2_has yX2_has, Cond.code yX2_has cX2_has 2 (some .boolean), Cond.methodLink RX4 74 yX1_sellStone, Cond.instanceMethod yX1_sellStone, Cond.selects RX1 yX1_sellStone yX1_sellStone, Cond.code yX1_sellStone cX1_sellStone 4 (some .int)]
def wsX4_perform_r5 : List Cond := [Cond.constant RX1 145 (100000000), Cond.methodLink RX1 139 yX5_isSold, Cond.instanceMethod yX5_isSold, Cond.selects RX5 yX5_isSold yX5_isSold, Cond.code yX5_isSold cX5_isSold 2 (some .boolean), Cond.fieldLink RX5 37 "GemMemos$Stones" "soldFor" "[I", Cond.methodLink RX4 78 yX1_regrade, Cond.instanceMethod yX1_regrade, Cond.selects RX1 yX1_regrade yX1_regrade, Cond.code yX1_regrade cX1_regrade 6 (some .int), Cond.static yX6_isLook, Cond.initialized RX6, Cond.code yX6_isLook cX6_isLook 2 (some .boolean), Cond.methodLink RX4 82 yX1_putRate, Cond.instanceMethod yX1_putRate, Cond.selects RX1 yX1_putRate yX1_putRate, Cond.code yX1_putRate cX1_putRate 6 (some .int), Cond.static yX6_isGrade, Cond.code yX6_isGrade cX6_isGrade 3 (some .boolean), Cond.methodLink RX6 180 yX6_isLook, Cond.methodLink RX1 86 yX3_ownRate, Cond.instanceMethod yX3_ownRate, Cond.selects RX3 yX3_ownRate yX3_ownRate, Cond.code yX3_ownRate cX3_ownRate 5 (some .int)]
def wsX4_perform_r6 : List Cond := [Cond.methodLink RX3 22 yX3_isEntryOf, Cond.instanceMethod yX3_isEntryOf, Cond.selects RX3 yX3_isEntryOf yX3_isEntryOf, Cond.code yX3_isEntryOf cX3_isEntryOf 5 (some .boolean), Cond.methodLink RX1 90 yX3_change, Cond.instanceMethod yX3_change, Cond.selects RX3 yX3_change yX3_change, Cond.code yX3_change cX3_change 6 none, Cond.methodLink RX1 94 yX3_add, Cond.instanceMethod yX3_add, Cond.selects RX3 yX3_add yX3_add, Cond.code yX3_add cX3_add 6 (some .boolean), Cond.methodLink RX4 85 yX1_passDays, Cond.instanceMethod yX1_passDays, Cond.selects RX1 yX1_passDays yX1_passDays, Cond.code yX1_passDays cX1_passDays 4 (some .int), Cond.fieldLink RX1 49 "GemMemos$Market" "keptLate" "I", Cond.methodLink RX1 152 yX1_keepLateOnes, Cond.instanceMethod yX1_keepLateOnes, Cond.selects RX1 yX1_keepLateOnes yX1_keepLateOnes, Cond.code yX1_keepLateOnes cX1_keepLateOnes 4 (some .int), Cond.fieldLink RX1 43 "GemMemos$Market" "grace" "I", Cond.fieldLink RX1 46 "GemMemos$Market" "extra" "I"]
def wsX4_perform : List Cond := .code yX4_perform cX4_perform 7 (some .int) :: ((wsX4_perform_r1 ++ (wsX4_perform_r2 ++ (wsX4_perform_r3 ++ (wsX4_perform_r4 ++ (wsX4_perform_r5 ++ wsX4_perform_r6))))) ++ wsX40 ++ wsX10 ++ wsX50 ++ wsX30 ++ wsX20)
def wsX4_runOn_r1 : List Cond := [Cond.fieldLink RX4 29 "GemMemos$Script" "faultAt" "I", Cond.fieldLink RX4 15 "GemMemos$Script" "length" "I", Cond.constant RX4 39 (-10000004), Cond.fieldLink RX4 26 "GemMemos$Script" "next" "I", Cond.methodLink RX4 40 yX4_readCommand, Cond.instanceMethod yX4_readCommand, Cond.selects RX4 yX4_readCommand yX4_readCommand, Cond.initialized RX4, Cond.code yX4_readCommand cX4_readCommand 4 (some .boolean), Cond.fieldLink RX4 19 "GemMemos$Script" "kind" "I", Cond.methodLink RX4 88 yX4_wordOf, Cond.static yX4_wordOf, Cond.code yX4_wordOf cX4_wordOf 1 (some (.object "java/lang/String")), Cond.methodLink RX4 92 yX4_isWordAt, Cond.instanceMethod yX4_isWordAt, Cond.selects RX4 yX4_isWordAt yX4_isWordAt, Cond.code yX4_isWordAt cX4_isWordAt 4 (some .boolean), Cond.methodLink RX4 96 yJ0_length_8abf5, Cond.instanceMethod yJ0_length_8abf5, Cond.selects RJ0 yJ0_length_8abf5 yJ0_length_8abf5, Cond.initialized RJ0, Cond.code yJ0_length_8abf5 cJ0_length_8abf5 1 (some .int), Cond.fieldLink RJ0 9 "java/lang/String" "value" "[B", Cond.methodLink RJ0 335 yJ0_coder_7d493]
def wsX4_runOn_r2 : List Cond := [Cond.instanceMethod yJ0_coder_7d493, Cond.selects RJ0 yJ0_coder_7d493 yJ0_coder_7d493, Cond.code yJ0_coder_7d493 cJ0_coder_7d493 1 (some .byte), Cond.fieldLink RJ0 38 "java/lang/String" "COMPACT_STRINGS" "Z", Cond.fieldLink RJ0 15 "java/lang/String" "coder" "B", Cond.methodLink RX4 122 yX4_signAt, Cond.instanceMethod yX4_signAt, Cond.selects RX4 yX4_signAt yX4_signAt, Cond.code yX4_signAt cX4_signAt 2 (some .char), Cond.fieldLink RX4 11 "GemMemos$Script" "signs" "[C", Cond.methodLink RX4 126 yJ0_charAt_5068e, Cond.instanceMethod yJ0_charAt_5068e, Cond.selects RJ0 yJ0_charAt_5068e yJ0_charAt_5068e, Cond.code yJ0_charAt_5068e cJ0_charAt_5068e 2 (some .char), Cond.methodLink RJ0 492 yJ0_isLatin1_aae02, Cond.instanceMethod yJ0_isLatin1_aae02, Cond.selects RJ0 yJ0_isLatin1_aae02 yJ0_isLatin1_aae02, Cond.code yJ0_isLatin1_aae02 cJ0_isLatin1_aae02 1 (some .boolean), Cond.methodLink RJ0 495 yJ1_charAt_3b067, Cond.static yJ1_charAt_3b067, Cond.initialized RJ1, Cond.code yJ1_charAt_3b067 cJ1_charAt_3b067 2 (some .char), Cond.methodLink RJ1 9 yJ0_checkIndex_df160, Cond.static yJ0_checkIndex_df160]
def wsX4_runOn_r3 : List Cond := [Cond.code yJ0_checkIndex_df160 cJ0_checkIndex_df160 2 none, Cond.fieldLink RJ0 1053 "jdk/internal/util/Preconditions" "SIOOBE_FORMATTER" "Ljava/util/function/BiFunction;", Cond.methodLink RJ0 1059 yJ3_checkIndex_8e157, Cond.static yJ3_checkIndex_8e157, Cond.initialized RJ3, Cond.code yJ3_checkIndex_8e157 cJ3_checkIndex_8e157 3 (some .int), Cond.methodLink RJ0 498 yJ2_charAt_3b067, Cond.static yJ2_charAt_3b067, Cond.initialized RJ2, Cond.code yJ2_charAt_3b067 cJ2_charAt_3b067 2 (some .char), Cond.methodLink RJ2 67 yJ2_checkIndex_2214a, Cond.static yJ2_checkIndex_2214a, Cond.code yJ2_checkIndex_2214a cJ2_checkIndex_2214a 2 none, Cond.methodLink RJ2 48 yJ2_length_9d52b, Cond.static yJ2_length_9d52b, Cond.code yJ2_length_9d52b cJ2_length_9d52b 1 (some .int), Cond.methodLink RJ2 414 yJ0_checkIndex_df160, Cond.methodLink RJ2 71 yJ2_getChar_3b067, Cond.static yJ2_getChar_3b067, Cond.code yJ2_getChar_3b067 cJ2_getChar_3b067 2 (some .char), Cond.fieldLink RJ2 44 "java/lang/StringUTF16" "$assertionsDisabled" "Z", Cond.fieldLink RJ2 59 "java/lang/StringUTF16" "HI_BYTE_SHIFT" "I", Cond.fieldLink RJ2 63 "java/lang/StringUTF16" "LO_BYTE_SHIFT" "I", Cond.methodLink RX4 101 yX4_howManyNumbers]
def wsX4_runOn_r4 : List Cond := [Cond.static yX4_howManyNumbers, Cond.code yX4_howManyNumbers cX4_howManyNumbers 1 (some .int), Cond.methodLink RX4 104 yX4_readNumbers, Cond.instanceMethod yX4_readNumbers, Cond.selects RX4 yX4_readNumbers yX4_readNumbers, Cond.code yX4_readNumbers cX4_readNumbers 6 (some .boolean), Cond.fieldLink RX4 22 "GemMemos$Script" "numbers" "[I", Cond.methodLink RX4 129 yX4_digitsAt, Cond.instanceMethod yX4_digitsAt, Cond.selects RX4 yX4_digitsAt yX4_digitsAt, Cond.code yX4_digitsAt cX4_digitsAt 3 (some .int), Cond.methodLink RX4 135 yX4_isDigit, Cond.static yX4_isDigit, Cond.code yX4_isDigit cX4_isDigit 1 (some .boolean), Cond.methodLink RX4 132 yX4_valueAt, Cond.instanceMethod yX4_valueAt, Cond.selects RX4 yX4_valueAt yX4_valueAt, Cond.code yX4_valueAt cX4_valueAt 5 (some .int), Cond.methodLink RX4 44 yX4_putFault, Cond.instanceMethod yX4_putFault, Cond.selects RX4 yX4_putFault yX4_putFault, Cond.code yX4_putFault cX4_putFault 4 none, Cond.fieldLink RX4 32 "GemMemos$Script" "reason" "I", Cond.fieldLink RX4 35 "GemMemos$Script" "cause" "I"]
def wsX4_runOn_r5 : List Cond := [Cond.methodLink RX4 48 yX4_perform, Cond.instanceMethod yX4_perform, Cond.selects RX4 yX4_perform yX4_perform, Cond.code yX4_perform cX4_perform 7 (some .int), Cond.methodLink RX4 58 yX5_has, Cond.instanceMethod yX5_has, Cond.selects RX5 yX5_has yX5_has, Cond.initialized RX5, Cond.code yX5_has cX5_has 2 (some .boolean), Cond.fieldLink RX5 9 "GemMemos$Stones" "count" "I", Cond.methodLink RX4 63 yX1_lendStones, Cond.instanceMethod yX1_lendStones, Cond.selects RX1 yX1_lendStones yX1_lendStones, Cond.initialized RX1, Cond.code yX1_lendStones cX1_lendStones 7 (some .int), Cond.fieldLink RX1 21 "GemMemos$Market" "stones" "LGemMemos$Stones;", Cond.constant RX1 77 (-10000001), Cond.constant RX1 97 (-10000002), Cond.fieldLink RX1 28 "GemMemos$Market" "memos" "LGemMemos$Memos;", Cond.fieldLink RX1 40 "GemMemos$Market" "time" "I", Cond.constant RX1 68 (-10000003), Cond.methodLink RX1 69 yX1_hasDealer, Cond.instanceMethod yX1_hasDealer, Cond.selects RX1 yX1_hasDealer yX1_hasDealer]
def wsX4_runOn_r6 : List Cond := [Cond.code yX1_hasDealer cX1_hasDealer 2 (some .boolean), Cond.fieldLink RX1 36 "GemMemos$Market" "dealers" "I", Cond.methodLink RX1 101 yX1_canLend, Cond.instanceMethod yX1_canLend, Cond.selects RX1 yX1_canLend yX1_canLend, Cond.code yX1_canLend cX1_canLend 4 (some .boolean), Cond.methodLink RX1 113 yX1_priceOf, Cond.instanceMethod yX1_priceOf, Cond.selects RX1 yX1_priceOf yX1_priceOf, Cond.code yX1_priceOf cX1_priceOf 3 (some .int), Cond.fieldLink RX1 12 "GemMemos$Market" "prices" "LGemMemos$Prices;", Cond.methodLink RX1 159 yX5_sieveOf, Cond.instanceMethod yX5_sieveOf, Cond.selects RX5 yX5_sieveOf yX5_sieveOf, Cond.code yX5_sieveOf cX5_sieveOf 3 (some .int), Cond.fieldLink RX5 15 "GemMemos$Stones" "weights" "[I", Cond.methodLink RX1 215 yX3_rateFor, Cond.instanceMethod yX3_rateFor, Cond.selects RX3 yX3_rateFor yX3_rateFor, Cond.initialized RX3, Cond.code yX3_rateFor cX3_rateFor 6 (some .int), Cond.fieldLink RX3 19 "GemMemos$Prices" "coins" "[I", Cond.fieldLink RX3 9 "GemMemos$Prices" "sieves" "[I", Cond.fieldLink RX3 13 "GemMemos$Prices" "colours" "[I"]
def wsX4_runOn_r7 : List Cond := [Cond.fieldLink RX3 16 "GemMemos$Prices" "clarities" "[I", Cond.methodLink RX1 104 yX2_add, Cond.instanceMethod yX2_add, Cond.selects RX2 yX2_add yX2_add, Cond.initialized RX2, Cond.code yX2_add cX2_add 6 (some .int), Cond.fieldLink RX2 9 "GemMemos$Memos" "count" "I", Cond.fieldLink RX2 15 "GemMemos$Memos" "lenders" "[I", Cond.fieldLink RX2 19 "GemMemos$Memos" "takers" "[I", Cond.fieldLink RX2 22 "GemMemos$Memos" "lastDays" "[I", Cond.fieldLink RX2 25 "GemMemos$Memos" "lent" "[I", Cond.fieldLink RX2 28 "GemMemos$Memos" "kept" "[I", Cond.methodLink RX4 67 yX1_giveBack, Cond.instanceMethod yX1_giveBack, Cond.selects RX1 yX1_giveBack yX1_giveBack, Cond.code yX1_giveBack cX1_giveBack 3 (some .int), Cond.methodLink RX1 117 yX5_has, Cond.methodLink RX1 120 yX5_isOut, Cond.instanceMethod yX5_isOut, Cond.selects RX5 yX5_isOut yX5_isOut, Cond.code yX5_isOut cX5_isOut 2 (some .boolean), Cond.fieldLink RX5 31 "GemMemos$Stones" "memos" "[I", Cond.methodLink RX1 126 yX5_setWhere, Cond.instanceMethod yX5_setWhere]
def wsX4_runOn_r8 : List Cond := [Cond.selects RX5 yX5_setWhere yX5_setWhere, Cond.code yX5_setWhere cX5_setWhere 5 (some .int), Cond.methodLink RX1 130 yJ6_bitCount_0f7a4, Cond.static yJ6_bitCount_0f7a4, Cond.initialized RJ6, Cond.code yJ6_bitCount_0f7a4 cJ6_bitCount_0f7a4 1 (some .int), Cond.constant RJ6 265 (1431655765), Cond.constant RJ6 266 (858993459), Cond.constant RJ6 267 (252645135), Cond.methodLink RX4 71 yX1_keepStone, Cond.instanceMethod yX1_keepStone, Cond.selects RX1 yX1_keepStone yX1_keepStone, Cond.code yX1_keepStone cX1_keepStone 3 (some .int), Cond.methodLink RX1 135 yX1_keepFor, Cond.instanceMethod yX1_keepFor, Cond.selects RX1 yX1_keepFor yX1_keepFor, Cond.code yX1_keepFor cX1_keepFor 6 none, Cond.fieldLink RX1 32 "GemMemos$Market" "balances" "[I", Cond.methodLink RX1 218 yX2_has, Cond.instanceMethod yX2_has, Cond.selects RX2 yX2_has yX2_has, Cond.code yX2_has cX2_has 2 (some .boolean), Cond.methodLink RX4 74 yX1_sellStone, Cond.instanceMethod yX1_sellStone]
def wsX4_runOn_r9 : List Cond := [Cond.selects RX1 yX1_sellStone yX1_sellStone, Cond.code yX1_sellStone cX1_sellStone 4 (some .int), Cond.constant RX1 145 (100000000), Cond.methodLink RX1 139 yX5_isSold, Cond.instanceMethod yX5_isSold, Cond.selects RX5 yX5_isSold yX5_isSold, Cond.code yX5_isSold cX5_isSold 2 (some .boolean), Cond.fieldLink RX5 37 "GemMemos$Stones" "soldFor" "[I", Cond.methodLink RX4 78 yX1_regrade, Cond.instanceMethod yX1_regrade, Cond.selects RX1 yX1_regrade yX1_regrade, Cond.code yX1_regrade cX1_regrade 6 (some .int), Cond.static yX6_isLook, Cond.initialized RX6, Cond.code yX6_isLook cX6_isLook 2 (some .boolean), Cond.methodLink RX4 82 yX1_putRate, Cond.instanceMethod yX1_putRate, Cond.selects RX1 yX1_putRate yX1_putRate, Cond.code yX1_putRate cX1_putRate 6 (some .int), Cond.static yX6_isGrade, Cond.code yX6_isGrade cX6_isGrade 3 (some .boolean), Cond.methodLink RX6 180 yX6_isLook, Cond.methodLink RX1 86 yX3_ownRate, Cond.instanceMethod yX3_ownRate]
def wsX4_runOn_r10 : List Cond := [Cond.selects RX3 yX3_ownRate yX3_ownRate, Cond.code yX3_ownRate cX3_ownRate 5 (some .int), Cond.methodLink RX3 22 yX3_isEntryOf, Cond.instanceMethod yX3_isEntryOf, Cond.selects RX3 yX3_isEntryOf yX3_isEntryOf, Cond.code yX3_isEntryOf cX3_isEntryOf 5 (some .boolean), Cond.methodLink RX1 90 yX3_change, Cond.instanceMethod yX3_change, Cond.selects RX3 yX3_change yX3_change, Cond.code yX3_change cX3_change 6 none, Cond.methodLink RX1 94 yX3_add, Cond.instanceMethod yX3_add, Cond.selects RX3 yX3_add yX3_add, Cond.code yX3_add cX3_add 6 (some .boolean), Cond.methodLink RX4 85 yX1_passDays, Cond.instanceMethod yX1_passDays, Cond.selects RX1 yX1_passDays yX1_passDays, Cond.code yX1_passDays cX1_passDays 4 (some .int), Cond.fieldLink RX1 49 "GemMemos$Market" "keptLate" "I", Cond.methodLink RX1 152 yX1_keepLateOnes, Cond.instanceMethod yX1_keepLateOnes, Cond.selects RX1 yX1_keepLateOnes yX1_keepLateOnes, Cond.code yX1_keepLateOnes cX1_keepLateOnes 4 (some .int), Cond.fieldLink RX1 43 "GemMemos$Market" "grace" "I"]
def wsX4_runOn_r11 : List Cond := [Cond.fieldLink RX1 46 "GemMemos$Market" "extra" "I"]
def wsX4_runOn : List Cond := .code yX4_runOn cX4_runOn 5 (some .int) :: ((wsX4_runOn_r1 ++ (wsX4_runOn_r2 ++ (wsX4_runOn_r3 ++ (wsX4_runOn_r4 ++ (wsX4_runOn_r5 ++ (wsX4_runOn_r6 ++ (wsX4_runOn_r7 ++ (wsX4_runOn_r8 ++ (wsX4_runOn_r9 ++ (wsX4_runOn_r10 ++ wsX4_runOn_r11)))))))))) ++ wsX40 ++ wsX10 ++ wsX50 ++ wsX30 ++ wsX20)
def wsX5_sameGrade : List Cond := .code yX5_sameGrade cX5_sameGrade 3 (some .boolean) :: ([.fieldLink RX5 19 "GemMemos$Stones" "colours" "[I", .fieldLink RX5 22 "GemMemos$Stones" "clarities" "[I", .methodLink RX5 70 yX5_sieveOf, .instanceMethod yX5_sieveOf, .selects RX5 yX5_sieveOf yX5_sieveOf, .initialized RX5, .code yX5_sieveOf cX5_sieveOf 3 (some .int), .fieldLink RX5 15 "GemMemos$Stones" "weights" "[I"] ++ wsX50)
def wsX5_hasLikeBefore : List Cond := .code yX5_hasLikeBefore cX5_hasLikeBefore 4 (some .boolean) :: ([.fieldLink RX5 28 "GemMemos$Stones" "holders" "[I", .methodLink RX5 56 yX5_sameGrade, .instanceMethod yX5_sameGrade, .selects RX5 yX5_sameGrade yX5_sameGrade, .initialized RX5, .code yX5_sameGrade cX5_sameGrade 3 (some .boolean), .fieldLink RX5 19 "GemMemos$Stones" "colours" "[I", .fieldLink RX5 22 "GemMemos$Stones" "clarities" "[I", .methodLink RX5 70 yX5_sieveOf, .instanceMethod yX5_sieveOf, .selects RX5 yX5_sieveOf yX5_sieveOf, .code yX5_sieveOf cX5_sieveOf 3 (some .int), .fieldLink RX5 15 "GemMemos$Stones" "weights" "[I"] ++ wsX50)
def wsX5_unlikeGrades : List Cond := .code yX5_unlikeGrades cX5_unlikeGrades 4 (some .int) :: ([.fieldLink RX5 9 "GemMemos$Stones" "count" "I", .fieldLink RX5 28 "GemMemos$Stones" "holders" "[I", .methodLink RX5 61 yX5_hasLikeBefore, .instanceMethod yX5_hasLikeBefore, .selects RX5 yX5_hasLikeBefore yX5_hasLikeBefore, .initialized RX5, .code yX5_hasLikeBefore cX5_hasLikeBefore 4 (some .boolean), .methodLink RX5 56 yX5_sameGrade, .instanceMethod yX5_sameGrade, .selects RX5 yX5_sameGrade yX5_sameGrade, .code yX5_sameGrade cX5_sameGrade 3 (some .boolean), .fieldLink RX5 19 "GemMemos$Stones" "colours" "[I", .fieldLink RX5 22 "GemMemos$Stones" "clarities" "[I", .methodLink RX5 70 yX5_sieveOf, .instanceMethod yX5_sieveOf, .selects RX5 yX5_sieveOf yX5_sieveOf, .code yX5_sieveOf cX5_sieveOf 3 (some .int), .fieldLink RX5 15 "GemMemos$Stones" "weights" "[I"] ++ wsX50)
def wsX6_init_r1 : List Cond := [Cond.methodLink RX6 1 objectInit, Cond.instanceMethod objectInit, Cond.code objectInit ⟨#[0xb1]⟩ 1 none, Cond.classLink RX6 7 RX1, Cond.instantiable RX1 9, Cond.initialized RX1, Cond.fieldLink RX6 10 "GemMemos" "now" "LGemMemos$Market;", Cond.fieldLink RX6 16 "GemMemos" "before" "LGemMemos$Market;", Cond.fieldLink RX6 19 "GemMemos" "trial" "LGemMemos$Market;", Cond.fieldLink RX6 22 "GemMemos" "snapshot" "LGemMemos$Market;", Cond.classLink RX6 25 RX0, Cond.instantiable RX0 3, Cond.initialized RX0, Cond.fieldLink RX6 28 "GemMemos" "history" "LGemMemos$History;", Cond.classLink RX6 32 RX4, Cond.instantiable RX4 8, Cond.initialized RX4, Cond.fieldLink RX6 35 "GemMemos" "script" "LGemMemos$Script;", Cond.fieldLink RX6 39 "GemMemos" "hasSnapshot" "Z", Cond.instanceMethod yX1_init, Cond.code yX1_init cX1_init 1 none, Cond.methodLink RX1 3 objectInit, Cond.classLink RX1 9 RX3, Cond.instantiable RX3 4]
def wsX6_init_r2 : List Cond := [Cond.initialized RX3, Cond.fieldLink RX1 12 "GemMemos$Market" "prices" "LGemMemos$Prices;", Cond.classLink RX1 18 RX5, Cond.instantiable RX5 10, Cond.initialized RX5, Cond.fieldLink RX1 21 "GemMemos$Market" "stones" "LGemMemos$Stones;", Cond.classLink RX1 25 RX2, Cond.instantiable RX2 6, Cond.initialized RX2, Cond.fieldLink RX1 28 "GemMemos$Market" "memos" "LGemMemos$Memos;", Cond.arrayClass .int, Cond.fieldLink RX1 32 "GemMemos$Market" "balances" "[I", Cond.fieldLink RX1 36 "GemMemos$Market" "dealers" "I", Cond.fieldLink RX1 40 "GemMemos$Market" "time" "I", Cond.fieldLink RX1 43 "GemMemos$Market" "grace" "I", Cond.fieldLink RX1 46 "GemMemos$Market" "extra" "I", Cond.fieldLink RX1 49 "GemMemos$Market" "keptLate" "I", Cond.instanceMethod yX3_init, Cond.code yX3_init cX3_init 1 none, Cond.methodLink RX3 1 objectInit, Cond.fieldLink RX3 9 "GemMemos$Prices" "sieves" "[I", Cond.fieldLink RX3 13 "GemMemos$Prices" "colours" "[I", Cond.fieldLink RX3 16 "GemMemos$Prices" "clarities" "[I", Cond.fieldLink RX3 19 "GemMemos$Prices" "coins" "[I"]
def wsX6_init_r3 : List Cond := [Cond.instanceMethod yX5_init, Cond.code yX5_init cX5_init 1 none, Cond.methodLink RX5 3 objectInit, Cond.fieldLink RX5 9 "GemMemos$Stones" "count" "I", Cond.fieldLink RX5 15 "GemMemos$Stones" "weights" "[I", Cond.fieldLink RX5 19 "GemMemos$Stones" "colours" "[I", Cond.fieldLink RX5 22 "GemMemos$Stones" "clarities" "[I", Cond.fieldLink RX5 25 "GemMemos$Stones" "owners" "[I", Cond.fieldLink RX5 28 "GemMemos$Stones" "holders" "[I", Cond.fieldLink RX5 31 "GemMemos$Stones" "memos" "[I", Cond.fieldLink RX5 34 "GemMemos$Stones" "asked" "[I", Cond.fieldLink RX5 37 "GemMemos$Stones" "soldFor" "[I", Cond.fieldLink RX5 40 "GemMemos$Stones" "timesKept" "[I", Cond.instanceMethod yX2_init, Cond.code yX2_init cX2_init 1 none, Cond.methodLink RX2 3 objectInit, Cond.fieldLink RX2 9 "GemMemos$Memos" "count" "I", Cond.fieldLink RX2 15 "GemMemos$Memos" "lenders" "[I", Cond.fieldLink RX2 19 "GemMemos$Memos" "takers" "[I", Cond.fieldLink RX2 22 "GemMemos$Memos" "lastDays" "[I", Cond.fieldLink RX2 25 "GemMemos$Memos" "lent" "[I", Cond.fieldLink RX2 28 "GemMemos$Memos" "kept" "[I", Cond.methodLink RX6 27 yX0_init, Cond.instanceMethod yX0_init]
def wsX6_init_r4 : List Cond := [Cond.code yX0_init cX0_init 2 none, Cond.methodLink RX0 1 objectInit, Cond.classLink RX0 9 RX1, Cond.fieldLink RX0 11 "GemMemos$History" "states" "[LGemMemos$Market;", Cond.fieldLink RX0 15 "GemMemos$History" "oldest" "I", Cond.fieldLink RX0 19 "GemMemos$History" "size" "I", Cond.instanceMethod yX4_init, Cond.code yX4_init cX4_init 1 none, Cond.methodLink RX4 3 objectInit, Cond.arrayClass .char, Cond.fieldLink RX4 11 "GemMemos$Script" "signs" "[C", Cond.fieldLink RX4 15 "GemMemos$Script" "length" "I", Cond.fieldLink RX4 19 "GemMemos$Script" "kind" "I", Cond.fieldLink RX4 22 "GemMemos$Script" "numbers" "[I", Cond.fieldLink RX4 26 "GemMemos$Script" "next" "I", Cond.fieldLink RX4 29 "GemMemos$Script" "faultAt" "I", Cond.fieldLink RX4 32 "GemMemos$Script" "reason" "I", Cond.fieldLink RX4 35 "GemMemos$Script" "cause" "I"]
def wsX6_init : List Cond := .code yX6_init cX6_init 1 none :: ((wsX6_init_r1 ++ (wsX6_init_r2 ++ (wsX6_init_r3 ++ wsX6_init_r4))) ++ wsX10 ++ wsX60 ++ wsX00 ++ wsX40 ++ wsX30 ++ wsX50 ++ wsX20)
def wsX6_recorded_r1 : List Cond := [Cond.fieldLink RX6 28 "GemMemos" "history" "LGemMemos$History;", Cond.fieldLink RX6 16 "GemMemos" "before" "LGemMemos$Market;", Cond.methodLink RX6 159 yX0_push, Cond.instanceMethod yX0_push, Cond.selects RX0 yX0_push yX0_push, Cond.initialized RX0, Cond.code yX0_push cX0_push 3 none, Cond.fieldLink RX0 19 "GemMemos$History" "size" "I", Cond.fieldLink RX0 15 "GemMemos$History" "oldest" "I", Cond.fieldLink RX0 11 "GemMemos$History" "states" "[LGemMemos$Market;", Cond.methodLink RX0 23 yJ9_floorMod_7cf53, Cond.static yJ9_floorMod_7cf53, Cond.initialized RJ9, Cond.code yJ9_floorMod_7cf53 cJ9_floorMod_7cf53 3 (some .int), Cond.methodLink RX0 29 yX1_copyFrom, Cond.instanceMethod yX1_copyFrom, Cond.selects RX1 yX1_copyFrom yX1_copyFrom, Cond.initialized RX1, Cond.code yX1_copyFrom cX1_copyFrom 2 none, Cond.fieldLink RX1 12 "GemMemos$Market" "prices" "LGemMemos$Prices;", Cond.fieldLink RX1 21 "GemMemos$Market" "stones" "LGemMemos$Stones;", Cond.fieldLink RX1 28 "GemMemos$Market" "memos" "LGemMemos$Memos;", Cond.fieldLink RX1 32 "GemMemos$Market" "balances" "[I", Cond.methodLink RX1 62 arraycopyName]
def wsX6_recorded_r2 : List Cond := [Cond.native arraycopyName, Cond.static arraycopyName, Cond.initialized "java/lang/System", Cond.fieldLink RX1 36 "GemMemos$Market" "dealers" "I", Cond.fieldLink RX1 40 "GemMemos$Market" "time" "I", Cond.fieldLink RX1 43 "GemMemos$Market" "grace" "I", Cond.fieldLink RX1 46 "GemMemos$Market" "extra" "I", Cond.fieldLink RX1 49 "GemMemos$Market" "keptLate" "I", Cond.methodLink RX1 52 yX3_copyFrom, Cond.instanceMethod yX3_copyFrom, Cond.selects RX3 yX3_copyFrom yX3_copyFrom, Cond.initialized RX3, Cond.code yX3_copyFrom cX3_copyFrom 2 none, Cond.fieldLink RX3 9 "GemMemos$Prices" "sieves" "[I", Cond.methodLink RX3 26 arraycopyName, Cond.fieldLink RX3 13 "GemMemos$Prices" "colours" "[I", Cond.fieldLink RX3 16 "GemMemos$Prices" "clarities" "[I", Cond.fieldLink RX3 19 "GemMemos$Prices" "coins" "[I", Cond.methodLink RX1 56 yX5_copyFrom, Cond.instanceMethod yX5_copyFrom, Cond.selects RX5 yX5_copyFrom yX5_copyFrom, Cond.initialized RX5, Cond.code yX5_copyFrom cX5_copyFrom 2 none, Cond.fieldLink RX5 9 "GemMemos$Stones" "count" "I"]
def wsX6_recorded_r3 : List Cond := [Cond.fieldLink RX5 15 "GemMemos$Stones" "weights" "[I", Cond.methodLink RX5 64 arraycopyName, Cond.fieldLink RX5 19 "GemMemos$Stones" "colours" "[I", Cond.fieldLink RX5 22 "GemMemos$Stones" "clarities" "[I", Cond.fieldLink RX5 25 "GemMemos$Stones" "owners" "[I", Cond.fieldLink RX5 28 "GemMemos$Stones" "holders" "[I", Cond.fieldLink RX5 31 "GemMemos$Stones" "memos" "[I", Cond.fieldLink RX5 34 "GemMemos$Stones" "asked" "[I", Cond.fieldLink RX5 37 "GemMemos$Stones" "soldFor" "[I", Cond.fieldLink RX5 40 "GemMemos$Stones" "timesKept" "[I", Cond.methodLink RX1 59 yX2_copyFrom, Cond.instanceMethod yX2_copyFrom, Cond.selects RX2 yX2_copyFrom yX2_copyFrom, Cond.initialized RX2, Cond.code yX2_copyFrom cX2_copyFrom 2 none, Cond.fieldLink RX2 9 "GemMemos$Memos" "count" "I", Cond.fieldLink RX2 15 "GemMemos$Memos" "lenders" "[I", Cond.methodLink RX2 31 arraycopyName, Cond.fieldLink RX2 19 "GemMemos$Memos" "takers" "[I", Cond.fieldLink RX2 22 "GemMemos$Memos" "lastDays" "[I", Cond.fieldLink RX2 25 "GemMemos$Memos" "lent" "[I", Cond.fieldLink RX2 28 "GemMemos$Memos" "kept" "[I"]
def wsX6_recorded : List Cond := .code yX6_recorded cX6_recorded 2 (some .int) :: ((wsX6_recorded_r1 ++ (wsX6_recorded_r2 ++ wsX6_recorded_r3)) ++ wsX60 ++ wsX00 ++ wsX10 ++ wsX30 ++ wsX50 ++ wsX20)
def wsX6_dealer_r1 : List Cond := [Cond.fieldLink RX6 16 "GemMemos" "before" "LGemMemos$Market;", Cond.fieldLink RX6 10 "GemMemos" "now" "LGemMemos$Market;", Cond.methodLink RX6 43 yX1_copyFrom, Cond.instanceMethod yX1_copyFrom, Cond.selects RX1 yX1_copyFrom yX1_copyFrom, Cond.initialized RX1, Cond.code yX1_copyFrom cX1_copyFrom 2 none, Cond.fieldLink RX1 12 "GemMemos$Market" "prices" "LGemMemos$Prices;", Cond.fieldLink RX1 21 "GemMemos$Market" "stones" "LGemMemos$Stones;", Cond.fieldLink RX1 28 "GemMemos$Market" "memos" "LGemMemos$Memos;", Cond.fieldLink RX1 32 "GemMemos$Market" "balances" "[I", Cond.methodLink RX1 62 arraycopyName, Cond.native arraycopyName, Cond.static arraycopyName, Cond.initialized "java/lang/System", Cond.fieldLink RX1 36 "GemMemos$Market" "dealers" "I", Cond.fieldLink RX1 40 "GemMemos$Market" "time" "I", Cond.fieldLink RX1 43 "GemMemos$Market" "grace" "I", Cond.fieldLink RX1 46 "GemMemos$Market" "extra" "I", Cond.fieldLink RX1 49 "GemMemos$Market" "keptLate" "I", Cond.methodLink RX1 52 yX3_copyFrom, Cond.instanceMethod yX3_copyFrom, Cond.selects RX3 yX3_copyFrom yX3_copyFrom, Cond.initialized RX3]
def wsX6_dealer_r2 : List Cond := [Cond.code yX3_copyFrom cX3_copyFrom 2 none, Cond.fieldLink RX3 9 "GemMemos$Prices" "sieves" "[I", Cond.methodLink RX3 26 arraycopyName, Cond.fieldLink RX3 13 "GemMemos$Prices" "colours" "[I", Cond.fieldLink RX3 16 "GemMemos$Prices" "clarities" "[I", Cond.fieldLink RX3 19 "GemMemos$Prices" "coins" "[I", Cond.methodLink RX1 56 yX5_copyFrom, Cond.instanceMethod yX5_copyFrom, Cond.selects RX5 yX5_copyFrom yX5_copyFrom, Cond.initialized RX5, Cond.code yX5_copyFrom cX5_copyFrom 2 none, Cond.fieldLink RX5 9 "GemMemos$Stones" "count" "I", Cond.fieldLink RX5 15 "GemMemos$Stones" "weights" "[I", Cond.methodLink RX5 64 arraycopyName, Cond.fieldLink RX5 19 "GemMemos$Stones" "colours" "[I", Cond.fieldLink RX5 22 "GemMemos$Stones" "clarities" "[I", Cond.fieldLink RX5 25 "GemMemos$Stones" "owners" "[I", Cond.fieldLink RX5 28 "GemMemos$Stones" "holders" "[I", Cond.fieldLink RX5 31 "GemMemos$Stones" "memos" "[I", Cond.fieldLink RX5 34 "GemMemos$Stones" "asked" "[I", Cond.fieldLink RX5 37 "GemMemos$Stones" "soldFor" "[I", Cond.fieldLink RX5 40 "GemMemos$Stones" "timesKept" "[I", Cond.methodLink RX1 59 yX2_copyFrom, Cond.instanceMethod yX2_copyFrom]
def wsX6_dealer_r3 : List Cond := [Cond.selects RX2 yX2_copyFrom yX2_copyFrom, Cond.initialized RX2, Cond.code yX2_copyFrom cX2_copyFrom 2 none, Cond.fieldLink RX2 9 "GemMemos$Memos" "count" "I", Cond.fieldLink RX2 15 "GemMemos$Memos" "lenders" "[I", Cond.methodLink RX2 31 arraycopyName, Cond.fieldLink RX2 19 "GemMemos$Memos" "takers" "[I", Cond.fieldLink RX2 22 "GemMemos$Memos" "lastDays" "[I", Cond.fieldLink RX2 25 "GemMemos$Memos" "lent" "[I", Cond.fieldLink RX2 28 "GemMemos$Memos" "kept" "[I", Cond.methodLink RX6 47 yX1_addDealer, Cond.instanceMethod yX1_addDealer, Cond.selects RX1 yX1_addDealer yX1_addDealer, Cond.code yX1_addDealer cX1_addDealer 1 (some .int), Cond.constant RX1 68 (-10000003), Cond.methodLink RX6 51 yX6_recorded, Cond.instanceMethod yX6_recorded, Cond.selects RX6 yX6_recorded yX6_recorded, Cond.initialized RX6, Cond.code yX6_recorded cX6_recorded 2 (some .int), Cond.fieldLink RX6 28 "GemMemos" "history" "LGemMemos$History;", Cond.methodLink RX6 159 yX0_push, Cond.instanceMethod yX0_push, Cond.selects RX0 yX0_push yX0_push]
def wsX6_dealer_r4 : List Cond := [Cond.initialized RX0, Cond.code yX0_push cX0_push 3 none, Cond.fieldLink RX0 19 "GemMemos$History" "size" "I", Cond.fieldLink RX0 15 "GemMemos$History" "oldest" "I", Cond.fieldLink RX0 11 "GemMemos$History" "states" "[LGemMemos$Market;", Cond.methodLink RX0 23 yJ9_floorMod_7cf53, Cond.static yJ9_floorMod_7cf53, Cond.initialized RJ9, Cond.code yJ9_floorMod_7cf53 cJ9_floorMod_7cf53 3 (some .int), Cond.methodLink RX0 29 yX1_copyFrom]
def wsX6_dealer : List Cond := .code yX6_dealer cX6_dealer 1 (some .int) :: ((wsX6_dealer_r1 ++ (wsX6_dealer_r2 ++ (wsX6_dealer_r3 ++ wsX6_dealer_r4))) ++ wsX60 ++ wsX10 ++ wsX30 ++ wsX50 ++ wsX20 ++ wsX00)
def wsX6_stone_r1 : List Cond := [Cond.fieldLink RX6 16 "GemMemos" "before" "LGemMemos$Market;", Cond.fieldLink RX6 10 "GemMemos" "now" "LGemMemos$Market;", Cond.methodLink RX6 43 yX1_copyFrom, Cond.instanceMethod yX1_copyFrom, Cond.selects RX1 yX1_copyFrom yX1_copyFrom, Cond.initialized RX1, Cond.code yX1_copyFrom cX1_copyFrom 2 none, Cond.fieldLink RX1 12 "GemMemos$Market" "prices" "LGemMemos$Prices;", Cond.fieldLink RX1 21 "GemMemos$Market" "stones" "LGemMemos$Stones;", Cond.fieldLink RX1 28 "GemMemos$Market" "memos" "LGemMemos$Memos;", Cond.fieldLink RX1 32 "GemMemos$Market" "balances" "[I", Cond.methodLink RX1 62 arraycopyName, Cond.native arraycopyName, Cond.static arraycopyName, Cond.initialized "java/lang/System", Cond.fieldLink RX1 36 "GemMemos$Market" "dealers" "I", Cond.fieldLink RX1 40 "GemMemos$Market" "time" "I", Cond.fieldLink RX1 43 "GemMemos$Market" "grace" "I", Cond.fieldLink RX1 46 "GemMemos$Market" "extra" "I", Cond.fieldLink RX1 49 "GemMemos$Market" "keptLate" "I", Cond.methodLink RX1 52 yX3_copyFrom, Cond.instanceMethod yX3_copyFrom, Cond.selects RX3 yX3_copyFrom yX3_copyFrom, Cond.initialized RX3]
def wsX6_stone_r2 : List Cond := [Cond.code yX3_copyFrom cX3_copyFrom 2 none, Cond.fieldLink RX3 9 "GemMemos$Prices" "sieves" "[I", Cond.methodLink RX3 26 arraycopyName, Cond.fieldLink RX3 13 "GemMemos$Prices" "colours" "[I", Cond.fieldLink RX3 16 "GemMemos$Prices" "clarities" "[I", Cond.fieldLink RX3 19 "GemMemos$Prices" "coins" "[I", Cond.methodLink RX1 56 yX5_copyFrom, Cond.instanceMethod yX5_copyFrom, Cond.selects RX5 yX5_copyFrom yX5_copyFrom, Cond.initialized RX5, Cond.code yX5_copyFrom cX5_copyFrom 2 none, Cond.fieldLink RX5 9 "GemMemos$Stones" "count" "I", Cond.fieldLink RX5 15 "GemMemos$Stones" "weights" "[I", Cond.methodLink RX5 64 arraycopyName, Cond.fieldLink RX5 19 "GemMemos$Stones" "colours" "[I", Cond.fieldLink RX5 22 "GemMemos$Stones" "clarities" "[I", Cond.fieldLink RX5 25 "GemMemos$Stones" "owners" "[I", Cond.fieldLink RX5 28 "GemMemos$Stones" "holders" "[I", Cond.fieldLink RX5 31 "GemMemos$Stones" "memos" "[I", Cond.fieldLink RX5 34 "GemMemos$Stones" "asked" "[I", Cond.fieldLink RX5 37 "GemMemos$Stones" "soldFor" "[I", Cond.fieldLink RX5 40 "GemMemos$Stones" "timesKept" "[I", Cond.methodLink RX1 59 yX2_copyFrom, Cond.instanceMethod yX2_copyFrom]
def wsX6_stone_r3 : List Cond := [Cond.selects RX2 yX2_copyFrom yX2_copyFrom, Cond.initialized RX2, Cond.code yX2_copyFrom cX2_copyFrom 2 none, Cond.fieldLink RX2 9 "GemMemos$Memos" "count" "I", Cond.fieldLink RX2 15 "GemMemos$Memos" "lenders" "[I", Cond.methodLink RX2 31 arraycopyName, Cond.fieldLink RX2 19 "GemMemos$Memos" "takers" "[I", Cond.fieldLink RX2 22 "GemMemos$Memos" "lastDays" "[I", Cond.fieldLink RX2 25 "GemMemos$Memos" "lent" "[I", Cond.fieldLink RX2 28 "GemMemos$Memos" "kept" "[I", Cond.methodLink RX6 55 yX1_addStone, Cond.instanceMethod yX1_addStone, Cond.selects RX1 yX1_addStone yX1_addStone, Cond.code yX1_addStone cX1_addStone 6 (some .int), Cond.constant RX1 77 (-10000001), Cond.constant RX1 68 (-10000003), Cond.methodLink RX1 69 yX1_hasDealer, Cond.instanceMethod yX1_hasDealer, Cond.selects RX1 yX1_hasDealer yX1_hasDealer, Cond.code yX1_hasDealer cX1_hasDealer 2 (some .boolean), Cond.static yX6_isLook, Cond.initialized RX6, Cond.code yX6_isLook cX6_isLook 2 (some .boolean), Cond.methodLink RX1 78 yX5_add]
def wsX6_stone_r4 : List Cond := [Cond.instanceMethod yX5_add, Cond.selects RX5 yX5_add yX5_add, Cond.code yX5_add cX5_add 6 (some .int), Cond.methodLink RX6 51 yX6_recorded, Cond.instanceMethod yX6_recorded, Cond.selects RX6 yX6_recorded yX6_recorded, Cond.code yX6_recorded cX6_recorded 2 (some .int), Cond.fieldLink RX6 28 "GemMemos" "history" "LGemMemos$History;", Cond.methodLink RX6 159 yX0_push, Cond.instanceMethod yX0_push, Cond.selects RX0 yX0_push yX0_push, Cond.initialized RX0, Cond.code yX0_push cX0_push 3 none, Cond.fieldLink RX0 19 "GemMemos$History" "size" "I", Cond.fieldLink RX0 15 "GemMemos$History" "oldest" "I", Cond.fieldLink RX0 11 "GemMemos$History" "states" "[LGemMemos$Market;", Cond.methodLink RX0 23 yJ9_floorMod_7cf53, Cond.static yJ9_floorMod_7cf53, Cond.initialized RJ9, Cond.code yJ9_floorMod_7cf53 cJ9_floorMod_7cf53 3 (some .int), Cond.methodLink RX0 29 yX1_copyFrom]
def wsX6_stone : List Cond := .code yX6_stone cX6_stone 5 (some .int) :: ((wsX6_stone_r1 ++ (wsX6_stone_r2 ++ (wsX6_stone_r3 ++ wsX6_stone_r4))) ++ wsX60 ++ wsX10 ++ wsX30 ++ wsX50 ++ wsX20 ++ wsX00)
def wsX6_rate_r1 : List Cond := [Cond.fieldLink RX6 16 "GemMemos" "before" "LGemMemos$Market;", Cond.fieldLink RX6 10 "GemMemos" "now" "LGemMemos$Market;", Cond.methodLink RX6 43 yX1_copyFrom, Cond.instanceMethod yX1_copyFrom, Cond.selects RX1 yX1_copyFrom yX1_copyFrom, Cond.initialized RX1, Cond.code yX1_copyFrom cX1_copyFrom 2 none, Cond.fieldLink RX1 12 "GemMemos$Market" "prices" "LGemMemos$Prices;", Cond.fieldLink RX1 21 "GemMemos$Market" "stones" "LGemMemos$Stones;", Cond.fieldLink RX1 28 "GemMemos$Market" "memos" "LGemMemos$Memos;", Cond.fieldLink RX1 32 "GemMemos$Market" "balances" "[I", Cond.methodLink RX1 62 arraycopyName, Cond.native arraycopyName, Cond.static arraycopyName, Cond.initialized "java/lang/System", Cond.fieldLink RX1 36 "GemMemos$Market" "dealers" "I", Cond.fieldLink RX1 40 "GemMemos$Market" "time" "I", Cond.fieldLink RX1 43 "GemMemos$Market" "grace" "I", Cond.fieldLink RX1 46 "GemMemos$Market" "extra" "I", Cond.fieldLink RX1 49 "GemMemos$Market" "keptLate" "I", Cond.methodLink RX1 52 yX3_copyFrom, Cond.instanceMethod yX3_copyFrom, Cond.selects RX3 yX3_copyFrom yX3_copyFrom, Cond.initialized RX3]
def wsX6_rate_r2 : List Cond := [Cond.code yX3_copyFrom cX3_copyFrom 2 none, Cond.fieldLink RX3 9 "GemMemos$Prices" "sieves" "[I", Cond.methodLink RX3 26 arraycopyName, Cond.fieldLink RX3 13 "GemMemos$Prices" "colours" "[I", Cond.fieldLink RX3 16 "GemMemos$Prices" "clarities" "[I", Cond.fieldLink RX3 19 "GemMemos$Prices" "coins" "[I", Cond.methodLink RX1 56 yX5_copyFrom, Cond.instanceMethod yX5_copyFrom, Cond.selects RX5 yX5_copyFrom yX5_copyFrom, Cond.initialized RX5, Cond.code yX5_copyFrom cX5_copyFrom 2 none, Cond.fieldLink RX5 9 "GemMemos$Stones" "count" "I", Cond.fieldLink RX5 15 "GemMemos$Stones" "weights" "[I", Cond.methodLink RX5 64 arraycopyName, Cond.fieldLink RX5 19 "GemMemos$Stones" "colours" "[I", Cond.fieldLink RX5 22 "GemMemos$Stones" "clarities" "[I", Cond.fieldLink RX5 25 "GemMemos$Stones" "owners" "[I", Cond.fieldLink RX5 28 "GemMemos$Stones" "holders" "[I", Cond.fieldLink RX5 31 "GemMemos$Stones" "memos" "[I", Cond.fieldLink RX5 34 "GemMemos$Stones" "asked" "[I", Cond.fieldLink RX5 37 "GemMemos$Stones" "soldFor" "[I", Cond.fieldLink RX5 40 "GemMemos$Stones" "timesKept" "[I", Cond.methodLink RX1 59 yX2_copyFrom, Cond.instanceMethod yX2_copyFrom]
def wsX6_rate_r3 : List Cond := [Cond.selects RX2 yX2_copyFrom yX2_copyFrom, Cond.initialized RX2, Cond.code yX2_copyFrom cX2_copyFrom 2 none, Cond.fieldLink RX2 9 "GemMemos$Memos" "count" "I", Cond.fieldLink RX2 15 "GemMemos$Memos" "lenders" "[I", Cond.methodLink RX2 31 arraycopyName, Cond.fieldLink RX2 19 "GemMemos$Memos" "takers" "[I", Cond.fieldLink RX2 22 "GemMemos$Memos" "lastDays" "[I", Cond.fieldLink RX2 25 "GemMemos$Memos" "lent" "[I", Cond.fieldLink RX2 28 "GemMemos$Memos" "kept" "[I", Cond.methodLink RX6 59 yX1_putRate, Cond.instanceMethod yX1_putRate, Cond.selects RX1 yX1_putRate yX1_putRate, Cond.code yX1_putRate cX1_putRate 6 (some .int), Cond.constant RX1 77 (-10000001), Cond.constant RX1 68 (-10000003), Cond.static yX6_isGrade, Cond.initialized RX6, Cond.code yX6_isGrade cX6_isGrade 3 (some .boolean), Cond.methodLink RX6 180 yX6_isLook, Cond.static yX6_isLook, Cond.code yX6_isLook cX6_isLook 2 (some .boolean), Cond.methodLink RX1 86 yX3_ownRate, Cond.instanceMethod yX3_ownRate]
def wsX6_rate_r4 : List Cond := [Cond.selects RX3 yX3_ownRate yX3_ownRate, Cond.code yX3_ownRate cX3_ownRate 5 (some .int), Cond.methodLink RX3 22 yX3_isEntryOf, Cond.instanceMethod yX3_isEntryOf, Cond.selects RX3 yX3_isEntryOf yX3_isEntryOf, Cond.code yX3_isEntryOf cX3_isEntryOf 5 (some .boolean), Cond.methodLink RX1 90 yX3_change, Cond.instanceMethod yX3_change, Cond.selects RX3 yX3_change yX3_change, Cond.code yX3_change cX3_change 6 none, Cond.methodLink RX1 94 yX3_add, Cond.instanceMethod yX3_add, Cond.selects RX3 yX3_add yX3_add, Cond.code yX3_add cX3_add 6 (some .boolean), Cond.methodLink RX6 51 yX6_recorded, Cond.instanceMethod yX6_recorded, Cond.selects RX6 yX6_recorded yX6_recorded, Cond.code yX6_recorded cX6_recorded 2 (some .int), Cond.fieldLink RX6 28 "GemMemos" "history" "LGemMemos$History;", Cond.methodLink RX6 159 yX0_push, Cond.instanceMethod yX0_push, Cond.selects RX0 yX0_push yX0_push, Cond.initialized RX0, Cond.code yX0_push cX0_push 3 none]
def wsX6_rate_r5 : List Cond := [Cond.fieldLink RX0 19 "GemMemos$History" "size" "I", Cond.fieldLink RX0 15 "GemMemos$History" "oldest" "I", Cond.fieldLink RX0 11 "GemMemos$History" "states" "[LGemMemos$Market;", Cond.methodLink RX0 23 yJ9_floorMod_7cf53, Cond.static yJ9_floorMod_7cf53, Cond.initialized RJ9, Cond.code yJ9_floorMod_7cf53 cJ9_floorMod_7cf53 3 (some .int), Cond.methodLink RX0 29 yX1_copyFrom]
def wsX6_rate : List Cond := .code yX6_rate cX6_rate 5 (some .int) :: ((wsX6_rate_r1 ++ (wsX6_rate_r2 ++ (wsX6_rate_r3 ++ (wsX6_rate_r4 ++ wsX6_rate_r5)))) ++ wsX60 ++ wsX10 ++ wsX30 ++ wsX50 ++ wsX20 ++ wsX00)
def wsX6_unrate_r1 : List Cond := [Cond.fieldLink RX6 16 "GemMemos" "before" "LGemMemos$Market;", Cond.fieldLink RX6 10 "GemMemos" "now" "LGemMemos$Market;", Cond.methodLink RX6 43 yX1_copyFrom, Cond.instanceMethod yX1_copyFrom, Cond.selects RX1 yX1_copyFrom yX1_copyFrom, Cond.initialized RX1, Cond.code yX1_copyFrom cX1_copyFrom 2 none, Cond.fieldLink RX1 12 "GemMemos$Market" "prices" "LGemMemos$Prices;", Cond.fieldLink RX1 21 "GemMemos$Market" "stones" "LGemMemos$Stones;", Cond.fieldLink RX1 28 "GemMemos$Market" "memos" "LGemMemos$Memos;", Cond.fieldLink RX1 32 "GemMemos$Market" "balances" "[I", Cond.methodLink RX1 62 arraycopyName, Cond.native arraycopyName, Cond.static arraycopyName, Cond.initialized "java/lang/System", Cond.fieldLink RX1 36 "GemMemos$Market" "dealers" "I", Cond.fieldLink RX1 40 "GemMemos$Market" "time" "I", Cond.fieldLink RX1 43 "GemMemos$Market" "grace" "I", Cond.fieldLink RX1 46 "GemMemos$Market" "extra" "I", Cond.fieldLink RX1 49 "GemMemos$Market" "keptLate" "I", Cond.methodLink RX1 52 yX3_copyFrom, Cond.instanceMethod yX3_copyFrom, Cond.selects RX3 yX3_copyFrom yX3_copyFrom, Cond.initialized RX3]
def wsX6_unrate_r2 : List Cond := [Cond.code yX3_copyFrom cX3_copyFrom 2 none, Cond.fieldLink RX3 9 "GemMemos$Prices" "sieves" "[I", Cond.methodLink RX3 26 arraycopyName, Cond.fieldLink RX3 13 "GemMemos$Prices" "colours" "[I", Cond.fieldLink RX3 16 "GemMemos$Prices" "clarities" "[I", Cond.fieldLink RX3 19 "GemMemos$Prices" "coins" "[I", Cond.methodLink RX1 56 yX5_copyFrom, Cond.instanceMethod yX5_copyFrom, Cond.selects RX5 yX5_copyFrom yX5_copyFrom, Cond.initialized RX5, Cond.code yX5_copyFrom cX5_copyFrom 2 none, Cond.fieldLink RX5 9 "GemMemos$Stones" "count" "I", Cond.fieldLink RX5 15 "GemMemos$Stones" "weights" "[I", Cond.methodLink RX5 64 arraycopyName, Cond.fieldLink RX5 19 "GemMemos$Stones" "colours" "[I", Cond.fieldLink RX5 22 "GemMemos$Stones" "clarities" "[I", Cond.fieldLink RX5 25 "GemMemos$Stones" "owners" "[I", Cond.fieldLink RX5 28 "GemMemos$Stones" "holders" "[I", Cond.fieldLink RX5 31 "GemMemos$Stones" "memos" "[I", Cond.fieldLink RX5 34 "GemMemos$Stones" "asked" "[I", Cond.fieldLink RX5 37 "GemMemos$Stones" "soldFor" "[I", Cond.fieldLink RX5 40 "GemMemos$Stones" "timesKept" "[I", Cond.methodLink RX1 59 yX2_copyFrom, Cond.instanceMethod yX2_copyFrom]
def wsX6_unrate_r3 : List Cond := [Cond.selects RX2 yX2_copyFrom yX2_copyFrom, Cond.initialized RX2, Cond.code yX2_copyFrom cX2_copyFrom 2 none, Cond.fieldLink RX2 9 "GemMemos$Memos" "count" "I", Cond.fieldLink RX2 15 "GemMemos$Memos" "lenders" "[I", Cond.methodLink RX2 31 arraycopyName, Cond.fieldLink RX2 19 "GemMemos$Memos" "takers" "[I", Cond.fieldLink RX2 22 "GemMemos$Memos" "lastDays" "[I", Cond.fieldLink RX2 25 "GemMemos$Memos" "lent" "[I", Cond.fieldLink RX2 28 "GemMemos$Memos" "kept" "[I", Cond.methodLink RX6 62 yX1_takeRate, Cond.instanceMethod yX1_takeRate, Cond.selects RX1 yX1_takeRate yX1_takeRate, Cond.code yX1_takeRate cX1_takeRate 5 (some .int), Cond.constant RX1 77 (-10000001), Cond.constant RX1 97 (-10000002), Cond.static yX6_isGrade, Cond.initialized RX6, Cond.code yX6_isGrade cX6_isGrade 3 (some .boolean), Cond.methodLink RX6 180 yX6_isLook, Cond.static yX6_isLook, Cond.code yX6_isLook cX6_isLook 2 (some .boolean), Cond.methodLink RX1 86 yX3_ownRate, Cond.instanceMethod yX3_ownRate]
def wsX6_unrate_r4 : List Cond := [Cond.selects RX3 yX3_ownRate yX3_ownRate, Cond.code yX3_ownRate cX3_ownRate 5 (some .int), Cond.methodLink RX3 22 yX3_isEntryOf, Cond.instanceMethod yX3_isEntryOf, Cond.selects RX3 yX3_isEntryOf yX3_isEntryOf, Cond.code yX3_isEntryOf cX3_isEntryOf 5 (some .boolean), Cond.methodLink RX1 90 yX3_change, Cond.instanceMethod yX3_change, Cond.selects RX3 yX3_change yX3_change, Cond.code yX3_change cX3_change 6 none, Cond.methodLink RX6 51 yX6_recorded, Cond.instanceMethod yX6_recorded, Cond.selects RX6 yX6_recorded yX6_recorded, Cond.code yX6_recorded cX6_recorded 2 (some .int), Cond.fieldLink RX6 28 "GemMemos" "history" "LGemMemos$History;", Cond.methodLink RX6 159 yX0_push, Cond.instanceMethod yX0_push, Cond.selects RX0 yX0_push yX0_push, Cond.initialized RX0, Cond.code yX0_push cX0_push 3 none, Cond.fieldLink RX0 19 "GemMemos$History" "size" "I", Cond.fieldLink RX0 15 "GemMemos$History" "oldest" "I", Cond.fieldLink RX0 11 "GemMemos$History" "states" "[LGemMemos$Market;", Cond.methodLink RX0 23 yJ9_floorMod_7cf53]
def wsX6_unrate_r5 : List Cond := [Cond.static yJ9_floorMod_7cf53, Cond.initialized RJ9, Cond.code yJ9_floorMod_7cf53 cJ9_floorMod_7cf53 3 (some .int), Cond.methodLink RX0 29 yX1_copyFrom]
def wsX6_unrate : List Cond := .code yX6_unrate cX6_unrate 4 (some .int) :: ((wsX6_unrate_r1 ++ (wsX6_unrate_r2 ++ (wsX6_unrate_r3 ++ (wsX6_unrate_r4 ++ wsX6_unrate_r5)))) ++ wsX60 ++ wsX10 ++ wsX30 ++ wsX50 ++ wsX20 ++ wsX00)
def wsX6_lend_r1 : List Cond := [Cond.fieldLink RX6 16 "GemMemos" "before" "LGemMemos$Market;", Cond.fieldLink RX6 10 "GemMemos" "now" "LGemMemos$Market;", Cond.methodLink RX6 43 yX1_copyFrom, Cond.instanceMethod yX1_copyFrom, Cond.selects RX1 yX1_copyFrom yX1_copyFrom, Cond.initialized RX1, Cond.code yX1_copyFrom cX1_copyFrom 2 none, Cond.fieldLink RX1 12 "GemMemos$Market" "prices" "LGemMemos$Prices;", Cond.fieldLink RX1 21 "GemMemos$Market" "stones" "LGemMemos$Stones;", Cond.fieldLink RX1 28 "GemMemos$Market" "memos" "LGemMemos$Memos;", Cond.fieldLink RX1 32 "GemMemos$Market" "balances" "[I", Cond.methodLink RX1 62 arraycopyName, Cond.native arraycopyName, Cond.static arraycopyName, Cond.initialized "java/lang/System", Cond.fieldLink RX1 36 "GemMemos$Market" "dealers" "I", Cond.fieldLink RX1 40 "GemMemos$Market" "time" "I", Cond.fieldLink RX1 43 "GemMemos$Market" "grace" "I", Cond.fieldLink RX1 46 "GemMemos$Market" "extra" "I", Cond.fieldLink RX1 49 "GemMemos$Market" "keptLate" "I", Cond.methodLink RX1 52 yX3_copyFrom, Cond.instanceMethod yX3_copyFrom, Cond.selects RX3 yX3_copyFrom yX3_copyFrom, Cond.initialized RX3]
def wsX6_lend_r2 : List Cond := [Cond.code yX3_copyFrom cX3_copyFrom 2 none, Cond.fieldLink RX3 9 "GemMemos$Prices" "sieves" "[I", Cond.methodLink RX3 26 arraycopyName, Cond.fieldLink RX3 13 "GemMemos$Prices" "colours" "[I", Cond.fieldLink RX3 16 "GemMemos$Prices" "clarities" "[I", Cond.fieldLink RX3 19 "GemMemos$Prices" "coins" "[I", Cond.methodLink RX1 56 yX5_copyFrom, Cond.instanceMethod yX5_copyFrom, Cond.selects RX5 yX5_copyFrom yX5_copyFrom, Cond.initialized RX5, Cond.code yX5_copyFrom cX5_copyFrom 2 none, Cond.fieldLink RX5 9 "GemMemos$Stones" "count" "I", Cond.fieldLink RX5 15 "GemMemos$Stones" "weights" "[I", Cond.methodLink RX5 64 arraycopyName, Cond.fieldLink RX5 19 "GemMemos$Stones" "colours" "[I", Cond.fieldLink RX5 22 "GemMemos$Stones" "clarities" "[I", Cond.fieldLink RX5 25 "GemMemos$Stones" "owners" "[I", Cond.fieldLink RX5 28 "GemMemos$Stones" "holders" "[I", Cond.fieldLink RX5 31 "GemMemos$Stones" "memos" "[I", Cond.fieldLink RX5 34 "GemMemos$Stones" "asked" "[I", Cond.fieldLink RX5 37 "GemMemos$Stones" "soldFor" "[I", Cond.fieldLink RX5 40 "GemMemos$Stones" "timesKept" "[I", Cond.methodLink RX1 59 yX2_copyFrom, Cond.instanceMethod yX2_copyFrom]
def wsX6_lend_r3 : List Cond := [Cond.selects RX2 yX2_copyFrom yX2_copyFrom, Cond.initialized RX2, Cond.code yX2_copyFrom cX2_copyFrom 2 none, Cond.fieldLink RX2 9 "GemMemos$Memos" "count" "I", Cond.fieldLink RX2 15 "GemMemos$Memos" "lenders" "[I", Cond.methodLink RX2 31 arraycopyName, Cond.fieldLink RX2 19 "GemMemos$Memos" "takers" "[I", Cond.fieldLink RX2 22 "GemMemos$Memos" "lastDays" "[I", Cond.fieldLink RX2 25 "GemMemos$Memos" "lent" "[I", Cond.fieldLink RX2 28 "GemMemos$Memos" "kept" "[I", Cond.methodLink RX6 66 yX1_lendStones, Cond.instanceMethod yX1_lendStones, Cond.selects RX1 yX1_lendStones yX1_lendStones, Cond.code yX1_lendStones cX1_lendStones 7 (some .int), Cond.constant RX1 77 (-10000001), Cond.constant RX1 97 (-10000002), Cond.constant RX1 68 (-10000003), Cond.methodLink RX1 69 yX1_hasDealer, Cond.instanceMethod yX1_hasDealer, Cond.selects RX1 yX1_hasDealer yX1_hasDealer, Cond.code yX1_hasDealer cX1_hasDealer 2 (some .boolean), Cond.methodLink RX1 101 yX1_canLend, Cond.instanceMethod yX1_canLend, Cond.selects RX1 yX1_canLend yX1_canLend]
def wsX6_lend_r4 : List Cond := [Cond.code yX1_canLend cX1_canLend 4 (some .boolean), Cond.methodLink RX1 113 yX1_priceOf, Cond.instanceMethod yX1_priceOf, Cond.selects RX1 yX1_priceOf yX1_priceOf, Cond.code yX1_priceOf cX1_priceOf 3 (some .int), Cond.methodLink RX1 159 yX5_sieveOf, Cond.instanceMethod yX5_sieveOf, Cond.selects RX5 yX5_sieveOf yX5_sieveOf, Cond.code yX5_sieveOf cX5_sieveOf 3 (some .int), Cond.methodLink RX1 215 yX3_rateFor, Cond.instanceMethod yX3_rateFor, Cond.selects RX3 yX3_rateFor yX3_rateFor, Cond.code yX3_rateFor cX3_rateFor 6 (some .int), Cond.methodLink RX1 104 yX2_add, Cond.instanceMethod yX2_add, Cond.selects RX2 yX2_add yX2_add, Cond.code yX2_add cX2_add 6 (some .int), Cond.methodLink RX6 51 yX6_recorded, Cond.instanceMethod yX6_recorded, Cond.selects RX6 yX6_recorded yX6_recorded, Cond.initialized RX6, Cond.code yX6_recorded cX6_recorded 2 (some .int), Cond.fieldLink RX6 28 "GemMemos" "history" "LGemMemos$History;", Cond.methodLink RX6 159 yX0_push]
def wsX6_lend_r5 : List Cond := [Cond.instanceMethod yX0_push, Cond.selects RX0 yX0_push yX0_push, Cond.initialized RX0, Cond.code yX0_push cX0_push 3 none, Cond.fieldLink RX0 19 "GemMemos$History" "size" "I", Cond.fieldLink RX0 15 "GemMemos$History" "oldest" "I", Cond.fieldLink RX0 11 "GemMemos$History" "states" "[LGemMemos$Market;", Cond.methodLink RX0 23 yJ9_floorMod_7cf53, Cond.static yJ9_floorMod_7cf53, Cond.initialized RJ9, Cond.code yJ9_floorMod_7cf53 cJ9_floorMod_7cf53 3 (some .int), Cond.methodLink RX0 29 yX1_copyFrom]
def wsX6_lend : List Cond := .code yX6_lend cX6_lend 5 (some .int) :: ((wsX6_lend_r1 ++ (wsX6_lend_r2 ++ (wsX6_lend_r3 ++ (wsX6_lend_r4 ++ wsX6_lend_r5)))) ++ wsX60 ++ wsX10 ++ wsX30 ++ wsX50 ++ wsX20 ++ wsX00)
def wsX6_back_r1 : List Cond := [Cond.fieldLink RX6 16 "GemMemos" "before" "LGemMemos$Market;", Cond.fieldLink RX6 10 "GemMemos" "now" "LGemMemos$Market;", Cond.methodLink RX6 43 yX1_copyFrom, Cond.instanceMethod yX1_copyFrom, Cond.selects RX1 yX1_copyFrom yX1_copyFrom, Cond.initialized RX1, Cond.code yX1_copyFrom cX1_copyFrom 2 none, Cond.fieldLink RX1 12 "GemMemos$Market" "prices" "LGemMemos$Prices;", Cond.fieldLink RX1 21 "GemMemos$Market" "stones" "LGemMemos$Stones;", Cond.fieldLink RX1 28 "GemMemos$Market" "memos" "LGemMemos$Memos;", Cond.fieldLink RX1 32 "GemMemos$Market" "balances" "[I", Cond.methodLink RX1 62 arraycopyName, Cond.native arraycopyName, Cond.static arraycopyName, Cond.initialized "java/lang/System", Cond.fieldLink RX1 36 "GemMemos$Market" "dealers" "I", Cond.fieldLink RX1 40 "GemMemos$Market" "time" "I", Cond.fieldLink RX1 43 "GemMemos$Market" "grace" "I", Cond.fieldLink RX1 46 "GemMemos$Market" "extra" "I", Cond.fieldLink RX1 49 "GemMemos$Market" "keptLate" "I", Cond.methodLink RX1 52 yX3_copyFrom, Cond.instanceMethod yX3_copyFrom, Cond.selects RX3 yX3_copyFrom yX3_copyFrom, Cond.initialized RX3]
def wsX6_back_r2 : List Cond := [Cond.code yX3_copyFrom cX3_copyFrom 2 none, Cond.fieldLink RX3 9 "GemMemos$Prices" "sieves" "[I", Cond.methodLink RX3 26 arraycopyName, Cond.fieldLink RX3 13 "GemMemos$Prices" "colours" "[I", Cond.fieldLink RX3 16 "GemMemos$Prices" "clarities" "[I", Cond.fieldLink RX3 19 "GemMemos$Prices" "coins" "[I", Cond.methodLink RX1 56 yX5_copyFrom, Cond.instanceMethod yX5_copyFrom, Cond.selects RX5 yX5_copyFrom yX5_copyFrom, Cond.initialized RX5, Cond.code yX5_copyFrom cX5_copyFrom 2 none, Cond.fieldLink RX5 9 "GemMemos$Stones" "count" "I", Cond.fieldLink RX5 15 "GemMemos$Stones" "weights" "[I", Cond.methodLink RX5 64 arraycopyName, Cond.fieldLink RX5 19 "GemMemos$Stones" "colours" "[I", Cond.fieldLink RX5 22 "GemMemos$Stones" "clarities" "[I", Cond.fieldLink RX5 25 "GemMemos$Stones" "owners" "[I", Cond.fieldLink RX5 28 "GemMemos$Stones" "holders" "[I", Cond.fieldLink RX5 31 "GemMemos$Stones" "memos" "[I", Cond.fieldLink RX5 34 "GemMemos$Stones" "asked" "[I", Cond.fieldLink RX5 37 "GemMemos$Stones" "soldFor" "[I", Cond.fieldLink RX5 40 "GemMemos$Stones" "timesKept" "[I", Cond.methodLink RX1 59 yX2_copyFrom, Cond.instanceMethod yX2_copyFrom]
def wsX6_back_r3 : List Cond := [Cond.selects RX2 yX2_copyFrom yX2_copyFrom, Cond.initialized RX2, Cond.code yX2_copyFrom cX2_copyFrom 2 none, Cond.fieldLink RX2 9 "GemMemos$Memos" "count" "I", Cond.fieldLink RX2 15 "GemMemos$Memos" "lenders" "[I", Cond.methodLink RX2 31 arraycopyName, Cond.fieldLink RX2 19 "GemMemos$Memos" "takers" "[I", Cond.fieldLink RX2 22 "GemMemos$Memos" "lastDays" "[I", Cond.fieldLink RX2 25 "GemMemos$Memos" "lent" "[I", Cond.fieldLink RX2 28 "GemMemos$Memos" "kept" "[I", Cond.methodLink RX6 69 yX1_giveBack, Cond.instanceMethod yX1_giveBack, Cond.selects RX1 yX1_giveBack yX1_giveBack, Cond.code yX1_giveBack cX1_giveBack 3 (some .int), Cond.constant RX1 77 (-10000001), Cond.constant RX1 97 (-10000002), Cond.methodLink RX1 117 yX5_has, Cond.instanceMethod yX5_has, Cond.selects RX5 yX5_has yX5_has, Cond.code yX5_has cX5_has 2 (some .boolean), Cond.methodLink RX1 120 yX5_isOut, Cond.instanceMethod yX5_isOut, Cond.selects RX5 yX5_isOut yX5_isOut, Cond.code yX5_isOut cX5_isOut 2 (some .boolean)]
def wsX6_back_r4 : List Cond := [Cond.methodLink RX1 126 yX5_setWhere, Cond.instanceMethod yX5_setWhere, Cond.selects RX5 yX5_setWhere yX5_setWhere, Cond.code yX5_setWhere cX5_setWhere 5 (some .int), Cond.methodLink RX1 130 yJ6_bitCount_0f7a4, Cond.static yJ6_bitCount_0f7a4, Cond.initialized RJ6, Cond.code yJ6_bitCount_0f7a4 cJ6_bitCount_0f7a4 1 (some .int), Cond.constant RJ6 265 (1431655765), Cond.constant RJ6 266 (858993459), Cond.constant RJ6 267 (252645135), Cond.methodLink RX6 51 yX6_recorded, Cond.instanceMethod yX6_recorded, Cond.selects RX6 yX6_recorded yX6_recorded, Cond.initialized RX6, Cond.code yX6_recorded cX6_recorded 2 (some .int), Cond.fieldLink RX6 28 "GemMemos" "history" "LGemMemos$History;", Cond.methodLink RX6 159 yX0_push, Cond.instanceMethod yX0_push, Cond.selects RX0 yX0_push yX0_push, Cond.initialized RX0, Cond.code yX0_push cX0_push 3 none, Cond.fieldLink RX0 19 "GemMemos$History" "size" "I", Cond.fieldLink RX0 15 "GemMemos$History" "oldest" "I"]
def wsX6_back_r5 : List Cond := [Cond.fieldLink RX0 11 "GemMemos$History" "states" "[LGemMemos$Market;", Cond.methodLink RX0 23 yJ9_floorMod_7cf53, Cond.static yJ9_floorMod_7cf53, Cond.initialized RJ9, Cond.code yJ9_floorMod_7cf53 cJ9_floorMod_7cf53 3 (some .int), Cond.methodLink RX0 29 yX1_copyFrom]
def wsX6_back : List Cond := .code yX6_back cX6_back 2 (some .int) :: ((wsX6_back_r1 ++ (wsX6_back_r2 ++ (wsX6_back_r3 ++ (wsX6_back_r4 ++ wsX6_back_r5)))) ++ wsX60 ++ wsX10 ++ wsX30 ++ wsX50 ++ wsX20 ++ wsX00)
def wsX6_keep_r1 : List Cond := [Cond.fieldLink RX6 16 "GemMemos" "before" "LGemMemos$Market;", Cond.fieldLink RX6 10 "GemMemos" "now" "LGemMemos$Market;", Cond.methodLink RX6 43 yX1_copyFrom, Cond.instanceMethod yX1_copyFrom, Cond.selects RX1 yX1_copyFrom yX1_copyFrom, Cond.initialized RX1, Cond.code yX1_copyFrom cX1_copyFrom 2 none, Cond.fieldLink RX1 12 "GemMemos$Market" "prices" "LGemMemos$Prices;", Cond.fieldLink RX1 21 "GemMemos$Market" "stones" "LGemMemos$Stones;", Cond.fieldLink RX1 28 "GemMemos$Market" "memos" "LGemMemos$Memos;", Cond.fieldLink RX1 32 "GemMemos$Market" "balances" "[I", Cond.methodLink RX1 62 arraycopyName, Cond.native arraycopyName, Cond.static arraycopyName, Cond.initialized "java/lang/System", Cond.fieldLink RX1 36 "GemMemos$Market" "dealers" "I", Cond.fieldLink RX1 40 "GemMemos$Market" "time" "I", Cond.fieldLink RX1 43 "GemMemos$Market" "grace" "I", Cond.fieldLink RX1 46 "GemMemos$Market" "extra" "I", Cond.fieldLink RX1 49 "GemMemos$Market" "keptLate" "I", Cond.methodLink RX1 52 yX3_copyFrom, Cond.instanceMethod yX3_copyFrom, Cond.selects RX3 yX3_copyFrom yX3_copyFrom, Cond.initialized RX3]
def wsX6_keep_r2 : List Cond := [Cond.code yX3_copyFrom cX3_copyFrom 2 none, Cond.fieldLink RX3 9 "GemMemos$Prices" "sieves" "[I", Cond.methodLink RX3 26 arraycopyName, Cond.fieldLink RX3 13 "GemMemos$Prices" "colours" "[I", Cond.fieldLink RX3 16 "GemMemos$Prices" "clarities" "[I", Cond.fieldLink RX3 19 "GemMemos$Prices" "coins" "[I", Cond.methodLink RX1 56 yX5_copyFrom, Cond.instanceMethod yX5_copyFrom, Cond.selects RX5 yX5_copyFrom yX5_copyFrom, Cond.initialized RX5, Cond.code yX5_copyFrom cX5_copyFrom 2 none, Cond.fieldLink RX5 9 "GemMemos$Stones" "count" "I", Cond.fieldLink RX5 15 "GemMemos$Stones" "weights" "[I", Cond.methodLink RX5 64 arraycopyName, Cond.fieldLink RX5 19 "GemMemos$Stones" "colours" "[I", Cond.fieldLink RX5 22 "GemMemos$Stones" "clarities" "[I", Cond.fieldLink RX5 25 "GemMemos$Stones" "owners" "[I", Cond.fieldLink RX5 28 "GemMemos$Stones" "holders" "[I", Cond.fieldLink RX5 31 "GemMemos$Stones" "memos" "[I", Cond.fieldLink RX5 34 "GemMemos$Stones" "asked" "[I", Cond.fieldLink RX5 37 "GemMemos$Stones" "soldFor" "[I", Cond.fieldLink RX5 40 "GemMemos$Stones" "timesKept" "[I", Cond.methodLink RX1 59 yX2_copyFrom, Cond.instanceMethod yX2_copyFrom]
def wsX6_keep_r3 : List Cond := [Cond.selects RX2 yX2_copyFrom yX2_copyFrom, Cond.initialized RX2, Cond.code yX2_copyFrom cX2_copyFrom 2 none, Cond.fieldLink RX2 9 "GemMemos$Memos" "count" "I", Cond.fieldLink RX2 15 "GemMemos$Memos" "lenders" "[I", Cond.methodLink RX2 31 arraycopyName, Cond.fieldLink RX2 19 "GemMemos$Memos" "takers" "[I", Cond.fieldLink RX2 22 "GemMemos$Memos" "lastDays" "[I", Cond.fieldLink RX2 25 "GemMemos$Memos" "lent" "[I", Cond.fieldLink RX2 28 "GemMemos$Memos" "kept" "[I", Cond.methodLink RX6 72 yX1_keepStone, Cond.instanceMethod yX1_keepStone, Cond.selects RX1 yX1_keepStone yX1_keepStone, Cond.code yX1_keepStone cX1_keepStone 3 (some .int), Cond.constant RX1 77 (-10000001), Cond.constant RX1 97 (-10000002), Cond.methodLink RX1 117 yX5_has, Cond.instanceMethod yX5_has, Cond.selects RX5 yX5_has yX5_has, Cond.code yX5_has cX5_has 2 (some .boolean), Cond.methodLink RX1 120 yX5_isOut, Cond.instanceMethod yX5_isOut, Cond.selects RX5 yX5_isOut yX5_isOut, Cond.code yX5_isOut cX5_isOut 2 (some .boolean)]
def wsX6_keep_r4 : List Cond := [Cond.methodLink RX1 135 yX1_keepFor, Cond.instanceMethod yX1_keepFor, Cond.selects RX1 yX1_keepFor yX1_keepFor, Cond.code yX1_keepFor cX1_keepFor 6 none, Cond.methodLink RX1 69 yX1_hasDealer, Cond.instanceMethod yX1_hasDealer, Cond.selects RX1 yX1_hasDealer yX1_hasDealer, Cond.code yX1_hasDealer cX1_hasDealer 2 (some .boolean), Cond.methodLink RX1 218 yX2_has, Cond.instanceMethod yX2_has, Cond.selects RX2 yX2_has yX2_has, Cond.code yX2_has cX2_has 2 (some .boolean), Cond.methodLink RX6 51 yX6_recorded, Cond.instanceMethod yX6_recorded, Cond.selects RX6 yX6_recorded yX6_recorded, Cond.initialized RX6, Cond.code yX6_recorded cX6_recorded 2 (some .int), Cond.fieldLink RX6 28 "GemMemos" "history" "LGemMemos$History;", Cond.methodLink RX6 159 yX0_push, Cond.instanceMethod yX0_push, Cond.selects RX0 yX0_push yX0_push, Cond.initialized RX0, Cond.code yX0_push cX0_push 3 none, Cond.fieldLink RX0 19 "GemMemos$History" "size" "I"]
def wsX6_keep_r5 : List Cond := [Cond.fieldLink RX0 15 "GemMemos$History" "oldest" "I", Cond.fieldLink RX0 11 "GemMemos$History" "states" "[LGemMemos$Market;", Cond.methodLink RX0 23 yJ9_floorMod_7cf53, Cond.static yJ9_floorMod_7cf53, Cond.initialized RJ9, Cond.code yJ9_floorMod_7cf53 cJ9_floorMod_7cf53 3 (some .int), Cond.methodLink RX0 29 yX1_copyFrom]
def wsX6_keep : List Cond := .code yX6_keep cX6_keep 2 (some .int) :: ((wsX6_keep_r1 ++ (wsX6_keep_r2 ++ (wsX6_keep_r3 ++ (wsX6_keep_r4 ++ wsX6_keep_r5)))) ++ wsX60 ++ wsX10 ++ wsX30 ++ wsX50 ++ wsX20 ++ wsX00)
def wsX6_sell_r1 : List Cond := [Cond.fieldLink RX6 16 "GemMemos" "before" "LGemMemos$Market;", Cond.fieldLink RX6 10 "GemMemos" "now" "LGemMemos$Market;", Cond.methodLink RX6 43 yX1_copyFrom, Cond.instanceMethod yX1_copyFrom, Cond.selects RX1 yX1_copyFrom yX1_copyFrom, Cond.initialized RX1, Cond.code yX1_copyFrom cX1_copyFrom 2 none, Cond.fieldLink RX1 12 "GemMemos$Market" "prices" "LGemMemos$Prices;", Cond.fieldLink RX1 21 "GemMemos$Market" "stones" "LGemMemos$Stones;", Cond.fieldLink RX1 28 "GemMemos$Market" "memos" "LGemMemos$Memos;", Cond.fieldLink RX1 32 "GemMemos$Market" "balances" "[I", Cond.methodLink RX1 62 arraycopyName, Cond.native arraycopyName, Cond.static arraycopyName, Cond.initialized "java/lang/System", Cond.fieldLink RX1 36 "GemMemos$Market" "dealers" "I", Cond.fieldLink RX1 40 "GemMemos$Market" "time" "I", Cond.fieldLink RX1 43 "GemMemos$Market" "grace" "I", Cond.fieldLink RX1 46 "GemMemos$Market" "extra" "I", Cond.fieldLink RX1 49 "GemMemos$Market" "keptLate" "I", Cond.methodLink RX1 52 yX3_copyFrom, Cond.instanceMethod yX3_copyFrom, Cond.selects RX3 yX3_copyFrom yX3_copyFrom, Cond.initialized RX3]
def wsX6_sell_r2 : List Cond := [Cond.code yX3_copyFrom cX3_copyFrom 2 none, Cond.fieldLink RX3 9 "GemMemos$Prices" "sieves" "[I", Cond.methodLink RX3 26 arraycopyName, Cond.fieldLink RX3 13 "GemMemos$Prices" "colours" "[I", Cond.fieldLink RX3 16 "GemMemos$Prices" "clarities" "[I", Cond.fieldLink RX3 19 "GemMemos$Prices" "coins" "[I", Cond.methodLink RX1 56 yX5_copyFrom, Cond.instanceMethod yX5_copyFrom, Cond.selects RX5 yX5_copyFrom yX5_copyFrom, Cond.initialized RX5, Cond.code yX5_copyFrom cX5_copyFrom 2 none, Cond.fieldLink RX5 9 "GemMemos$Stones" "count" "I", Cond.fieldLink RX5 15 "GemMemos$Stones" "weights" "[I", Cond.methodLink RX5 64 arraycopyName, Cond.fieldLink RX5 19 "GemMemos$Stones" "colours" "[I", Cond.fieldLink RX5 22 "GemMemos$Stones" "clarities" "[I", Cond.fieldLink RX5 25 "GemMemos$Stones" "owners" "[I", Cond.fieldLink RX5 28 "GemMemos$Stones" "holders" "[I", Cond.fieldLink RX5 31 "GemMemos$Stones" "memos" "[I", Cond.fieldLink RX5 34 "GemMemos$Stones" "asked" "[I", Cond.fieldLink RX5 37 "GemMemos$Stones" "soldFor" "[I", Cond.fieldLink RX5 40 "GemMemos$Stones" "timesKept" "[I", Cond.methodLink RX1 59 yX2_copyFrom, Cond.instanceMethod yX2_copyFrom]
def wsX6_sell_r3 : List Cond := [Cond.selects RX2 yX2_copyFrom yX2_copyFrom, Cond.initialized RX2, Cond.code yX2_copyFrom cX2_copyFrom 2 none, Cond.fieldLink RX2 9 "GemMemos$Memos" "count" "I", Cond.fieldLink RX2 15 "GemMemos$Memos" "lenders" "[I", Cond.methodLink RX2 31 arraycopyName, Cond.fieldLink RX2 19 "GemMemos$Memos" "takers" "[I", Cond.fieldLink RX2 22 "GemMemos$Memos" "lastDays" "[I", Cond.fieldLink RX2 25 "GemMemos$Memos" "lent" "[I", Cond.fieldLink RX2 28 "GemMemos$Memos" "kept" "[I", Cond.methodLink RX6 75 yX1_sellStone, Cond.instanceMethod yX1_sellStone, Cond.selects RX1 yX1_sellStone yX1_sellStone, Cond.code yX1_sellStone cX1_sellStone 4 (some .int), Cond.constant RX1 77 (-10000001), Cond.constant RX1 97 (-10000002), Cond.constant RX1 145 (100000000), Cond.methodLink RX1 117 yX5_has, Cond.instanceMethod yX5_has, Cond.selects RX5 yX5_has yX5_has, Cond.code yX5_has cX5_has 2 (some .boolean), Cond.methodLink RX1 120 yX5_isOut, Cond.instanceMethod yX5_isOut, Cond.selects RX5 yX5_isOut yX5_isOut]
def wsX6_sell_r4 : List Cond := [Cond.code yX5_isOut cX5_isOut 2 (some .boolean), Cond.methodLink RX1 139 yX5_isSold, Cond.instanceMethod yX5_isSold, Cond.selects RX5 yX5_isSold yX5_isSold, Cond.code yX5_isSold cX5_isSold 2 (some .boolean), Cond.methodLink RX1 69 yX1_hasDealer, Cond.instanceMethod yX1_hasDealer, Cond.selects RX1 yX1_hasDealer yX1_hasDealer, Cond.code yX1_hasDealer cX1_hasDealer 2 (some .boolean), Cond.methodLink RX6 51 yX6_recorded, Cond.instanceMethod yX6_recorded, Cond.selects RX6 yX6_recorded yX6_recorded, Cond.initialized RX6, Cond.code yX6_recorded cX6_recorded 2 (some .int), Cond.fieldLink RX6 28 "GemMemos" "history" "LGemMemos$History;", Cond.methodLink RX6 159 yX0_push, Cond.instanceMethod yX0_push, Cond.selects RX0 yX0_push yX0_push, Cond.initialized RX0, Cond.code yX0_push cX0_push 3 none, Cond.fieldLink RX0 19 "GemMemos$History" "size" "I", Cond.fieldLink RX0 15 "GemMemos$History" "oldest" "I", Cond.fieldLink RX0 11 "GemMemos$History" "states" "[LGemMemos$Market;", Cond.methodLink RX0 23 yJ9_floorMod_7cf53]
def wsX6_sell_r5 : List Cond := [Cond.static yJ9_floorMod_7cf53, Cond.initialized RJ9, Cond.code yJ9_floorMod_7cf53 cJ9_floorMod_7cf53 3 (some .int), Cond.methodLink RX0 29 yX1_copyFrom]
def wsX6_sell : List Cond := .code yX6_sell cX6_sell 3 (some .int) :: ((wsX6_sell_r1 ++ (wsX6_sell_r2 ++ (wsX6_sell_r3 ++ (wsX6_sell_r4 ++ wsX6_sell_r5)))) ++ wsX60 ++ wsX10 ++ wsX30 ++ wsX50 ++ wsX20 ++ wsX00)
def wsX6_grade_r1 : List Cond := [Cond.fieldLink RX6 16 "GemMemos" "before" "LGemMemos$Market;", Cond.fieldLink RX6 10 "GemMemos" "now" "LGemMemos$Market;", Cond.methodLink RX6 43 yX1_copyFrom, Cond.instanceMethod yX1_copyFrom, Cond.selects RX1 yX1_copyFrom yX1_copyFrom, Cond.initialized RX1, Cond.code yX1_copyFrom cX1_copyFrom 2 none, Cond.fieldLink RX1 12 "GemMemos$Market" "prices" "LGemMemos$Prices;", Cond.fieldLink RX1 21 "GemMemos$Market" "stones" "LGemMemos$Stones;", Cond.fieldLink RX1 28 "GemMemos$Market" "memos" "LGemMemos$Memos;", Cond.fieldLink RX1 32 "GemMemos$Market" "balances" "[I", Cond.methodLink RX1 62 arraycopyName, Cond.native arraycopyName, Cond.static arraycopyName, Cond.initialized "java/lang/System", Cond.fieldLink RX1 36 "GemMemos$Market" "dealers" "I", Cond.fieldLink RX1 40 "GemMemos$Market" "time" "I", Cond.fieldLink RX1 43 "GemMemos$Market" "grace" "I", Cond.fieldLink RX1 46 "GemMemos$Market" "extra" "I", Cond.fieldLink RX1 49 "GemMemos$Market" "keptLate" "I", Cond.methodLink RX1 52 yX3_copyFrom, Cond.instanceMethod yX3_copyFrom, Cond.selects RX3 yX3_copyFrom yX3_copyFrom, Cond.initialized RX3]
def wsX6_grade_r2 : List Cond := [Cond.code yX3_copyFrom cX3_copyFrom 2 none, Cond.fieldLink RX3 9 "GemMemos$Prices" "sieves" "[I", Cond.methodLink RX3 26 arraycopyName, Cond.fieldLink RX3 13 "GemMemos$Prices" "colours" "[I", Cond.fieldLink RX3 16 "GemMemos$Prices" "clarities" "[I", Cond.fieldLink RX3 19 "GemMemos$Prices" "coins" "[I", Cond.methodLink RX1 56 yX5_copyFrom, Cond.instanceMethod yX5_copyFrom, Cond.selects RX5 yX5_copyFrom yX5_copyFrom, Cond.initialized RX5, Cond.code yX5_copyFrom cX5_copyFrom 2 none, Cond.fieldLink RX5 9 "GemMemos$Stones" "count" "I", Cond.fieldLink RX5 15 "GemMemos$Stones" "weights" "[I", Cond.methodLink RX5 64 arraycopyName, Cond.fieldLink RX5 19 "GemMemos$Stones" "colours" "[I", Cond.fieldLink RX5 22 "GemMemos$Stones" "clarities" "[I", Cond.fieldLink RX5 25 "GemMemos$Stones" "owners" "[I", Cond.fieldLink RX5 28 "GemMemos$Stones" "holders" "[I", Cond.fieldLink RX5 31 "GemMemos$Stones" "memos" "[I", Cond.fieldLink RX5 34 "GemMemos$Stones" "asked" "[I", Cond.fieldLink RX5 37 "GemMemos$Stones" "soldFor" "[I", Cond.fieldLink RX5 40 "GemMemos$Stones" "timesKept" "[I", Cond.methodLink RX1 59 yX2_copyFrom, Cond.instanceMethod yX2_copyFrom]
def wsX6_grade_r3 : List Cond := [Cond.selects RX2 yX2_copyFrom yX2_copyFrom, Cond.initialized RX2, Cond.code yX2_copyFrom cX2_copyFrom 2 none, Cond.fieldLink RX2 9 "GemMemos$Memos" "count" "I", Cond.fieldLink RX2 15 "GemMemos$Memos" "lenders" "[I", Cond.methodLink RX2 31 arraycopyName, Cond.fieldLink RX2 19 "GemMemos$Memos" "takers" "[I", Cond.fieldLink RX2 22 "GemMemos$Memos" "lastDays" "[I", Cond.fieldLink RX2 25 "GemMemos$Memos" "lent" "[I", Cond.fieldLink RX2 28 "GemMemos$Memos" "kept" "[I", Cond.methodLink RX6 79 yX1_regrade, Cond.instanceMethod yX1_regrade, Cond.selects RX1 yX1_regrade yX1_regrade, Cond.code yX1_regrade cX1_regrade 6 (some .int), Cond.constant RX1 77 (-10000001), Cond.constant RX1 97 (-10000002), Cond.methodLink RX1 117 yX5_has, Cond.instanceMethod yX5_has, Cond.selects RX5 yX5_has yX5_has, Cond.code yX5_has cX5_has 2 (some .boolean), Cond.static yX6_isLook, Cond.initialized RX6, Cond.code yX6_isLook cX6_isLook 2 (some .boolean), Cond.methodLink RX1 139 yX5_isSold]
def wsX6_grade_r4 : List Cond := [Cond.instanceMethod yX5_isSold, Cond.selects RX5 yX5_isSold yX5_isSold, Cond.code yX5_isSold cX5_isSold 2 (some .boolean), Cond.methodLink RX1 113 yX1_priceOf, Cond.instanceMethod yX1_priceOf, Cond.selects RX1 yX1_priceOf yX1_priceOf, Cond.code yX1_priceOf cX1_priceOf 3 (some .int), Cond.methodLink RX1 159 yX5_sieveOf, Cond.instanceMethod yX5_sieveOf, Cond.selects RX5 yX5_sieveOf yX5_sieveOf, Cond.code yX5_sieveOf cX5_sieveOf 3 (some .int), Cond.methodLink RX1 215 yX3_rateFor, Cond.instanceMethod yX3_rateFor, Cond.selects RX3 yX3_rateFor yX3_rateFor, Cond.code yX3_rateFor cX3_rateFor 6 (some .int), Cond.methodLink RX1 120 yX5_isOut, Cond.instanceMethod yX5_isOut, Cond.selects RX5 yX5_isOut yX5_isOut, Cond.code yX5_isOut cX5_isOut 2 (some .boolean), Cond.methodLink RX6 51 yX6_recorded, Cond.instanceMethod yX6_recorded, Cond.selects RX6 yX6_recorded yX6_recorded, Cond.code yX6_recorded cX6_recorded 2 (some .int), Cond.fieldLink RX6 28 "GemMemos" "history" "LGemMemos$History;"]
def wsX6_grade_r5 : List Cond := [Cond.methodLink RX6 159 yX0_push, Cond.instanceMethod yX0_push, Cond.selects RX0 yX0_push yX0_push, Cond.initialized RX0, Cond.code yX0_push cX0_push 3 none, Cond.fieldLink RX0 19 "GemMemos$History" "size" "I", Cond.fieldLink RX0 15 "GemMemos$History" "oldest" "I", Cond.fieldLink RX0 11 "GemMemos$History" "states" "[LGemMemos$Market;", Cond.methodLink RX0 23 yJ9_floorMod_7cf53, Cond.static yJ9_floorMod_7cf53, Cond.initialized RJ9, Cond.code yJ9_floorMod_7cf53 cJ9_floorMod_7cf53 3 (some .int), Cond.methodLink RX0 29 yX1_copyFrom]
def wsX6_grade : List Cond := .code yX6_grade cX6_grade 4 (some .int) :: ((wsX6_grade_r1 ++ (wsX6_grade_r2 ++ (wsX6_grade_r3 ++ (wsX6_grade_r4 ++ wsX6_grade_r5)))) ++ wsX60 ++ wsX10 ++ wsX30 ++ wsX50 ++ wsX20 ++ wsX00)
def wsX6_pause_r1 : List Cond := [Cond.fieldLink RX6 16 "GemMemos" "before" "LGemMemos$Market;", Cond.fieldLink RX6 10 "GemMemos" "now" "LGemMemos$Market;", Cond.methodLink RX6 43 yX1_copyFrom, Cond.instanceMethod yX1_copyFrom, Cond.selects RX1 yX1_copyFrom yX1_copyFrom, Cond.initialized RX1, Cond.code yX1_copyFrom cX1_copyFrom 2 none, Cond.fieldLink RX1 12 "GemMemos$Market" "prices" "LGemMemos$Prices;", Cond.fieldLink RX1 21 "GemMemos$Market" "stones" "LGemMemos$Stones;", Cond.fieldLink RX1 28 "GemMemos$Market" "memos" "LGemMemos$Memos;", Cond.fieldLink RX1 32 "GemMemos$Market" "balances" "[I", Cond.methodLink RX1 62 arraycopyName, Cond.native arraycopyName, Cond.static arraycopyName, Cond.initialized "java/lang/System", Cond.fieldLink RX1 36 "GemMemos$Market" "dealers" "I", Cond.fieldLink RX1 40 "GemMemos$Market" "time" "I", Cond.fieldLink RX1 43 "GemMemos$Market" "grace" "I", Cond.fieldLink RX1 46 "GemMemos$Market" "extra" "I", Cond.fieldLink RX1 49 "GemMemos$Market" "keptLate" "I", Cond.methodLink RX1 52 yX3_copyFrom, Cond.instanceMethod yX3_copyFrom, Cond.selects RX3 yX3_copyFrom yX3_copyFrom, Cond.initialized RX3]
def wsX6_pause_r2 : List Cond := [Cond.code yX3_copyFrom cX3_copyFrom 2 none, Cond.fieldLink RX3 9 "GemMemos$Prices" "sieves" "[I", Cond.methodLink RX3 26 arraycopyName, Cond.fieldLink RX3 13 "GemMemos$Prices" "colours" "[I", Cond.fieldLink RX3 16 "GemMemos$Prices" "clarities" "[I", Cond.fieldLink RX3 19 "GemMemos$Prices" "coins" "[I", Cond.methodLink RX1 56 yX5_copyFrom, Cond.instanceMethod yX5_copyFrom, Cond.selects RX5 yX5_copyFrom yX5_copyFrom, Cond.initialized RX5, Cond.code yX5_copyFrom cX5_copyFrom 2 none, Cond.fieldLink RX5 9 "GemMemos$Stones" "count" "I", Cond.fieldLink RX5 15 "GemMemos$Stones" "weights" "[I", Cond.methodLink RX5 64 arraycopyName, Cond.fieldLink RX5 19 "GemMemos$Stones" "colours" "[I", Cond.fieldLink RX5 22 "GemMemos$Stones" "clarities" "[I", Cond.fieldLink RX5 25 "GemMemos$Stones" "owners" "[I", Cond.fieldLink RX5 28 "GemMemos$Stones" "holders" "[I", Cond.fieldLink RX5 31 "GemMemos$Stones" "memos" "[I", Cond.fieldLink RX5 34 "GemMemos$Stones" "asked" "[I", Cond.fieldLink RX5 37 "GemMemos$Stones" "soldFor" "[I", Cond.fieldLink RX5 40 "GemMemos$Stones" "timesKept" "[I", Cond.methodLink RX1 59 yX2_copyFrom, Cond.instanceMethod yX2_copyFrom]
def wsX6_pause_r3 : List Cond := [Cond.selects RX2 yX2_copyFrom yX2_copyFrom, Cond.initialized RX2, Cond.code yX2_copyFrom cX2_copyFrom 2 none, Cond.fieldLink RX2 9 "GemMemos$Memos" "count" "I", Cond.fieldLink RX2 15 "GemMemos$Memos" "lenders" "[I", Cond.methodLink RX2 31 arraycopyName, Cond.fieldLink RX2 19 "GemMemos$Memos" "takers" "[I", Cond.fieldLink RX2 22 "GemMemos$Memos" "lastDays" "[I", Cond.fieldLink RX2 25 "GemMemos$Memos" "lent" "[I", Cond.fieldLink RX2 28 "GemMemos$Memos" "kept" "[I", Cond.methodLink RX6 82 yX1_passDays, Cond.instanceMethod yX1_passDays, Cond.selects RX1 yX1_passDays yX1_passDays, Cond.code yX1_passDays cX1_passDays 4 (some .int), Cond.constant RX1 77 (-10000001), Cond.constant RX1 68 (-10000003), Cond.methodLink RX1 152 yX1_keepLateOnes, Cond.instanceMethod yX1_keepLateOnes, Cond.selects RX1 yX1_keepLateOnes yX1_keepLateOnes, Cond.code yX1_keepLateOnes cX1_keepLateOnes 4 (some .int), Cond.methodLink RX1 135 yX1_keepFor, Cond.instanceMethod yX1_keepFor, Cond.selects RX1 yX1_keepFor yX1_keepFor, Cond.code yX1_keepFor cX1_keepFor 6 none]
def wsX6_pause_r4 : List Cond := [Cond.methodLink RX1 69 yX1_hasDealer, Cond.instanceMethod yX1_hasDealer, Cond.selects RX1 yX1_hasDealer yX1_hasDealer, Cond.code yX1_hasDealer cX1_hasDealer 2 (some .boolean), Cond.methodLink RX1 218 yX2_has, Cond.instanceMethod yX2_has, Cond.selects RX2 yX2_has yX2_has, Cond.code yX2_has cX2_has 2 (some .boolean), Cond.methodLink RX6 51 yX6_recorded, Cond.instanceMethod yX6_recorded, Cond.selects RX6 yX6_recorded yX6_recorded, Cond.initialized RX6, Cond.code yX6_recorded cX6_recorded 2 (some .int), Cond.fieldLink RX6 28 "GemMemos" "history" "LGemMemos$History;", Cond.methodLink RX6 159 yX0_push, Cond.instanceMethod yX0_push, Cond.selects RX0 yX0_push yX0_push, Cond.initialized RX0, Cond.code yX0_push cX0_push 3 none, Cond.fieldLink RX0 19 "GemMemos$History" "size" "I", Cond.fieldLink RX0 15 "GemMemos$History" "oldest" "I", Cond.fieldLink RX0 11 "GemMemos$History" "states" "[LGemMemos$Market;", Cond.methodLink RX0 23 yJ9_floorMod_7cf53, Cond.static yJ9_floorMod_7cf53]
def wsX6_pause_r5 : List Cond := [Cond.initialized RJ9, Cond.code yJ9_floorMod_7cf53 cJ9_floorMod_7cf53 3 (some .int), Cond.methodLink RX0 29 yX1_copyFrom]
def wsX6_pause : List Cond := .code yX6_pause cX6_pause 2 (some .int) :: ((wsX6_pause_r1 ++ (wsX6_pause_r2 ++ (wsX6_pause_r3 ++ (wsX6_pause_r4 ++ wsX6_pause_r5)))) ++ wsX60 ++ wsX10 ++ wsX30 ++ wsX50 ++ wsX20 ++ wsX00)
def wsX6_set_r1 : List Cond := [Cond.fieldLink RX6 16 "GemMemos" "before" "LGemMemos$Market;", Cond.fieldLink RX6 10 "GemMemos" "now" "LGemMemos$Market;", Cond.methodLink RX6 43 yX1_copyFrom, Cond.instanceMethod yX1_copyFrom, Cond.selects RX1 yX1_copyFrom yX1_copyFrom, Cond.initialized RX1, Cond.code yX1_copyFrom cX1_copyFrom 2 none, Cond.fieldLink RX1 12 "GemMemos$Market" "prices" "LGemMemos$Prices;", Cond.fieldLink RX1 21 "GemMemos$Market" "stones" "LGemMemos$Stones;", Cond.fieldLink RX1 28 "GemMemos$Market" "memos" "LGemMemos$Memos;", Cond.fieldLink RX1 32 "GemMemos$Market" "balances" "[I", Cond.methodLink RX1 62 arraycopyName, Cond.native arraycopyName, Cond.static arraycopyName, Cond.initialized "java/lang/System", Cond.fieldLink RX1 36 "GemMemos$Market" "dealers" "I", Cond.fieldLink RX1 40 "GemMemos$Market" "time" "I", Cond.fieldLink RX1 43 "GemMemos$Market" "grace" "I", Cond.fieldLink RX1 46 "GemMemos$Market" "extra" "I", Cond.fieldLink RX1 49 "GemMemos$Market" "keptLate" "I", Cond.methodLink RX1 52 yX3_copyFrom, Cond.instanceMethod yX3_copyFrom, Cond.selects RX3 yX3_copyFrom yX3_copyFrom, Cond.initialized RX3]
def wsX6_set_r2 : List Cond := [Cond.code yX3_copyFrom cX3_copyFrom 2 none, Cond.fieldLink RX3 9 "GemMemos$Prices" "sieves" "[I", Cond.methodLink RX3 26 arraycopyName, Cond.fieldLink RX3 13 "GemMemos$Prices" "colours" "[I", Cond.fieldLink RX3 16 "GemMemos$Prices" "clarities" "[I", Cond.fieldLink RX3 19 "GemMemos$Prices" "coins" "[I", Cond.methodLink RX1 56 yX5_copyFrom, Cond.instanceMethod yX5_copyFrom, Cond.selects RX5 yX5_copyFrom yX5_copyFrom, Cond.initialized RX5, Cond.code yX5_copyFrom cX5_copyFrom 2 none, Cond.fieldLink RX5 9 "GemMemos$Stones" "count" "I", Cond.fieldLink RX5 15 "GemMemos$Stones" "weights" "[I", Cond.methodLink RX5 64 arraycopyName, Cond.fieldLink RX5 19 "GemMemos$Stones" "colours" "[I", Cond.fieldLink RX5 22 "GemMemos$Stones" "clarities" "[I", Cond.fieldLink RX5 25 "GemMemos$Stones" "owners" "[I", Cond.fieldLink RX5 28 "GemMemos$Stones" "holders" "[I", Cond.fieldLink RX5 31 "GemMemos$Stones" "memos" "[I", Cond.fieldLink RX5 34 "GemMemos$Stones" "asked" "[I", Cond.fieldLink RX5 37 "GemMemos$Stones" "soldFor" "[I", Cond.fieldLink RX5 40 "GemMemos$Stones" "timesKept" "[I", Cond.methodLink RX1 59 yX2_copyFrom, Cond.instanceMethod yX2_copyFrom]
def wsX6_set_r3 : List Cond := [Cond.selects RX2 yX2_copyFrom yX2_copyFrom, Cond.initialized RX2, Cond.code yX2_copyFrom cX2_copyFrom 2 none, Cond.fieldLink RX2 9 "GemMemos$Memos" "count" "I", Cond.fieldLink RX2 15 "GemMemos$Memos" "lenders" "[I", Cond.methodLink RX2 31 arraycopyName, Cond.fieldLink RX2 19 "GemMemos$Memos" "takers" "[I", Cond.fieldLink RX2 22 "GemMemos$Memos" "lastDays" "[I", Cond.fieldLink RX2 25 "GemMemos$Memos" "lent" "[I", Cond.fieldLink RX2 28 "GemMemos$Memos" "kept" "[I", Cond.methodLink RX6 85 yX1_putSetting, Cond.instanceMethod yX1_putSetting, Cond.selects RX1 yX1_putSetting yX1_putSetting, Cond.code yX1_putSetting cX1_putSetting 4 (some .int), Cond.constant RX1 77 (-10000001), Cond.methodLink RX6 51 yX6_recorded, Cond.instanceMethod yX6_recorded, Cond.selects RX6 yX6_recorded yX6_recorded, Cond.initialized RX6, Cond.code yX6_recorded cX6_recorded 2 (some .int), Cond.fieldLink RX6 28 "GemMemos" "history" "LGemMemos$History;", Cond.methodLink RX6 159 yX0_push, Cond.instanceMethod yX0_push, Cond.selects RX0 yX0_push yX0_push]
def wsX6_set_r4 : List Cond := [Cond.initialized RX0, Cond.code yX0_push cX0_push 3 none, Cond.fieldLink RX0 19 "GemMemos$History" "size" "I", Cond.fieldLink RX0 15 "GemMemos$History" "oldest" "I", Cond.fieldLink RX0 11 "GemMemos$History" "states" "[LGemMemos$Market;", Cond.methodLink RX0 23 yJ9_floorMod_7cf53, Cond.static yJ9_floorMod_7cf53, Cond.initialized RJ9, Cond.code yJ9_floorMod_7cf53 cJ9_floorMod_7cf53 3 (some .int), Cond.methodLink RX0 29 yX1_copyFrom]
def wsX6_set : List Cond := .code yX6_set cX6_set 3 (some .int) :: ((wsX6_set_r1 ++ (wsX6_set_r2 ++ (wsX6_set_r3 ++ wsX6_set_r4))) ++ wsX60 ++ wsX10 ++ wsX30 ++ wsX50 ++ wsX20 ++ wsX00)
def wsX6_stoneOf_r1 : List Cond := [Cond.fieldLink RX6 10 "GemMemos" "now" "LGemMemos$Market;", Cond.constant RX6 98 (-10000001), Cond.methodLink RX6 92 yX5_has, Cond.instanceMethod yX5_has, Cond.selects RX5 yX5_has yX5_has, Cond.initialized RX5, Cond.code yX5_has cX5_has 2 (some .boolean), Cond.fieldLink RX5 9 "GemMemos$Stones" "count" "I", Cond.methodLink RX6 99 yX1_tellStone, Cond.instanceMethod yX1_tellStone, Cond.selects RX1 yX1_tellStone yX1_tellStone, Cond.initialized RX1, Cond.code yX1_tellStone cX1_tellStone 4 (some .int), Cond.fieldLink RX1 21 "GemMemos$Market" "stones" "LGemMemos$Stones;", Cond.constant RX1 162 (-10000004), Cond.constant RX1 77 (-10000001), Cond.methodLink RX1 159 yX5_sieveOf, Cond.instanceMethod yX5_sieveOf, Cond.selects RX5 yX5_sieveOf yX5_sieveOf, Cond.code yX5_sieveOf cX5_sieveOf 3 (some .int), Cond.fieldLink RX5 15 "GemMemos$Stones" "weights" "[I", Cond.methodLink RX1 139 yX5_isSold, Cond.instanceMethod yX5_isSold, Cond.selects RX5 yX5_isSold yX5_isSold]
def wsX6_stoneOf_r2 : List Cond := [Cond.code yX5_isSold cX5_isSold 2 (some .boolean), Cond.fieldLink RX5 37 "GemMemos$Stones" "soldFor" "[I", Cond.methodLink RX1 113 yX1_priceOf, Cond.instanceMethod yX1_priceOf, Cond.selects RX1 yX1_priceOf yX1_priceOf, Cond.code yX1_priceOf cX1_priceOf 3 (some .int), Cond.fieldLink RX1 12 "GemMemos$Market" "prices" "LGemMemos$Prices;", Cond.methodLink RX1 215 yX3_rateFor, Cond.instanceMethod yX3_rateFor, Cond.selects RX3 yX3_rateFor yX3_rateFor, Cond.initialized RX3, Cond.code yX3_rateFor cX3_rateFor 6 (some .int), Cond.fieldLink RX3 19 "GemMemos$Prices" "coins" "[I", Cond.fieldLink RX3 9 "GemMemos$Prices" "sieves" "[I", Cond.fieldLink RX3 13 "GemMemos$Prices" "colours" "[I", Cond.fieldLink RX3 16 "GemMemos$Prices" "clarities" "[I", Cond.methodLink RX1 120 yX5_isOut, Cond.instanceMethod yX5_isOut, Cond.selects RX5 yX5_isOut yX5_isOut, Cond.code yX5_isOut cX5_isOut 2 (some .boolean), Cond.fieldLink RX5 31 "GemMemos$Stones" "memos" "[I"]
def wsX6_stoneOf : List Cond := .code yX6_stoneOf cX6_stoneOf 3 (some .int) :: ((wsX6_stoneOf_r1 ++ wsX6_stoneOf_r2) ++ wsX60 ++ wsX10 ++ wsX50 ++ wsX30)
def wsX6_dealerOf_r1 : List Cond := [Cond.fieldLink RX6 10 "GemMemos" "now" "LGemMemos$Market;", Cond.constant RX6 98 (-10000001), Cond.methodLink RX6 102 yX1_hasDealer, Cond.instanceMethod yX1_hasDealer, Cond.selects RX1 yX1_hasDealer yX1_hasDealer, Cond.initialized RX1, Cond.code yX1_hasDealer cX1_hasDealer 2 (some .boolean), Cond.fieldLink RX1 36 "GemMemos$Market" "dealers" "I", Cond.methodLink RX6 105 yX1_tellDealer, Cond.instanceMethod yX1_tellDealer, Cond.selects RX1 yX1_tellDealer yX1_tellDealer, Cond.code yX1_tellDealer cX1_tellDealer 3 (some .int), Cond.fieldLink RX1 32 "GemMemos$Market" "balances" "[I", Cond.constant RX1 145 (100000000), Cond.fieldLink RX1 21 "GemMemos$Market" "stones" "LGemMemos$Stones;", Cond.constant RX1 77 (-10000001), Cond.methodLink RX1 126 yX5_setWhere, Cond.instanceMethod yX5_setWhere, Cond.selects RX5 yX5_setWhere yX5_setWhere, Cond.initialized RX5, Cond.code yX5_setWhere cX5_setWhere 5 (some .int), Cond.fieldLink RX5 9 "GemMemos$Stones" "count" "I", Cond.methodLink RX1 166 yX1_worthOf, Cond.instanceMethod yX1_worthOf]
def wsX6_dealerOf_r2 : List Cond := [Cond.selects RX1 yX1_worthOf yX1_worthOf, Cond.code yX1_worthOf cX1_worthOf 5 (some .int), Cond.methodLink RX1 113 yX1_priceOf, Cond.instanceMethod yX1_priceOf, Cond.selects RX1 yX1_priceOf yX1_priceOf, Cond.code yX1_priceOf cX1_priceOf 3 (some .int), Cond.fieldLink RX1 12 "GemMemos$Market" "prices" "LGemMemos$Prices;", Cond.methodLink RX1 159 yX5_sieveOf, Cond.instanceMethod yX5_sieveOf, Cond.selects RX5 yX5_sieveOf yX5_sieveOf, Cond.code yX5_sieveOf cX5_sieveOf 3 (some .int), Cond.fieldLink RX5 15 "GemMemos$Stones" "weights" "[I", Cond.methodLink RX1 215 yX3_rateFor, Cond.instanceMethod yX3_rateFor, Cond.selects RX3 yX3_rateFor yX3_rateFor, Cond.initialized RX3, Cond.code yX3_rateFor cX3_rateFor 6 (some .int), Cond.fieldLink RX3 19 "GemMemos$Prices" "coins" "[I", Cond.fieldLink RX3 9 "GemMemos$Prices" "sieves" "[I", Cond.fieldLink RX3 13 "GemMemos$Prices" "colours" "[I", Cond.fieldLink RX3 16 "GemMemos$Prices" "clarities" "[I", Cond.methodLink RX1 169 yX5_sumAsked, Cond.instanceMethod yX5_sumAsked, Cond.selects RX5 yX5_sumAsked yX5_sumAsked]
def wsX6_dealerOf_r3 : List Cond := [Cond.code yX5_sumAsked cX5_sumAsked 5 (some .int), Cond.fieldLink RX5 34 "GemMemos$Stones" "asked" "[I", Cond.methodLink RX5 47 yX5_isOut, Cond.instanceMethod yX5_isOut, Cond.selects RX5 yX5_isOut yX5_isOut, Cond.code yX5_isOut cX5_isOut 2 (some .boolean), Cond.fieldLink RX5 31 "GemMemos$Stones" "memos" "[I"]
def wsX6_dealerOf : List Cond := .code yX6_dealerOf cX6_dealerOf 3 (some .int) :: ((wsX6_dealerOf_r1 ++ (wsX6_dealerOf_r2 ++ wsX6_dealerOf_r3)) ++ wsX60 ++ wsX10 ++ wsX50 ++ wsX30)
def wsX6_memoOf_r1 : List Cond := [Cond.fieldLink RX6 10 "GemMemos" "now" "LGemMemos$Market;", Cond.constant RX6 98 (-10000001), Cond.methodLink RX6 112 yX2_has, Cond.instanceMethod yX2_has, Cond.selects RX2 yX2_has yX2_has, Cond.initialized RX2, Cond.code yX2_has cX2_has 2 (some .boolean), Cond.fieldLink RX2 9 "GemMemos$Memos" "count" "I", Cond.methodLink RX6 115 yX1_tellMemo, Cond.instanceMethod yX1_tellMemo, Cond.selects RX1 yX1_tellMemo yX1_tellMemo, Cond.initialized RX1, Cond.code yX1_tellMemo cX1_tellMemo 3 (some .int), Cond.fieldLink RX1 28 "GemMemos$Market" "memos" "LGemMemos$Memos;", Cond.fieldLink RX1 21 "GemMemos$Market" "stones" "LGemMemos$Stones;", Cond.fieldLink RX1 40 "GemMemos$Market" "time" "I", Cond.methodLink RX1 190 Lib.Math.max.name, Cond.static Lib.Math.max.name, Cond.initialized "java/lang/Math", Cond.code Lib.Math.max.name Lib.Math.max.code 2 (some .int), Cond.constant RX1 77 (-10000001), Cond.methodLink RX1 126 yX5_setWhere, Cond.instanceMethod yX5_setWhere, Cond.selects RX5 yX5_setWhere yX5_setWhere]
def wsX6_memoOf_r2 : List Cond := [Cond.initialized RX5, Cond.code yX5_setWhere cX5_setWhere 5 (some .int), Cond.fieldLink RX5 9 "GemMemos$Stones" "count" "I", Cond.methodLink RX1 187 yX1_isOpen, Cond.instanceMethod yX1_isOpen, Cond.selects RX1 yX1_isOpen yX1_isOpen, Cond.code yX1_isOpen cX1_isOpen 2 (some .boolean)]
def wsX6_memoOf : List Cond := .code yX6_memoOf cX6_memoOf 3 (some .int) :: ((wsX6_memoOf_r1 ++ wsX6_memoOf_r2) ++ wsX60 ++ wsX10 ++ wsX20 ++ wsX50)
def wsX6_rateOf_r1 : List Cond := [Cond.constant RX6 98 (-10000001), Cond.fieldLink RX6 10 "GemMemos" "now" "LGemMemos$Market;", Cond.constant RX6 134 (-10000004), Cond.methodLink RX6 118 yX6_isGrade, Cond.static yX6_isGrade, Cond.initialized RX6, Cond.code yX6_isGrade cX6_isGrade 3 (some .boolean), Cond.methodLink RX6 180 yX6_isLook, Cond.static yX6_isLook, Cond.code yX6_isLook cX6_isLook 2 (some .boolean), Cond.methodLink RX6 126 yX3_ownRate, Cond.instanceMethod yX3_ownRate, Cond.selects RX3 yX3_ownRate yX3_ownRate, Cond.initialized RX3, Cond.code yX3_ownRate cX3_ownRate 5 (some .int), Cond.fieldLink RX3 19 "GemMemos$Prices" "coins" "[I", Cond.methodLink RX3 22 yX3_isEntryOf, Cond.instanceMethod yX3_isEntryOf, Cond.selects RX3 yX3_isEntryOf yX3_isEntryOf, Cond.code yX3_isEntryOf cX3_isEntryOf 5 (some .boolean), Cond.fieldLink RX3 9 "GemMemos$Prices" "sieves" "[I", Cond.fieldLink RX3 13 "GemMemos$Prices" "colours" "[I", Cond.fieldLink RX3 16 "GemMemos$Prices" "clarities" "[I", Cond.methodLink RX6 131 yX3_rateFor]
def wsX6_rateOf_r2 : List Cond := [Cond.instanceMethod yX3_rateFor, Cond.selects RX3 yX3_rateFor yX3_rateFor, Cond.code yX3_rateFor cX3_rateFor 6 (some .int)]
def wsX6_rateOf : List Cond := .code yX6_rateOf cX6_rateOf 6 (some .int) :: ((wsX6_rateOf_r1 ++ wsX6_rateOf_r2) ++ wsX60 ++ wsX10 ++ wsX30)
def wsX6_count_r1 : List Cond := [Cond.fieldLink RX6 28 "GemMemos" "history" "LGemMemos$History;", Cond.fieldLink RX6 35 "GemMemos" "script" "LGemMemos$Script;", Cond.fieldLink RX6 39 "GemMemos" "hasSnapshot" "Z", Cond.fieldLink RX6 10 "GemMemos" "now" "LGemMemos$Market;", Cond.methodLink RX6 142 yX1_tellNumber, Cond.instanceMethod yX1_tellNumber, Cond.selects RX1 yX1_tellNumber yX1_tellNumber, Cond.initialized RX1, Cond.code yX1_tellNumber cX1_tellNumber 2 (some .int), Cond.fieldLink RX1 36 "GemMemos$Market" "dealers" "I", Cond.fieldLink RX1 21 "GemMemos$Market" "stones" "LGemMemos$Stones;", Cond.fieldLink RX1 28 "GemMemos$Market" "memos" "LGemMemos$Memos;", Cond.fieldLink RX1 12 "GemMemos$Market" "prices" "LGemMemos$Prices;", Cond.fieldLink RX1 40 "GemMemos$Market" "time" "I", Cond.constant RX1 145 (100000000), Cond.fieldLink RX1 49 "GemMemos$Market" "keptLate" "I", Cond.fieldLink RX1 43 "GemMemos$Market" "grace" "I", Cond.fieldLink RX1 46 "GemMemos$Market" "extra" "I", Cond.constant RX1 77 (-10000001), Cond.methodLink RX1 196 yX5_countSold, Cond.instanceMethod yX5_countSold, Cond.selects RX5 yX5_countSold yX5_countSold, Cond.initialized RX5, Cond.code yX5_countSold cX5_countSold 3 (some .int)]
def wsX6_count_r2 : List Cond := [Cond.fieldLink RX5 9 "GemMemos$Stones" "count" "I", Cond.methodLink RX5 43 yX5_isSold, Cond.instanceMethod yX5_isSold, Cond.selects RX5 yX5_isSold yX5_isSold, Cond.code yX5_isSold cX5_isSold 2 (some .boolean), Cond.fieldLink RX5 37 "GemMemos$Stones" "soldFor" "[I", Cond.methodLink RX1 199 yX5_countOut, Cond.instanceMethod yX5_countOut, Cond.selects RX5 yX5_countOut yX5_countOut, Cond.code yX5_countOut cX5_countOut 3 (some .int), Cond.methodLink RX5 47 yX5_isOut, Cond.instanceMethod yX5_isOut, Cond.selects RX5 yX5_isOut yX5_isOut, Cond.code yX5_isOut cX5_isOut 2 (some .boolean), Cond.fieldLink RX5 31 "GemMemos$Stones" "memos" "[I", Cond.methodLink RX1 203 yX1_countOpen, Cond.instanceMethod yX1_countOpen, Cond.selects RX1 yX1_countOpen yX1_countOpen, Cond.code yX1_countOpen cX1_countOpen 3 (some .int), Cond.methodLink RX1 187 yX1_isOpen, Cond.instanceMethod yX1_isOpen, Cond.selects RX1 yX1_isOpen yX1_isOpen, Cond.code yX1_isOpen cX1_isOpen 2 (some .boolean), Cond.methodLink RX1 126 yX5_setWhere]
def wsX6_count_r3 : List Cond := [Cond.instanceMethod yX5_setWhere, Cond.selects RX5 yX5_setWhere yX5_setWhere, Cond.code yX5_setWhere cX5_setWhere 5 (some .int), Cond.methodLink RX1 206 yX3_entries, Cond.instanceMethod yX3_entries, Cond.selects RX3 yX3_entries yX3_entries, Cond.initialized RX3, Cond.code yX3_entries cX3_entries 3 (some .int), Cond.fieldLink RX3 19 "GemMemos$Prices" "coins" "[I", Cond.methodLink RX1 209 yX1_sumOfBalances, Cond.instanceMethod yX1_sumOfBalances, Cond.selects RX1 yX1_sumOfBalances yX1_sumOfBalances, Cond.code yX1_sumOfBalances cX1_sumOfBalances 3 (some .int), Cond.fieldLink RX1 32 "GemMemos$Market" "balances" "[I", Cond.methodLink RX1 212 yX5_sumSold, Cond.instanceMethod yX5_sumSold, Cond.selects RX5 yX5_sumSold yX5_sumSold, Cond.code yX5_sumSold cX5_sumSold 3 (some .int)]
def wsX6_count : List Cond := .code yX6_count cX6_count 2 (some .int) :: ((wsX6_count_r1 ++ (wsX6_count_r2 ++ wsX6_count_r3)) ++ wsX60 ++ wsX00 ++ wsX40 ++ wsX10 ++ wsX50 ++ wsX20 ++ wsX30)
def wsX6_grades_r1 : List Cond := [Cond.fieldLink RX6 10 "GemMemos" "now" "LGemMemos$Market;", Cond.constant RX6 98 (-10000001), Cond.methodLink RX6 102 yX1_hasDealer, Cond.instanceMethod yX1_hasDealer, Cond.selects RX1 yX1_hasDealer yX1_hasDealer, Cond.initialized RX1, Cond.code yX1_hasDealer cX1_hasDealer 2 (some .boolean), Cond.fieldLink RX1 36 "GemMemos$Market" "dealers" "I", Cond.methodLink RX6 152 yX5_unlikeGrades, Cond.instanceMethod yX5_unlikeGrades, Cond.selects RX5 yX5_unlikeGrades yX5_unlikeGrades, Cond.initialized RX5, Cond.code yX5_unlikeGrades cX5_unlikeGrades 4 (some .int), Cond.fieldLink RX5 9 "GemMemos$Stones" "count" "I", Cond.fieldLink RX5 28 "GemMemos$Stones" "holders" "[I", Cond.methodLink RX5 61 yX5_hasLikeBefore, Cond.instanceMethod yX5_hasLikeBefore, Cond.selects RX5 yX5_hasLikeBefore yX5_hasLikeBefore, Cond.code yX5_hasLikeBefore cX5_hasLikeBefore 4 (some .boolean), Cond.methodLink RX5 56 yX5_sameGrade, Cond.instanceMethod yX5_sameGrade, Cond.selects RX5 yX5_sameGrade yX5_sameGrade, Cond.code yX5_sameGrade cX5_sameGrade 3 (some .boolean), Cond.fieldLink RX5 19 "GemMemos$Stones" "colours" "[I"]
def wsX6_grades_r2 : List Cond := [Cond.fieldLink RX5 22 "GemMemos$Stones" "clarities" "[I", Cond.methodLink RX5 70 yX5_sieveOf, Cond.instanceMethod yX5_sieveOf, Cond.selects RX5 yX5_sieveOf yX5_sieveOf, Cond.code yX5_sieveOf cX5_sieveOf 3 (some .int), Cond.fieldLink RX5 15 "GemMemos$Stones" "weights" "[I"]
def wsX6_grades : List Cond := .code yX6_grades cX6_grades 2 (some .int) :: ((wsX6_grades_r1 ++ wsX6_grades_r2) ++ wsX60 ++ wsX10 ++ wsX50)
def wsX6_mark_r1 : List Cond := [Cond.fieldLink RX6 22 "GemMemos" "snapshot" "LGemMemos$Market;", Cond.fieldLink RX6 10 "GemMemos" "now" "LGemMemos$Market;", Cond.fieldLink RX6 39 "GemMemos" "hasSnapshot" "Z", Cond.methodLink RX6 43 yX1_copyFrom, Cond.instanceMethod yX1_copyFrom, Cond.selects RX1 yX1_copyFrom yX1_copyFrom, Cond.initialized RX1, Cond.code yX1_copyFrom cX1_copyFrom 2 none, Cond.fieldLink RX1 12 "GemMemos$Market" "prices" "LGemMemos$Prices;", Cond.fieldLink RX1 21 "GemMemos$Market" "stones" "LGemMemos$Stones;", Cond.fieldLink RX1 28 "GemMemos$Market" "memos" "LGemMemos$Memos;", Cond.fieldLink RX1 32 "GemMemos$Market" "balances" "[I", Cond.methodLink RX1 62 arraycopyName, Cond.native arraycopyName, Cond.static arraycopyName, Cond.initialized "java/lang/System", Cond.fieldLink RX1 36 "GemMemos$Market" "dealers" "I", Cond.fieldLink RX1 40 "GemMemos$Market" "time" "I", Cond.fieldLink RX1 43 "GemMemos$Market" "grace" "I", Cond.fieldLink RX1 46 "GemMemos$Market" "extra" "I", Cond.fieldLink RX1 49 "GemMemos$Market" "keptLate" "I", Cond.methodLink RX1 52 yX3_copyFrom, Cond.instanceMethod yX3_copyFrom, Cond.selects RX3 yX3_copyFrom yX3_copyFrom]
def wsX6_mark_r2 : List Cond := [Cond.initialized RX3, Cond.code yX3_copyFrom cX3_copyFrom 2 none, Cond.fieldLink RX3 9 "GemMemos$Prices" "sieves" "[I", Cond.methodLink RX3 26 arraycopyName, Cond.fieldLink RX3 13 "GemMemos$Prices" "colours" "[I", Cond.fieldLink RX3 16 "GemMemos$Prices" "clarities" "[I", Cond.fieldLink RX3 19 "GemMemos$Prices" "coins" "[I", Cond.methodLink RX1 56 yX5_copyFrom, Cond.instanceMethod yX5_copyFrom, Cond.selects RX5 yX5_copyFrom yX5_copyFrom, Cond.initialized RX5, Cond.code yX5_copyFrom cX5_copyFrom 2 none, Cond.fieldLink RX5 9 "GemMemos$Stones" "count" "I", Cond.fieldLink RX5 15 "GemMemos$Stones" "weights" "[I", Cond.methodLink RX5 64 arraycopyName, Cond.fieldLink RX5 19 "GemMemos$Stones" "colours" "[I", Cond.fieldLink RX5 22 "GemMemos$Stones" "clarities" "[I", Cond.fieldLink RX5 25 "GemMemos$Stones" "owners" "[I", Cond.fieldLink RX5 28 "GemMemos$Stones" "holders" "[I", Cond.fieldLink RX5 31 "GemMemos$Stones" "memos" "[I", Cond.fieldLink RX5 34 "GemMemos$Stones" "asked" "[I", Cond.fieldLink RX5 37 "GemMemos$Stones" "soldFor" "[I", Cond.fieldLink RX5 40 "GemMemos$Stones" "timesKept" "[I", Cond.methodLink RX1 59 yX2_copyFrom]
def wsX6_mark_r3 : List Cond := [Cond.instanceMethod yX2_copyFrom, Cond.selects RX2 yX2_copyFrom yX2_copyFrom, Cond.initialized RX2, Cond.code yX2_copyFrom cX2_copyFrom 2 none, Cond.fieldLink RX2 9 "GemMemos$Memos" "count" "I", Cond.fieldLink RX2 15 "GemMemos$Memos" "lenders" "[I", Cond.methodLink RX2 31 arraycopyName, Cond.fieldLink RX2 19 "GemMemos$Memos" "takers" "[I", Cond.fieldLink RX2 22 "GemMemos$Memos" "lastDays" "[I", Cond.fieldLink RX2 25 "GemMemos$Memos" "lent" "[I", Cond.fieldLink RX2 28 "GemMemos$Memos" "kept" "[I"]
def wsX6_mark : List Cond := .code yX6_mark cX6_mark 1 (some .int) :: ((wsX6_mark_r1 ++ (wsX6_mark_r2 ++ wsX6_mark_r3)) ++ wsX60 ++ wsX10 ++ wsX30 ++ wsX50 ++ wsX20)
def wsX6_restore_r1 : List Cond := [Cond.fieldLink RX6 39 "GemMemos" "hasSnapshot" "Z", Cond.constant RX6 158 (-10000002), Cond.fieldLink RX6 28 "GemMemos" "history" "LGemMemos$History;", Cond.fieldLink RX6 10 "GemMemos" "now" "LGemMemos$Market;", Cond.fieldLink RX6 22 "GemMemos" "snapshot" "LGemMemos$Market;", Cond.methodLink RX6 159 yX0_push, Cond.instanceMethod yX0_push, Cond.selects RX0 yX0_push yX0_push, Cond.initialized RX0, Cond.code yX0_push cX0_push 3 none, Cond.fieldLink RX0 19 "GemMemos$History" "size" "I", Cond.fieldLink RX0 15 "GemMemos$History" "oldest" "I", Cond.fieldLink RX0 11 "GemMemos$History" "states" "[LGemMemos$Market;", Cond.methodLink RX0 23 yJ9_floorMod_7cf53, Cond.static yJ9_floorMod_7cf53, Cond.initialized RJ9, Cond.code yJ9_floorMod_7cf53 cJ9_floorMod_7cf53 3 (some .int), Cond.methodLink RX0 29 yX1_copyFrom, Cond.instanceMethod yX1_copyFrom, Cond.selects RX1 yX1_copyFrom yX1_copyFrom, Cond.initialized RX1, Cond.code yX1_copyFrom cX1_copyFrom 2 none, Cond.fieldLink RX1 12 "GemMemos$Market" "prices" "LGemMemos$Prices;", Cond.fieldLink RX1 21 "GemMemos$Market" "stones" "LGemMemos$Stones;"]
def wsX6_restore_r2 : List Cond := [Cond.fieldLink RX1 28 "GemMemos$Market" "memos" "LGemMemos$Memos;", Cond.fieldLink RX1 32 "GemMemos$Market" "balances" "[I", Cond.methodLink RX1 62 arraycopyName, Cond.native arraycopyName, Cond.static arraycopyName, Cond.initialized "java/lang/System", Cond.fieldLink RX1 36 "GemMemos$Market" "dealers" "I", Cond.fieldLink RX1 40 "GemMemos$Market" "time" "I", Cond.fieldLink RX1 43 "GemMemos$Market" "grace" "I", Cond.fieldLink RX1 46 "GemMemos$Market" "extra" "I", Cond.fieldLink RX1 49 "GemMemos$Market" "keptLate" "I", Cond.methodLink RX1 52 yX3_copyFrom, Cond.instanceMethod yX3_copyFrom, Cond.selects RX3 yX3_copyFrom yX3_copyFrom, Cond.initialized RX3, Cond.code yX3_copyFrom cX3_copyFrom 2 none, Cond.fieldLink RX3 9 "GemMemos$Prices" "sieves" "[I", Cond.methodLink RX3 26 arraycopyName, Cond.fieldLink RX3 13 "GemMemos$Prices" "colours" "[I", Cond.fieldLink RX3 16 "GemMemos$Prices" "clarities" "[I", Cond.fieldLink RX3 19 "GemMemos$Prices" "coins" "[I", Cond.methodLink RX1 56 yX5_copyFrom, Cond.instanceMethod yX5_copyFrom, Cond.selects RX5 yX5_copyFrom yX5_copyFrom]
def wsX6_restore_r3 : List Cond := [Cond.initialized RX5, Cond.code yX5_copyFrom cX5_copyFrom 2 none, Cond.fieldLink RX5 9 "GemMemos$Stones" "count" "I", Cond.fieldLink RX5 15 "GemMemos$Stones" "weights" "[I", Cond.methodLink RX5 64 arraycopyName, Cond.fieldLink RX5 19 "GemMemos$Stones" "colours" "[I", Cond.fieldLink RX5 22 "GemMemos$Stones" "clarities" "[I", Cond.fieldLink RX5 25 "GemMemos$Stones" "owners" "[I", Cond.fieldLink RX5 28 "GemMemos$Stones" "holders" "[I", Cond.fieldLink RX5 31 "GemMemos$Stones" "memos" "[I", Cond.fieldLink RX5 34 "GemMemos$Stones" "asked" "[I", Cond.fieldLink RX5 37 "GemMemos$Stones" "soldFor" "[I", Cond.fieldLink RX5 40 "GemMemos$Stones" "timesKept" "[I", Cond.methodLink RX1 59 yX2_copyFrom, Cond.instanceMethod yX2_copyFrom, Cond.selects RX2 yX2_copyFrom yX2_copyFrom, Cond.initialized RX2, Cond.code yX2_copyFrom cX2_copyFrom 2 none, Cond.fieldLink RX2 9 "GemMemos$Memos" "count" "I", Cond.fieldLink RX2 15 "GemMemos$Memos" "lenders" "[I", Cond.methodLink RX2 31 arraycopyName, Cond.fieldLink RX2 19 "GemMemos$Memos" "takers" "[I", Cond.fieldLink RX2 22 "GemMemos$Memos" "lastDays" "[I", Cond.fieldLink RX2 25 "GemMemos$Memos" "lent" "[I"]
def wsX6_restore_r4 : List Cond := [Cond.fieldLink RX2 28 "GemMemos$Memos" "kept" "[I", Cond.methodLink RX6 43 yX1_copyFrom]
def wsX6_restore : List Cond := .code yX6_restore cX6_restore 1 (some .int) :: ((wsX6_restore_r1 ++ (wsX6_restore_r2 ++ (wsX6_restore_r3 ++ wsX6_restore_r4))) ++ wsX60 ++ wsX10 ++ wsX00 ++ wsX30 ++ wsX50 ++ wsX20)
def wsX6_undo_r1 : List Cond := [Cond.fieldLink RX6 28 "GemMemos" "history" "LGemMemos$History;", Cond.constant RX6 158 (-10000002), Cond.fieldLink RX6 10 "GemMemos" "now" "LGemMemos$Market;", Cond.methodLink RX6 162 yX0_popInto, Cond.instanceMethod yX0_popInto, Cond.selects RX0 yX0_popInto yX0_popInto, Cond.initialized RX0, Cond.code yX0_popInto cX0_popInto 3 none, Cond.fieldLink RX0 19 "GemMemos$History" "size" "I", Cond.fieldLink RX0 11 "GemMemos$History" "states" "[LGemMemos$Market;", Cond.fieldLink RX0 15 "GemMemos$History" "oldest" "I", Cond.methodLink RX0 23 yJ9_floorMod_7cf53, Cond.static yJ9_floorMod_7cf53, Cond.initialized RJ9, Cond.code yJ9_floorMod_7cf53 cJ9_floorMod_7cf53 3 (some .int), Cond.methodLink RX0 29 yX1_copyFrom, Cond.instanceMethod yX1_copyFrom, Cond.selects RX1 yX1_copyFrom yX1_copyFrom, Cond.initialized RX1, Cond.code yX1_copyFrom cX1_copyFrom 2 none, Cond.fieldLink RX1 12 "GemMemos$Market" "prices" "LGemMemos$Prices;", Cond.fieldLink RX1 21 "GemMemos$Market" "stones" "LGemMemos$Stones;", Cond.fieldLink RX1 28 "GemMemos$Market" "memos" "LGemMemos$Memos;", Cond.fieldLink RX1 32 "GemMemos$Market" "balances" "[I"]
def wsX6_undo_r2 : List Cond := [Cond.methodLink RX1 62 arraycopyName, Cond.native arraycopyName, Cond.static arraycopyName, Cond.initialized "java/lang/System", Cond.fieldLink RX1 36 "GemMemos$Market" "dealers" "I", Cond.fieldLink RX1 40 "GemMemos$Market" "time" "I", Cond.fieldLink RX1 43 "GemMemos$Market" "grace" "I", Cond.fieldLink RX1 46 "GemMemos$Market" "extra" "I", Cond.fieldLink RX1 49 "GemMemos$Market" "keptLate" "I", Cond.methodLink RX1 52 yX3_copyFrom, Cond.instanceMethod yX3_copyFrom, Cond.selects RX3 yX3_copyFrom yX3_copyFrom, Cond.initialized RX3, Cond.code yX3_copyFrom cX3_copyFrom 2 none, Cond.fieldLink RX3 9 "GemMemos$Prices" "sieves" "[I", Cond.methodLink RX3 26 arraycopyName, Cond.fieldLink RX3 13 "GemMemos$Prices" "colours" "[I", Cond.fieldLink RX3 16 "GemMemos$Prices" "clarities" "[I", Cond.fieldLink RX3 19 "GemMemos$Prices" "coins" "[I", Cond.methodLink RX1 56 yX5_copyFrom, Cond.instanceMethod yX5_copyFrom, Cond.selects RX5 yX5_copyFrom yX5_copyFrom, Cond.initialized RX5, Cond.code yX5_copyFrom cX5_copyFrom 2 none]
def wsX6_undo_r3 : List Cond := [Cond.fieldLink RX5 9 "GemMemos$Stones" "count" "I", Cond.fieldLink RX5 15 "GemMemos$Stones" "weights" "[I", Cond.methodLink RX5 64 arraycopyName, Cond.fieldLink RX5 19 "GemMemos$Stones" "colours" "[I", Cond.fieldLink RX5 22 "GemMemos$Stones" "clarities" "[I", Cond.fieldLink RX5 25 "GemMemos$Stones" "owners" "[I", Cond.fieldLink RX5 28 "GemMemos$Stones" "holders" "[I", Cond.fieldLink RX5 31 "GemMemos$Stones" "memos" "[I", Cond.fieldLink RX5 34 "GemMemos$Stones" "asked" "[I", Cond.fieldLink RX5 37 "GemMemos$Stones" "soldFor" "[I", Cond.fieldLink RX5 40 "GemMemos$Stones" "timesKept" "[I", Cond.methodLink RX1 59 yX2_copyFrom, Cond.instanceMethod yX2_copyFrom, Cond.selects RX2 yX2_copyFrom yX2_copyFrom, Cond.initialized RX2, Cond.code yX2_copyFrom cX2_copyFrom 2 none, Cond.fieldLink RX2 9 "GemMemos$Memos" "count" "I", Cond.fieldLink RX2 15 "GemMemos$Memos" "lenders" "[I", Cond.methodLink RX2 31 arraycopyName, Cond.fieldLink RX2 19 "GemMemos$Memos" "takers" "[I", Cond.fieldLink RX2 22 "GemMemos$Memos" "lastDays" "[I", Cond.fieldLink RX2 25 "GemMemos$Memos" "lent" "[I", Cond.fieldLink RX2 28 "GemMemos$Memos" "kept" "[I"]
def wsX6_undo : List Cond := .code yX6_undo cX6_undo 1 (some .int) :: ((wsX6_undo_r1 ++ (wsX6_undo_r2 ++ wsX6_undo_r3)) ++ wsX60 ++ wsX00 ++ wsX10 ++ wsX30 ++ wsX50 ++ wsX20)
def wsX6_type : List Cond := .code yX6_type cX6_type 2 (some .int) :: ([.constant RX6 98 (-10000001), .fieldLink RX6 35 "GemMemos" "script" "LGemMemos$Script;", .methodLink RX6 165 yX4_append, .instanceMethod yX4_append, .selects RX4 yX4_append yX4_append, .initialized RX4, .code yX4_append cX4_append 2 (some .int), .fieldLink RX4 15 "GemMemos$Script" "length" "I", .constant RX4 38 (-10000003), .fieldLink RX4 11 "GemMemos$Script" "signs" "[C"] ++ wsX60 ++ wsX40)
def wsX6_clearText : List Cond := .code yX6_clearText cX6_clearText 2 (some .int) :: ([.fieldLink RX6 35 "GemMemos" "script" "LGemMemos$Script;"] ++ wsX60 ++ wsX40)
def wsX6_fault_r1 : List Cond := [Cond.constant RX6 98 (-10000001), Cond.fieldLink RX6 19 "GemMemos" "trial" "LGemMemos$Market;", Cond.fieldLink RX6 10 "GemMemos" "now" "LGemMemos$Market;", Cond.fieldLink RX6 35 "GemMemos" "script" "LGemMemos$Script;", Cond.methodLink RX6 43 yX1_copyFrom, Cond.instanceMethod yX1_copyFrom, Cond.selects RX1 yX1_copyFrom yX1_copyFrom, Cond.initialized RX1, Cond.code yX1_copyFrom cX1_copyFrom 2 none, Cond.fieldLink RX1 12 "GemMemos$Market" "prices" "LGemMemos$Prices;", Cond.fieldLink RX1 21 "GemMemos$Market" "stones" "LGemMemos$Stones;", Cond.fieldLink RX1 28 "GemMemos$Market" "memos" "LGemMemos$Memos;", Cond.fieldLink RX1 32 "GemMemos$Market" "balances" "[I", Cond.methodLink RX1 62 arraycopyName, Cond.native arraycopyName, Cond.static arraycopyName, Cond.initialized "java/lang/System", Cond.fieldLink RX1 36 "GemMemos$Market" "dealers" "I", Cond.fieldLink RX1 40 "GemMemos$Market" "time" "I", Cond.fieldLink RX1 43 "GemMemos$Market" "grace" "I", Cond.fieldLink RX1 46 "GemMemos$Market" "extra" "I", Cond.fieldLink RX1 49 "GemMemos$Market" "keptLate" "I", Cond.methodLink RX1 52 yX3_copyFrom, Cond.instanceMethod yX3_copyFrom]
def wsX6_fault_r2 : List Cond := [Cond.selects RX3 yX3_copyFrom yX3_copyFrom, Cond.initialized RX3, Cond.code yX3_copyFrom cX3_copyFrom 2 none, Cond.fieldLink RX3 9 "GemMemos$Prices" "sieves" "[I", Cond.methodLink RX3 26 arraycopyName, Cond.fieldLink RX3 13 "GemMemos$Prices" "colours" "[I", Cond.fieldLink RX3 16 "GemMemos$Prices" "clarities" "[I", Cond.fieldLink RX3 19 "GemMemos$Prices" "coins" "[I", Cond.methodLink RX1 56 yX5_copyFrom, Cond.instanceMethod yX5_copyFrom, Cond.selects RX5 yX5_copyFrom yX5_copyFrom, Cond.initialized RX5, Cond.code yX5_copyFrom cX5_copyFrom 2 none, Cond.fieldLink RX5 9 "GemMemos$Stones" "count" "I", Cond.fieldLink RX5 15 "GemMemos$Stones" "weights" "[I", Cond.methodLink RX5 64 arraycopyName, Cond.fieldLink RX5 19 "GemMemos$Stones" "colours" "[I", Cond.fieldLink RX5 22 "GemMemos$Stones" "clarities" "[I", Cond.fieldLink RX5 25 "GemMemos$Stones" "owners" "[I", Cond.fieldLink RX5 28 "GemMemos$Stones" "holders" "[I", Cond.fieldLink RX5 31 "GemMemos$Stones" "memos" "[I", Cond.fieldLink RX5 34 "GemMemos$Stones" "asked" "[I", Cond.fieldLink RX5 37 "GemMemos$Stones" "soldFor" "[I", Cond.fieldLink RX5 40 "GemMemos$Stones" "timesKept" "[I"]
def wsX6_fault_r3 : List Cond := [Cond.methodLink RX1 59 yX2_copyFrom, Cond.instanceMethod yX2_copyFrom, Cond.selects RX2 yX2_copyFrom yX2_copyFrom, Cond.initialized RX2, Cond.code yX2_copyFrom cX2_copyFrom 2 none, Cond.fieldLink RX2 9 "GemMemos$Memos" "count" "I", Cond.fieldLink RX2 15 "GemMemos$Memos" "lenders" "[I", Cond.methodLink RX2 31 arraycopyName, Cond.fieldLink RX2 19 "GemMemos$Memos" "takers" "[I", Cond.fieldLink RX2 22 "GemMemos$Memos" "lastDays" "[I", Cond.fieldLink RX2 25 "GemMemos$Memos" "lent" "[I", Cond.fieldLink RX2 28 "GemMemos$Memos" "kept" "[I", Cond.methodLink RX6 169 yX4_runOn, Cond.instanceMethod yX4_runOn, Cond.selects RX4 yX4_runOn yX4_runOn, Cond.initialized RX4, Cond.code yX4_runOn cX4_runOn 5 (some .int), Cond.fieldLink RX4 29 "GemMemos$Script" "faultAt" "I", Cond.fieldLink RX4 15 "GemMemos$Script" "length" "I", Cond.constant RX4 39 (-10000004), Cond.fieldLink RX4 26 "GemMemos$Script" "next" "I", Cond.methodLink RX4 40 yX4_readCommand, Cond.instanceMethod yX4_readCommand, Cond.selects RX4 yX4_readCommand yX4_readCommand]
def wsX6_fault_r4 : List Cond := [Cond.code yX4_readCommand cX4_readCommand 4 (some .boolean), Cond.fieldLink RX4 19 "GemMemos$Script" "kind" "I", Cond.methodLink RX4 88 yX4_wordOf, Cond.static yX4_wordOf, Cond.code yX4_wordOf cX4_wordOf 1 (some (.object "java/lang/String")), Cond.methodLink RX4 92 yX4_isWordAt, Cond.instanceMethod yX4_isWordAt, Cond.selects RX4 yX4_isWordAt yX4_isWordAt, Cond.code yX4_isWordAt cX4_isWordAt 4 (some .boolean), Cond.methodLink RX4 96 yJ0_length_8abf5, Cond.instanceMethod yJ0_length_8abf5, Cond.selects RJ0 yJ0_length_8abf5 yJ0_length_8abf5, Cond.initialized RJ0, Cond.code yJ0_length_8abf5 cJ0_length_8abf5 1 (some .int), Cond.fieldLink RJ0 9 "java/lang/String" "value" "[B", Cond.methodLink RJ0 335 yJ0_coder_7d493, Cond.instanceMethod yJ0_coder_7d493, Cond.selects RJ0 yJ0_coder_7d493 yJ0_coder_7d493, Cond.code yJ0_coder_7d493 cJ0_coder_7d493 1 (some .byte), Cond.fieldLink RJ0 38 "java/lang/String" "COMPACT_STRINGS" "Z", Cond.fieldLink RJ0 15 "java/lang/String" "coder" "B", Cond.methodLink RX4 122 yX4_signAt, Cond.instanceMethod yX4_signAt, Cond.selects RX4 yX4_signAt yX4_signAt]
def wsX6_fault_r5 : List Cond := [Cond.code yX4_signAt cX4_signAt 2 (some .char), Cond.fieldLink RX4 11 "GemMemos$Script" "signs" "[C", Cond.methodLink RX4 126 yJ0_charAt_5068e, Cond.instanceMethod yJ0_charAt_5068e, Cond.selects RJ0 yJ0_charAt_5068e yJ0_charAt_5068e, Cond.code yJ0_charAt_5068e cJ0_charAt_5068e 2 (some .char), Cond.methodLink RJ0 492 yJ0_isLatin1_aae02, Cond.instanceMethod yJ0_isLatin1_aae02, Cond.selects RJ0 yJ0_isLatin1_aae02 yJ0_isLatin1_aae02, Cond.code yJ0_isLatin1_aae02 cJ0_isLatin1_aae02 1 (some .boolean), Cond.methodLink RJ0 495 yJ1_charAt_3b067, Cond.static yJ1_charAt_3b067, Cond.initialized RJ1, Cond.code yJ1_charAt_3b067 cJ1_charAt_3b067 2 (some .char), Cond.methodLink RJ1 9 yJ0_checkIndex_df160, Cond.static yJ0_checkIndex_df160, Cond.code yJ0_checkIndex_df160 cJ0_checkIndex_df160 2 none, Cond.fieldLink RJ0 1053 "jdk/internal/util/Preconditions" "SIOOBE_FORMATTER" "Ljava/util/function/BiFunction;", Cond.methodLink RJ0 1059 yJ3_checkIndex_8e157, Cond.static yJ3_checkIndex_8e157, Cond.initialized RJ3, Cond.code yJ3_checkIndex_8e157 cJ3_checkIndex_8e157 3 (some .int), Cond.methodLink RJ0 498 yJ2_charAt_3b067, Cond.static yJ2_charAt_3b067]
def wsX6_fault_r6 : List Cond := [Cond.initialized RJ2, Cond.code yJ2_charAt_3b067 cJ2_charAt_3b067 2 (some .char), Cond.methodLink RJ2 67 yJ2_checkIndex_2214a, Cond.static yJ2_checkIndex_2214a, Cond.code yJ2_checkIndex_2214a cJ2_checkIndex_2214a 2 none, Cond.methodLink RJ2 48 yJ2_length_9d52b, Cond.static yJ2_length_9d52b, Cond.code yJ2_length_9d52b cJ2_length_9d52b 1 (some .int), Cond.methodLink RJ2 414 yJ0_checkIndex_df160, Cond.methodLink RJ2 71 yJ2_getChar_3b067, Cond.static yJ2_getChar_3b067, Cond.code yJ2_getChar_3b067 cJ2_getChar_3b067 2 (some .char), Cond.fieldLink RJ2 44 "java/lang/StringUTF16" "$assertionsDisabled" "Z", Cond.fieldLink RJ2 59 "java/lang/StringUTF16" "HI_BYTE_SHIFT" "I", Cond.fieldLink RJ2 63 "java/lang/StringUTF16" "LO_BYTE_SHIFT" "I", Cond.methodLink RX4 101 yX4_howManyNumbers, Cond.static yX4_howManyNumbers, Cond.code yX4_howManyNumbers cX4_howManyNumbers 1 (some .int), Cond.methodLink RX4 104 yX4_readNumbers, Cond.instanceMethod yX4_readNumbers, Cond.selects RX4 yX4_readNumbers yX4_readNumbers, Cond.code yX4_readNumbers cX4_readNumbers 6 (some .boolean), Cond.fieldLink RX4 22 "GemMemos$Script" "numbers" "[I", Cond.methodLink RX4 129 yX4_digitsAt]
def wsX6_fault_r7 : List Cond := [Cond.instanceMethod yX4_digitsAt, Cond.selects RX4 yX4_digitsAt yX4_digitsAt, Cond.code yX4_digitsAt cX4_digitsAt 3 (some .int), Cond.methodLink RX4 135 yX4_isDigit, Cond.static yX4_isDigit, Cond.code yX4_isDigit cX4_isDigit 1 (some .boolean), Cond.methodLink RX4 132 yX4_valueAt, Cond.instanceMethod yX4_valueAt, Cond.selects RX4 yX4_valueAt yX4_valueAt, Cond.code yX4_valueAt cX4_valueAt 5 (some .int), Cond.methodLink RX4 44 yX4_putFault, Cond.instanceMethod yX4_putFault, Cond.selects RX4 yX4_putFault yX4_putFault, Cond.code yX4_putFault cX4_putFault 4 none, Cond.fieldLink RX4 32 "GemMemos$Script" "reason" "I", Cond.fieldLink RX4 35 "GemMemos$Script" "cause" "I", Cond.methodLink RX4 48 yX4_perform, Cond.instanceMethod yX4_perform, Cond.selects RX4 yX4_perform yX4_perform, Cond.code yX4_perform cX4_perform 7 (some .int), Cond.methodLink RX4 58 yX5_has, Cond.instanceMethod yX5_has, Cond.selects RX5 yX5_has yX5_has, Cond.code yX5_has cX5_has 2 (some .boolean)]
def wsX6_fault_r8 : List Cond := [Cond.methodLink RX4 63 yX1_lendStones, Cond.instanceMethod yX1_lendStones, Cond.selects RX1 yX1_lendStones yX1_lendStones, Cond.code yX1_lendStones cX1_lendStones 7 (some .int), Cond.constant RX1 77 (-10000001), Cond.constant RX1 97 (-10000002), Cond.constant RX1 68 (-10000003), Cond.methodLink RX1 69 yX1_hasDealer, Cond.instanceMethod yX1_hasDealer, Cond.selects RX1 yX1_hasDealer yX1_hasDealer, Cond.code yX1_hasDealer cX1_hasDealer 2 (some .boolean), Cond.methodLink RX1 101 yX1_canLend, Cond.instanceMethod yX1_canLend, Cond.selects RX1 yX1_canLend yX1_canLend, Cond.code yX1_canLend cX1_canLend 4 (some .boolean), Cond.methodLink RX1 113 yX1_priceOf, Cond.instanceMethod yX1_priceOf, Cond.selects RX1 yX1_priceOf yX1_priceOf, Cond.code yX1_priceOf cX1_priceOf 3 (some .int), Cond.methodLink RX1 159 yX5_sieveOf, Cond.instanceMethod yX5_sieveOf, Cond.selects RX5 yX5_sieveOf yX5_sieveOf, Cond.code yX5_sieveOf cX5_sieveOf 3 (some .int), Cond.methodLink RX1 215 yX3_rateFor]
def wsX6_fault_r9 : List Cond := [Cond.instanceMethod yX3_rateFor, Cond.selects RX3 yX3_rateFor yX3_rateFor, Cond.code yX3_rateFor cX3_rateFor 6 (some .int), Cond.methodLink RX1 104 yX2_add, Cond.instanceMethod yX2_add, Cond.selects RX2 yX2_add yX2_add, Cond.code yX2_add cX2_add 6 (some .int), Cond.methodLink RX4 67 yX1_giveBack, Cond.instanceMethod yX1_giveBack, Cond.selects RX1 yX1_giveBack yX1_giveBack, Cond.code yX1_giveBack cX1_giveBack 3 (some .int), Cond.methodLink RX1 117 yX5_has, Cond.methodLink RX1 120 yX5_isOut, Cond.instanceMethod yX5_isOut, Cond.selects RX5 yX5_isOut yX5_isOut, Cond.code yX5_isOut cX5_isOut 2 (some .boolean), Cond.methodLink RX1 126 yX5_setWhere, Cond.instanceMethod yX5_setWhere, Cond.selects RX5 yX5_setWhere yX5_setWhere, Cond.code yX5_setWhere cX5_setWhere 5 (some .int), Cond.methodLink RX1 130 yJ6_bitCount_0f7a4, Cond.static yJ6_bitCount_0f7a4, Cond.initialized RJ6, Cond.code yJ6_bitCount_0f7a4 cJ6_bitCount_0f7a4 1 (some .int)]
def wsX6_fault_r10 : List Cond := [Cond.constant RJ6 265 (1431655765), Cond.constant RJ6 266 (858993459), Cond.constant RJ6 267 (252645135), Cond.methodLink RX4 71 yX1_keepStone, Cond.instanceMethod yX1_keepStone, Cond.selects RX1 yX1_keepStone yX1_keepStone, Cond.code yX1_keepStone cX1_keepStone 3 (some .int), Cond.methodLink RX1 135 yX1_keepFor, Cond.instanceMethod yX1_keepFor, Cond.selects RX1 yX1_keepFor yX1_keepFor, Cond.code yX1_keepFor cX1_keepFor 6 none, Cond.methodLink RX1 218 yX2_has, Cond.instanceMethod yX2_has, Cond.selects RX2 yX2_has yX2_has, Cond.code yX2_has cX2_has 2 (some .boolean), Cond.methodLink RX4 74 yX1_sellStone, Cond.instanceMethod yX1_sellStone, Cond.selects RX1 yX1_sellStone yX1_sellStone, Cond.code yX1_sellStone cX1_sellStone 4 (some .int), Cond.constant RX1 145 (100000000), Cond.methodLink RX1 139 yX5_isSold, Cond.instanceMethod yX5_isSold, Cond.selects RX5 yX5_isSold yX5_isSold, Cond.code yX5_isSold cX5_isSold 2 (some .boolean)]
def wsX6_fault_r11 : List Cond := [Cond.methodLink RX4 78 yX1_regrade, Cond.instanceMethod yX1_regrade, Cond.selects RX1 yX1_regrade yX1_regrade, Cond.code yX1_regrade cX1_regrade 6 (some .int), Cond.static yX6_isLook, Cond.initialized RX6, Cond.code yX6_isLook cX6_isLook 2 (some .boolean), Cond.methodLink RX4 82 yX1_putRate, Cond.instanceMethod yX1_putRate, Cond.selects RX1 yX1_putRate yX1_putRate, Cond.code yX1_putRate cX1_putRate 6 (some .int), Cond.static yX6_isGrade, Cond.code yX6_isGrade cX6_isGrade 3 (some .boolean), Cond.methodLink RX6 180 yX6_isLook, Cond.methodLink RX1 86 yX3_ownRate, Cond.instanceMethod yX3_ownRate, Cond.selects RX3 yX3_ownRate yX3_ownRate, Cond.code yX3_ownRate cX3_ownRate 5 (some .int), Cond.methodLink RX3 22 yX3_isEntryOf, Cond.instanceMethod yX3_isEntryOf, Cond.selects RX3 yX3_isEntryOf yX3_isEntryOf, Cond.code yX3_isEntryOf cX3_isEntryOf 5 (some .boolean), Cond.methodLink RX1 90 yX3_change, Cond.instanceMethod yX3_change]
def wsX6_fault_r12 : List Cond := [Cond.selects RX3 yX3_change yX3_change, Cond.code yX3_change cX3_change 6 none, Cond.methodLink RX1 94 yX3_add, Cond.instanceMethod yX3_add, Cond.selects RX3 yX3_add yX3_add, Cond.code yX3_add cX3_add 6 (some .boolean), Cond.methodLink RX4 85 yX1_passDays, Cond.instanceMethod yX1_passDays, Cond.selects RX1 yX1_passDays yX1_passDays, Cond.code yX1_passDays cX1_passDays 4 (some .int), Cond.methodLink RX1 152 yX1_keepLateOnes, Cond.instanceMethod yX1_keepLateOnes, Cond.selects RX1 yX1_keepLateOnes yX1_keepLateOnes, Cond.code yX1_keepLateOnes cX1_keepLateOnes 4 (some .int), Cond.methodLink RX6 173 yX4_tellFault, Cond.instanceMethod yX4_tellFault, Cond.selects RX4 yX4_tellFault yX4_tellFault, Cond.code yX4_tellFault cX4_tellFault 2 (some .int)]
def wsX6_fault : List Cond := .code yX6_fault cX6_fault 2 (some .int) :: ((wsX6_fault_r1 ++ (wsX6_fault_r2 ++ (wsX6_fault_r3 ++ (wsX6_fault_r4 ++ (wsX6_fault_r5 ++ (wsX6_fault_r6 ++ (wsX6_fault_r7 ++ (wsX6_fault_r8 ++ (wsX6_fault_r9 ++ (wsX6_fault_r10 ++ (wsX6_fault_r11 ++ wsX6_fault_r12))))))))))) ++ wsX60 ++ wsX10 ++ wsX30 ++ wsX50 ++ wsX20 ++ wsX40)
def wsX6_play_r1 : List Cond := [Cond.fieldLink RX6 19 "GemMemos" "trial" "LGemMemos$Market;", Cond.fieldLink RX6 10 "GemMemos" "now" "LGemMemos$Market;", Cond.fieldLink RX6 35 "GemMemos" "script" "LGemMemos$Script;", Cond.constant RX6 158 (-10000002), Cond.fieldLink RX6 28 "GemMemos" "history" "LGemMemos$History;", Cond.methodLink RX6 43 yX1_copyFrom, Cond.instanceMethod yX1_copyFrom, Cond.selects RX1 yX1_copyFrom yX1_copyFrom, Cond.initialized RX1, Cond.code yX1_copyFrom cX1_copyFrom 2 none, Cond.fieldLink RX1 12 "GemMemos$Market" "prices" "LGemMemos$Prices;", Cond.fieldLink RX1 21 "GemMemos$Market" "stones" "LGemMemos$Stones;", Cond.fieldLink RX1 28 "GemMemos$Market" "memos" "LGemMemos$Memos;", Cond.fieldLink RX1 32 "GemMemos$Market" "balances" "[I", Cond.methodLink RX1 62 arraycopyName, Cond.native arraycopyName, Cond.static arraycopyName, Cond.initialized "java/lang/System", Cond.fieldLink RX1 36 "GemMemos$Market" "dealers" "I", Cond.fieldLink RX1 40 "GemMemos$Market" "time" "I", Cond.fieldLink RX1 43 "GemMemos$Market" "grace" "I", Cond.fieldLink RX1 46 "GemMemos$Market" "extra" "I", Cond.fieldLink RX1 49 "GemMemos$Market" "keptLate" "I", Cond.methodLink RX1 52 yX3_copyFrom]
def wsX6_play_r2 : List Cond := [Cond.instanceMethod yX3_copyFrom, Cond.selects RX3 yX3_copyFrom yX3_copyFrom, Cond.initialized RX3, Cond.code yX3_copyFrom cX3_copyFrom 2 none, Cond.fieldLink RX3 9 "GemMemos$Prices" "sieves" "[I", Cond.methodLink RX3 26 arraycopyName, Cond.fieldLink RX3 13 "GemMemos$Prices" "colours" "[I", Cond.fieldLink RX3 16 "GemMemos$Prices" "clarities" "[I", Cond.fieldLink RX3 19 "GemMemos$Prices" "coins" "[I", Cond.methodLink RX1 56 yX5_copyFrom, Cond.instanceMethod yX5_copyFrom, Cond.selects RX5 yX5_copyFrom yX5_copyFrom, Cond.initialized RX5, Cond.code yX5_copyFrom cX5_copyFrom 2 none, Cond.fieldLink RX5 9 "GemMemos$Stones" "count" "I", Cond.fieldLink RX5 15 "GemMemos$Stones" "weights" "[I", Cond.methodLink RX5 64 arraycopyName, Cond.fieldLink RX5 19 "GemMemos$Stones" "colours" "[I", Cond.fieldLink RX5 22 "GemMemos$Stones" "clarities" "[I", Cond.fieldLink RX5 25 "GemMemos$Stones" "owners" "[I", Cond.fieldLink RX5 28 "GemMemos$Stones" "holders" "[I", Cond.fieldLink RX5 31 "GemMemos$Stones" "memos" "[I", Cond.fieldLink RX5 34 "GemMemos$Stones" "asked" "[I", Cond.fieldLink RX5 37 "GemMemos$Stones" "soldFor" "[I"]
def wsX6_play_r3 : List Cond := [Cond.fieldLink RX5 40 "GemMemos$Stones" "timesKept" "[I", Cond.methodLink RX1 59 yX2_copyFrom, Cond.instanceMethod yX2_copyFrom, Cond.selects RX2 yX2_copyFrom yX2_copyFrom, Cond.initialized RX2, Cond.code yX2_copyFrom cX2_copyFrom 2 none, Cond.fieldLink RX2 9 "GemMemos$Memos" "count" "I", Cond.fieldLink RX2 15 "GemMemos$Memos" "lenders" "[I", Cond.methodLink RX2 31 arraycopyName, Cond.fieldLink RX2 19 "GemMemos$Memos" "takers" "[I", Cond.fieldLink RX2 22 "GemMemos$Memos" "lastDays" "[I", Cond.fieldLink RX2 25 "GemMemos$Memos" "lent" "[I", Cond.fieldLink RX2 28 "GemMemos$Memos" "kept" "[I", Cond.methodLink RX6 169 yX4_runOn, Cond.instanceMethod yX4_runOn, Cond.selects RX4 yX4_runOn yX4_runOn, Cond.initialized RX4, Cond.code yX4_runOn cX4_runOn 5 (some .int), Cond.fieldLink RX4 29 "GemMemos$Script" "faultAt" "I", Cond.fieldLink RX4 15 "GemMemos$Script" "length" "I", Cond.constant RX4 39 (-10000004), Cond.fieldLink RX4 26 "GemMemos$Script" "next" "I", Cond.methodLink RX4 40 yX4_readCommand, Cond.instanceMethod yX4_readCommand]
def wsX6_play_r4 : List Cond := [Cond.selects RX4 yX4_readCommand yX4_readCommand, Cond.code yX4_readCommand cX4_readCommand 4 (some .boolean), Cond.fieldLink RX4 19 "GemMemos$Script" "kind" "I", Cond.methodLink RX4 88 yX4_wordOf, Cond.static yX4_wordOf, Cond.code yX4_wordOf cX4_wordOf 1 (some (.object "java/lang/String")), Cond.methodLink RX4 92 yX4_isWordAt, Cond.instanceMethod yX4_isWordAt, Cond.selects RX4 yX4_isWordAt yX4_isWordAt, Cond.code yX4_isWordAt cX4_isWordAt 4 (some .boolean), Cond.methodLink RX4 96 yJ0_length_8abf5, Cond.instanceMethod yJ0_length_8abf5, Cond.selects RJ0 yJ0_length_8abf5 yJ0_length_8abf5, Cond.initialized RJ0, Cond.code yJ0_length_8abf5 cJ0_length_8abf5 1 (some .int), Cond.fieldLink RJ0 9 "java/lang/String" "value" "[B", Cond.methodLink RJ0 335 yJ0_coder_7d493, Cond.instanceMethod yJ0_coder_7d493, Cond.selects RJ0 yJ0_coder_7d493 yJ0_coder_7d493, Cond.code yJ0_coder_7d493 cJ0_coder_7d493 1 (some .byte), Cond.fieldLink RJ0 38 "java/lang/String" "COMPACT_STRINGS" "Z", Cond.fieldLink RJ0 15 "java/lang/String" "coder" "B", Cond.methodLink RX4 122 yX4_signAt, Cond.instanceMethod yX4_signAt]
def wsX6_play_r5 : List Cond := [Cond.selects RX4 yX4_signAt yX4_signAt, Cond.code yX4_signAt cX4_signAt 2 (some .char), Cond.fieldLink RX4 11 "GemMemos$Script" "signs" "[C", Cond.methodLink RX4 126 yJ0_charAt_5068e, Cond.instanceMethod yJ0_charAt_5068e, Cond.selects RJ0 yJ0_charAt_5068e yJ0_charAt_5068e, Cond.code yJ0_charAt_5068e cJ0_charAt_5068e 2 (some .char), Cond.methodLink RJ0 492 yJ0_isLatin1_aae02, Cond.instanceMethod yJ0_isLatin1_aae02, Cond.selects RJ0 yJ0_isLatin1_aae02 yJ0_isLatin1_aae02, Cond.code yJ0_isLatin1_aae02 cJ0_isLatin1_aae02 1 (some .boolean), Cond.methodLink RJ0 495 yJ1_charAt_3b067, Cond.static yJ1_charAt_3b067, Cond.initialized RJ1, Cond.code yJ1_charAt_3b067 cJ1_charAt_3b067 2 (some .char), Cond.methodLink RJ1 9 yJ0_checkIndex_df160, Cond.static yJ0_checkIndex_df160, Cond.code yJ0_checkIndex_df160 cJ0_checkIndex_df160 2 none, Cond.fieldLink RJ0 1053 "jdk/internal/util/Preconditions" "SIOOBE_FORMATTER" "Ljava/util/function/BiFunction;", Cond.methodLink RJ0 1059 yJ3_checkIndex_8e157, Cond.static yJ3_checkIndex_8e157, Cond.initialized RJ3, Cond.code yJ3_checkIndex_8e157 cJ3_checkIndex_8e157 3 (some .int), Cond.methodLink RJ0 498 yJ2_charAt_3b067]
def wsX6_play_r6 : List Cond := [Cond.static yJ2_charAt_3b067, Cond.initialized RJ2, Cond.code yJ2_charAt_3b067 cJ2_charAt_3b067 2 (some .char), Cond.methodLink RJ2 67 yJ2_checkIndex_2214a, Cond.static yJ2_checkIndex_2214a, Cond.code yJ2_checkIndex_2214a cJ2_checkIndex_2214a 2 none, Cond.methodLink RJ2 48 yJ2_length_9d52b, Cond.static yJ2_length_9d52b, Cond.code yJ2_length_9d52b cJ2_length_9d52b 1 (some .int), Cond.methodLink RJ2 414 yJ0_checkIndex_df160, Cond.methodLink RJ2 71 yJ2_getChar_3b067, Cond.static yJ2_getChar_3b067, Cond.code yJ2_getChar_3b067 cJ2_getChar_3b067 2 (some .char), Cond.fieldLink RJ2 44 "java/lang/StringUTF16" "$assertionsDisabled" "Z", Cond.fieldLink RJ2 59 "java/lang/StringUTF16" "HI_BYTE_SHIFT" "I", Cond.fieldLink RJ2 63 "java/lang/StringUTF16" "LO_BYTE_SHIFT" "I", Cond.methodLink RX4 101 yX4_howManyNumbers, Cond.static yX4_howManyNumbers, Cond.code yX4_howManyNumbers cX4_howManyNumbers 1 (some .int), Cond.methodLink RX4 104 yX4_readNumbers, Cond.instanceMethod yX4_readNumbers, Cond.selects RX4 yX4_readNumbers yX4_readNumbers, Cond.code yX4_readNumbers cX4_readNumbers 6 (some .boolean), Cond.fieldLink RX4 22 "GemMemos$Script" "numbers" "[I"]
def wsX6_play_r7 : List Cond := [Cond.methodLink RX4 129 yX4_digitsAt, Cond.instanceMethod yX4_digitsAt, Cond.selects RX4 yX4_digitsAt yX4_digitsAt, Cond.code yX4_digitsAt cX4_digitsAt 3 (some .int), Cond.methodLink RX4 135 yX4_isDigit, Cond.static yX4_isDigit, Cond.code yX4_isDigit cX4_isDigit 1 (some .boolean), Cond.methodLink RX4 132 yX4_valueAt, Cond.instanceMethod yX4_valueAt, Cond.selects RX4 yX4_valueAt yX4_valueAt, Cond.code yX4_valueAt cX4_valueAt 5 (some .int), Cond.methodLink RX4 44 yX4_putFault, Cond.instanceMethod yX4_putFault, Cond.selects RX4 yX4_putFault yX4_putFault, Cond.code yX4_putFault cX4_putFault 4 none, Cond.fieldLink RX4 32 "GemMemos$Script" "reason" "I", Cond.fieldLink RX4 35 "GemMemos$Script" "cause" "I", Cond.methodLink RX4 48 yX4_perform, Cond.instanceMethod yX4_perform, Cond.selects RX4 yX4_perform yX4_perform, Cond.code yX4_perform cX4_perform 7 (some .int), Cond.methodLink RX4 58 yX5_has, Cond.instanceMethod yX5_has, Cond.selects RX5 yX5_has yX5_has]
def wsX6_play_r8 : List Cond := [Cond.code yX5_has cX5_has 2 (some .boolean), Cond.methodLink RX4 63 yX1_lendStones, Cond.instanceMethod yX1_lendStones, Cond.selects RX1 yX1_lendStones yX1_lendStones, Cond.code yX1_lendStones cX1_lendStones 7 (some .int), Cond.constant RX1 77 (-10000001), Cond.constant RX1 97 (-10000002), Cond.constant RX1 68 (-10000003), Cond.methodLink RX1 69 yX1_hasDealer, Cond.instanceMethod yX1_hasDealer, Cond.selects RX1 yX1_hasDealer yX1_hasDealer, Cond.code yX1_hasDealer cX1_hasDealer 2 (some .boolean), Cond.methodLink RX1 101 yX1_canLend, Cond.instanceMethod yX1_canLend, Cond.selects RX1 yX1_canLend yX1_canLend, Cond.code yX1_canLend cX1_canLend 4 (some .boolean), Cond.methodLink RX1 113 yX1_priceOf, Cond.instanceMethod yX1_priceOf, Cond.selects RX1 yX1_priceOf yX1_priceOf, Cond.code yX1_priceOf cX1_priceOf 3 (some .int), Cond.methodLink RX1 159 yX5_sieveOf, Cond.instanceMethod yX5_sieveOf, Cond.selects RX5 yX5_sieveOf yX5_sieveOf, Cond.code yX5_sieveOf cX5_sieveOf 3 (some .int)]
def wsX6_play_r9 : List Cond := [Cond.methodLink RX1 215 yX3_rateFor, Cond.instanceMethod yX3_rateFor, Cond.selects RX3 yX3_rateFor yX3_rateFor, Cond.code yX3_rateFor cX3_rateFor 6 (some .int), Cond.methodLink RX1 104 yX2_add, Cond.instanceMethod yX2_add, Cond.selects RX2 yX2_add yX2_add, Cond.code yX2_add cX2_add 6 (some .int), Cond.methodLink RX4 67 yX1_giveBack, Cond.instanceMethod yX1_giveBack, Cond.selects RX1 yX1_giveBack yX1_giveBack, Cond.code yX1_giveBack cX1_giveBack 3 (some .int), Cond.methodLink RX1 117 yX5_has, Cond.methodLink RX1 120 yX5_isOut, Cond.instanceMethod yX5_isOut, Cond.selects RX5 yX5_isOut yX5_isOut, Cond.code yX5_isOut cX5_isOut 2 (some .boolean), Cond.methodLink RX1 126 yX5_setWhere, Cond.instanceMethod yX5_setWhere, Cond.selects RX5 yX5_setWhere yX5_setWhere, Cond.code yX5_setWhere cX5_setWhere 5 (some .int), Cond.methodLink RX1 130 yJ6_bitCount_0f7a4, Cond.static yJ6_bitCount_0f7a4, Cond.initialized RJ6]
def wsX6_play_r10 : List Cond := [Cond.code yJ6_bitCount_0f7a4 cJ6_bitCount_0f7a4 1 (some .int), Cond.constant RJ6 265 (1431655765), Cond.constant RJ6 266 (858993459), Cond.constant RJ6 267 (252645135), Cond.methodLink RX4 71 yX1_keepStone, Cond.instanceMethod yX1_keepStone, Cond.selects RX1 yX1_keepStone yX1_keepStone, Cond.code yX1_keepStone cX1_keepStone 3 (some .int), Cond.methodLink RX1 135 yX1_keepFor, Cond.instanceMethod yX1_keepFor, Cond.selects RX1 yX1_keepFor yX1_keepFor, Cond.code yX1_keepFor cX1_keepFor 6 none, Cond.methodLink RX1 218 yX2_has, Cond.instanceMethod yX2_has, Cond.selects RX2 yX2_has yX2_has, Cond.code yX2_has cX2_has 2 (some .boolean), Cond.methodLink RX4 74 yX1_sellStone, Cond.instanceMethod yX1_sellStone, Cond.selects RX1 yX1_sellStone yX1_sellStone, Cond.code yX1_sellStone cX1_sellStone 4 (some .int), Cond.constant RX1 145 (100000000), Cond.methodLink RX1 139 yX5_isSold, Cond.instanceMethod yX5_isSold, Cond.selects RX5 yX5_isSold yX5_isSold]
def wsX6_play_r11 : List Cond := [Cond.code yX5_isSold cX5_isSold 2 (some .boolean), Cond.methodLink RX4 78 yX1_regrade, Cond.instanceMethod yX1_regrade, Cond.selects RX1 yX1_regrade yX1_regrade, Cond.code yX1_regrade cX1_regrade 6 (some .int), Cond.static yX6_isLook, Cond.initialized RX6, Cond.code yX6_isLook cX6_isLook 2 (some .boolean), Cond.methodLink RX4 82 yX1_putRate, Cond.instanceMethod yX1_putRate, Cond.selects RX1 yX1_putRate yX1_putRate, Cond.code yX1_putRate cX1_putRate 6 (some .int), Cond.static yX6_isGrade, Cond.code yX6_isGrade cX6_isGrade 3 (some .boolean), Cond.methodLink RX6 180 yX6_isLook, Cond.methodLink RX1 86 yX3_ownRate, Cond.instanceMethod yX3_ownRate, Cond.selects RX3 yX3_ownRate yX3_ownRate, Cond.code yX3_ownRate cX3_ownRate 5 (some .int), Cond.methodLink RX3 22 yX3_isEntryOf, Cond.instanceMethod yX3_isEntryOf, Cond.selects RX3 yX3_isEntryOf yX3_isEntryOf, Cond.code yX3_isEntryOf cX3_isEntryOf 5 (some .boolean), Cond.methodLink RX1 90 yX3_change]
def wsX6_play_r12 : List Cond := [Cond.instanceMethod yX3_change, Cond.selects RX3 yX3_change yX3_change, Cond.code yX3_change cX3_change 6 none, Cond.methodLink RX1 94 yX3_add, Cond.instanceMethod yX3_add, Cond.selects RX3 yX3_add yX3_add, Cond.code yX3_add cX3_add 6 (some .boolean), Cond.methodLink RX4 85 yX1_passDays, Cond.instanceMethod yX1_passDays, Cond.selects RX1 yX1_passDays yX1_passDays, Cond.code yX1_passDays cX1_passDays 4 (some .int), Cond.methodLink RX1 152 yX1_keepLateOnes, Cond.instanceMethod yX1_keepLateOnes, Cond.selects RX1 yX1_keepLateOnes yX1_keepLateOnes, Cond.code yX1_keepLateOnes cX1_keepLateOnes 4 (some .int), Cond.methodLink RX6 176 yX4_hasFault, Cond.instanceMethod yX4_hasFault, Cond.selects RX4 yX4_hasFault yX4_hasFault, Cond.code yX4_hasFault cX4_hasFault 1 (some .boolean), Cond.methodLink RX6 159 yX0_push, Cond.instanceMethod yX0_push, Cond.selects RX0 yX0_push yX0_push, Cond.initialized RX0, Cond.code yX0_push cX0_push 3 none]
def wsX6_play_r13 : List Cond := [Cond.fieldLink RX0 19 "GemMemos$History" "size" "I", Cond.fieldLink RX0 15 "GemMemos$History" "oldest" "I", Cond.fieldLink RX0 11 "GemMemos$History" "states" "[LGemMemos$Market;", Cond.methodLink RX0 23 yJ9_floorMod_7cf53, Cond.static yJ9_floorMod_7cf53, Cond.initialized RJ9, Cond.code yJ9_floorMod_7cf53 cJ9_floorMod_7cf53 3 (some .int), Cond.methodLink RX0 29 yX1_copyFrom]
def wsX6_play : List Cond := .code yX6_play cX6_play 2 (some .int) :: ((wsX6_play_r1 ++ (wsX6_play_r2 ++ (wsX6_play_r3 ++ (wsX6_play_r4 ++ (wsX6_play_r5 ++ (wsX6_play_r6 ++ (wsX6_play_r7 ++ (wsX6_play_r8 ++ (wsX6_play_r9 ++ (wsX6_play_r10 ++ (wsX6_play_r11 ++ (wsX6_play_r12 ++ wsX6_play_r13)))))))))))) ++ wsX60 ++ wsX10 ++ wsX30 ++ wsX50 ++ wsX20 ++ wsX40 ++ wsX00)
def wsJ9_max_7cf53 : List Cond := .code yJ9_max_7cf53 cJ9_max_7cf53 2 (some .int) :: ([])
def wsL_lot : List Cond := .code yL_lot cL_lot 2 (some .int) :: ([.constant RL 7 (-573577877)])
def wsL_low : List Cond := .code yL_low cL_low 2 (some .int) :: ([.constant RL 8 (2147483647)])
def wsL_digest_r1 : List Cond := [Cond.constantLong RL 9 (71), Cond.constantLong RL 11 (31), Cond.methodLink RL 13 yX6_count, Cond.instanceMethod yX6_count, Cond.selects RX6 yX6_count yX6_count, Cond.initialized RX6, Cond.code yX6_count cX6_count 2 (some .int), Cond.fieldLink RX6 28 "GemMemos" "history" "LGemMemos$History;", Cond.fieldLink RX6 35 "GemMemos" "script" "LGemMemos$Script;", Cond.fieldLink RX6 39 "GemMemos" "hasSnapshot" "Z", Cond.fieldLink RX6 10 "GemMemos" "now" "LGemMemos$Market;", Cond.methodLink RX6 142 yX1_tellNumber, Cond.instanceMethod yX1_tellNumber, Cond.selects RX1 yX1_tellNumber yX1_tellNumber, Cond.initialized RX1, Cond.code yX1_tellNumber cX1_tellNumber 2 (some .int), Cond.fieldLink RX1 36 "GemMemos$Market" "dealers" "I", Cond.fieldLink RX1 21 "GemMemos$Market" "stones" "LGemMemos$Stones;", Cond.fieldLink RX1 28 "GemMemos$Market" "memos" "LGemMemos$Memos;", Cond.fieldLink RX1 12 "GemMemos$Market" "prices" "LGemMemos$Prices;", Cond.fieldLink RX1 40 "GemMemos$Market" "time" "I", Cond.constant RX1 145 (100000000), Cond.fieldLink RX1 49 "GemMemos$Market" "keptLate" "I", Cond.fieldLink RX1 43 "GemMemos$Market" "grace" "I"]
def wsL_digest_r2 : List Cond := [Cond.fieldLink RX1 46 "GemMemos$Market" "extra" "I", Cond.constant RX1 77 (-10000001), Cond.methodLink RX1 196 yX5_countSold, Cond.instanceMethod yX5_countSold, Cond.selects RX5 yX5_countSold yX5_countSold, Cond.initialized RX5, Cond.code yX5_countSold cX5_countSold 3 (some .int), Cond.fieldLink RX5 9 "GemMemos$Stones" "count" "I", Cond.methodLink RX5 43 yX5_isSold, Cond.instanceMethod yX5_isSold, Cond.selects RX5 yX5_isSold yX5_isSold, Cond.code yX5_isSold cX5_isSold 2 (some .boolean), Cond.fieldLink RX5 37 "GemMemos$Stones" "soldFor" "[I", Cond.methodLink RX1 199 yX5_countOut, Cond.instanceMethod yX5_countOut, Cond.selects RX5 yX5_countOut yX5_countOut, Cond.code yX5_countOut cX5_countOut 3 (some .int), Cond.methodLink RX5 47 yX5_isOut, Cond.instanceMethod yX5_isOut, Cond.selects RX5 yX5_isOut yX5_isOut, Cond.code yX5_isOut cX5_isOut 2 (some .boolean), Cond.fieldLink RX5 31 "GemMemos$Stones" "memos" "[I", Cond.methodLink RX1 203 yX1_countOpen, Cond.instanceMethod yX1_countOpen]
def wsL_digest_r3 : List Cond := [Cond.selects RX1 yX1_countOpen yX1_countOpen, Cond.code yX1_countOpen cX1_countOpen 3 (some .int), Cond.methodLink RX1 187 yX1_isOpen, Cond.instanceMethod yX1_isOpen, Cond.selects RX1 yX1_isOpen yX1_isOpen, Cond.code yX1_isOpen cX1_isOpen 2 (some .boolean), Cond.methodLink RX1 126 yX5_setWhere, Cond.instanceMethod yX5_setWhere, Cond.selects RX5 yX5_setWhere yX5_setWhere, Cond.code yX5_setWhere cX5_setWhere 5 (some .int), Cond.methodLink RX1 206 yX3_entries, Cond.instanceMethod yX3_entries, Cond.selects RX3 yX3_entries yX3_entries, Cond.initialized RX3, Cond.code yX3_entries cX3_entries 3 (some .int), Cond.fieldLink RX3 19 "GemMemos$Prices" "coins" "[I", Cond.methodLink RX1 209 yX1_sumOfBalances, Cond.instanceMethod yX1_sumOfBalances, Cond.selects RX1 yX1_sumOfBalances yX1_sumOfBalances, Cond.code yX1_sumOfBalances cX1_sumOfBalances 3 (some .int), Cond.fieldLink RX1 32 "GemMemos$Market" "balances" "[I", Cond.methodLink RX1 212 yX5_sumSold, Cond.instanceMethod yX5_sumSold, Cond.selects RX5 yX5_sumSold yX5_sumSold]
def wsL_digest_r4 : List Cond := [Cond.code yX5_sumSold cX5_sumSold 3 (some .int), Cond.methodLink RL 19 yX6_stoneOf, Cond.instanceMethod yX6_stoneOf, Cond.selects RX6 yX6_stoneOf yX6_stoneOf, Cond.code yX6_stoneOf cX6_stoneOf 3 (some .int), Cond.constant RX6 98 (-10000001), Cond.methodLink RX6 92 yX5_has, Cond.instanceMethod yX5_has, Cond.selects RX5 yX5_has yX5_has, Cond.code yX5_has cX5_has 2 (some .boolean), Cond.methodLink RX6 99 yX1_tellStone, Cond.instanceMethod yX1_tellStone, Cond.selects RX1 yX1_tellStone yX1_tellStone, Cond.code yX1_tellStone cX1_tellStone 4 (some .int), Cond.constant RX1 162 (-10000004), Cond.methodLink RX1 159 yX5_sieveOf, Cond.instanceMethod yX5_sieveOf, Cond.selects RX5 yX5_sieveOf yX5_sieveOf, Cond.code yX5_sieveOf cX5_sieveOf 3 (some .int), Cond.fieldLink RX5 15 "GemMemos$Stones" "weights" "[I", Cond.methodLink RX1 139 yX5_isSold, Cond.methodLink RX1 113 yX1_priceOf, Cond.instanceMethod yX1_priceOf, Cond.selects RX1 yX1_priceOf yX1_priceOf]
def wsL_digest_r5 : List Cond := [Cond.code yX1_priceOf cX1_priceOf 3 (some .int), Cond.methodLink RX1 215 yX3_rateFor, Cond.instanceMethod yX3_rateFor, Cond.selects RX3 yX3_rateFor yX3_rateFor, Cond.code yX3_rateFor cX3_rateFor 6 (some .int), Cond.fieldLink RX3 9 "GemMemos$Prices" "sieves" "[I", Cond.fieldLink RX3 13 "GemMemos$Prices" "colours" "[I", Cond.fieldLink RX3 16 "GemMemos$Prices" "clarities" "[I", Cond.methodLink RX1 120 yX5_isOut, Cond.methodLink RL 23 yX6_dealerOf, Cond.instanceMethod yX6_dealerOf, Cond.selects RX6 yX6_dealerOf yX6_dealerOf, Cond.code yX6_dealerOf cX6_dealerOf 3 (some .int), Cond.methodLink RX6 102 yX1_hasDealer, Cond.instanceMethod yX1_hasDealer, Cond.selects RX1 yX1_hasDealer yX1_hasDealer, Cond.code yX1_hasDealer cX1_hasDealer 2 (some .boolean), Cond.methodLink RX6 105 yX1_tellDealer, Cond.instanceMethod yX1_tellDealer, Cond.selects RX1 yX1_tellDealer yX1_tellDealer, Cond.code yX1_tellDealer cX1_tellDealer 3 (some .int), Cond.methodLink RX1 166 yX1_worthOf, Cond.instanceMethod yX1_worthOf, Cond.selects RX1 yX1_worthOf yX1_worthOf]
def wsL_digest_r6 : List Cond := [Cond.code yX1_worthOf cX1_worthOf 5 (some .int), Cond.methodLink RX1 169 yX5_sumAsked, Cond.instanceMethod yX5_sumAsked, Cond.selects RX5 yX5_sumAsked yX5_sumAsked, Cond.code yX5_sumAsked cX5_sumAsked 5 (some .int), Cond.fieldLink RX5 34 "GemMemos$Stones" "asked" "[I", Cond.methodLink RL 26 yX6_memoOf, Cond.instanceMethod yX6_memoOf, Cond.selects RX6 yX6_memoOf yX6_memoOf, Cond.code yX6_memoOf cX6_memoOf 3 (some .int), Cond.methodLink RX6 112 yX2_has, Cond.instanceMethod yX2_has, Cond.selects RX2 yX2_has yX2_has, Cond.initialized RX2, Cond.code yX2_has cX2_has 2 (some .boolean), Cond.fieldLink RX2 9 "GemMemos$Memos" "count" "I", Cond.methodLink RX6 115 yX1_tellMemo, Cond.instanceMethod yX1_tellMemo, Cond.selects RX1 yX1_tellMemo yX1_tellMemo, Cond.code yX1_tellMemo cX1_tellMemo 3 (some .int), Cond.methodLink RX1 190 Lib.Math.max.name, Cond.static Lib.Math.max.name, Cond.initialized "java/lang/Math", Cond.code Lib.Math.max.name Lib.Math.max.code 2 (some .int)]
def wsL_digest_r7 : List Cond := [Cond.methodLink RL 29 yX6_rateOf, Cond.instanceMethod yX6_rateOf, Cond.selects RX6 yX6_rateOf yX6_rateOf, Cond.code yX6_rateOf cX6_rateOf 6 (some .int), Cond.constant RX6 134 (-10000004), Cond.methodLink RX6 118 yX6_isGrade, Cond.static yX6_isGrade, Cond.code yX6_isGrade cX6_isGrade 3 (some .boolean), Cond.methodLink RX6 180 yX6_isLook, Cond.static yX6_isLook, Cond.code yX6_isLook cX6_isLook 2 (some .boolean), Cond.methodLink RX6 126 yX3_ownRate, Cond.instanceMethod yX3_ownRate, Cond.selects RX3 yX3_ownRate yX3_ownRate, Cond.code yX3_ownRate cX3_ownRate 5 (some .int), Cond.methodLink RX3 22 yX3_isEntryOf, Cond.instanceMethod yX3_isEntryOf, Cond.selects RX3 yX3_isEntryOf yX3_isEntryOf, Cond.code yX3_isEntryOf cX3_isEntryOf 5 (some .boolean), Cond.methodLink RX6 131 yX3_rateFor]
def wsL_digest : List Cond := .code yL_digest cL_digest 4 (some .long) :: ((wsL_digest_r1 ++ (wsL_digest_r2 ++ (wsL_digest_r3 ++ (wsL_digest_r4 ++ (wsL_digest_r5 ++ (wsL_digest_r6 ++ wsL_digest_r7)))))) ++ wsX60 ++ wsX00 ++ wsX40 ++ wsX10 ++ wsX50 ++ wsX20 ++ wsX30)
def wsL_holds_r1 : List Cond := [Cond.constant RL 41 (100000000), Cond.methodLink RL 29 yX6_rateOf, Cond.instanceMethod yX6_rateOf, Cond.selects RX6 yX6_rateOf yX6_rateOf, Cond.initialized RX6, Cond.code yX6_rateOf cX6_rateOf 6 (some .int), Cond.constant RX6 98 (-10000001), Cond.fieldLink RX6 10 "GemMemos" "now" "LGemMemos$Market;", Cond.constant RX6 134 (-10000004), Cond.methodLink RX6 118 yX6_isGrade, Cond.static yX6_isGrade, Cond.code yX6_isGrade cX6_isGrade 3 (some .boolean), Cond.methodLink RX6 180 yX6_isLook, Cond.static yX6_isLook, Cond.code yX6_isLook cX6_isLook 2 (some .boolean), Cond.methodLink RX6 126 yX3_ownRate, Cond.instanceMethod yX3_ownRate, Cond.selects RX3 yX3_ownRate yX3_ownRate, Cond.initialized RX3, Cond.code yX3_ownRate cX3_ownRate 5 (some .int), Cond.fieldLink RX3 19 "GemMemos$Prices" "coins" "[I", Cond.methodLink RX3 22 yX3_isEntryOf, Cond.instanceMethod yX3_isEntryOf, Cond.selects RX3 yX3_isEntryOf yX3_isEntryOf]
def wsL_holds_r2 : List Cond := [Cond.code yX3_isEntryOf cX3_isEntryOf 5 (some .boolean), Cond.fieldLink RX3 9 "GemMemos$Prices" "sieves" "[I", Cond.fieldLink RX3 13 "GemMemos$Prices" "colours" "[I", Cond.fieldLink RX3 16 "GemMemos$Prices" "clarities" "[I", Cond.methodLink RX6 131 yX3_rateFor, Cond.instanceMethod yX3_rateFor, Cond.selects RX3 yX3_rateFor yX3_rateFor, Cond.code yX3_rateFor cX3_rateFor 6 (some .int), Cond.methodLink RL 13 yX6_count, Cond.instanceMethod yX6_count, Cond.selects RX6 yX6_count yX6_count, Cond.code yX6_count cX6_count 2 (some .int), Cond.fieldLink RX6 28 "GemMemos" "history" "LGemMemos$History;", Cond.fieldLink RX6 35 "GemMemos" "script" "LGemMemos$Script;", Cond.fieldLink RX6 39 "GemMemos" "hasSnapshot" "Z", Cond.methodLink RX6 142 yX1_tellNumber, Cond.instanceMethod yX1_tellNumber, Cond.selects RX1 yX1_tellNumber yX1_tellNumber, Cond.initialized RX1, Cond.code yX1_tellNumber cX1_tellNumber 2 (some .int), Cond.fieldLink RX1 36 "GemMemos$Market" "dealers" "I", Cond.fieldLink RX1 21 "GemMemos$Market" "stones" "LGemMemos$Stones;", Cond.fieldLink RX1 28 "GemMemos$Market" "memos" "LGemMemos$Memos;", Cond.fieldLink RX1 12 "GemMemos$Market" "prices" "LGemMemos$Prices;"]
def wsL_holds_r3 : List Cond := [Cond.fieldLink RX1 40 "GemMemos$Market" "time" "I", Cond.constant RX1 145 (100000000), Cond.fieldLink RX1 49 "GemMemos$Market" "keptLate" "I", Cond.fieldLink RX1 43 "GemMemos$Market" "grace" "I", Cond.fieldLink RX1 46 "GemMemos$Market" "extra" "I", Cond.constant RX1 77 (-10000001), Cond.methodLink RX1 196 yX5_countSold, Cond.instanceMethod yX5_countSold, Cond.selects RX5 yX5_countSold yX5_countSold, Cond.initialized RX5, Cond.code yX5_countSold cX5_countSold 3 (some .int), Cond.fieldLink RX5 9 "GemMemos$Stones" "count" "I", Cond.methodLink RX5 43 yX5_isSold, Cond.instanceMethod yX5_isSold, Cond.selects RX5 yX5_isSold yX5_isSold, Cond.code yX5_isSold cX5_isSold 2 (some .boolean), Cond.fieldLink RX5 37 "GemMemos$Stones" "soldFor" "[I", Cond.methodLink RX1 199 yX5_countOut, Cond.instanceMethod yX5_countOut, Cond.selects RX5 yX5_countOut yX5_countOut, Cond.code yX5_countOut cX5_countOut 3 (some .int), Cond.methodLink RX5 47 yX5_isOut, Cond.instanceMethod yX5_isOut, Cond.selects RX5 yX5_isOut yX5_isOut]
def wsL_holds_r4 : List Cond := [Cond.code yX5_isOut cX5_isOut 2 (some .boolean), Cond.fieldLink RX5 31 "GemMemos$Stones" "memos" "[I", Cond.methodLink RX1 203 yX1_countOpen, Cond.instanceMethod yX1_countOpen, Cond.selects RX1 yX1_countOpen yX1_countOpen, Cond.code yX1_countOpen cX1_countOpen 3 (some .int), Cond.methodLink RX1 187 yX1_isOpen, Cond.instanceMethod yX1_isOpen, Cond.selects RX1 yX1_isOpen yX1_isOpen, Cond.code yX1_isOpen cX1_isOpen 2 (some .boolean), Cond.methodLink RX1 126 yX5_setWhere, Cond.instanceMethod yX5_setWhere, Cond.selects RX5 yX5_setWhere yX5_setWhere, Cond.code yX5_setWhere cX5_setWhere 5 (some .int), Cond.methodLink RX1 206 yX3_entries, Cond.instanceMethod yX3_entries, Cond.selects RX3 yX3_entries yX3_entries, Cond.code yX3_entries cX3_entries 3 (some .int), Cond.methodLink RX1 209 yX1_sumOfBalances, Cond.instanceMethod yX1_sumOfBalances, Cond.selects RX1 yX1_sumOfBalances yX1_sumOfBalances, Cond.code yX1_sumOfBalances cX1_sumOfBalances 3 (some .int), Cond.fieldLink RX1 32 "GemMemos$Market" "balances" "[I", Cond.methodLink RX1 212 yX5_sumSold]
def wsL_holds_r5 : List Cond := [Cond.instanceMethod yX5_sumSold, Cond.selects RX5 yX5_sumSold yX5_sumSold, Cond.code yX5_sumSold cX5_sumSold 3 (some .int), Cond.methodLink RL 26 yX6_memoOf, Cond.instanceMethod yX6_memoOf, Cond.selects RX6 yX6_memoOf yX6_memoOf, Cond.code yX6_memoOf cX6_memoOf 3 (some .int), Cond.methodLink RX6 112 yX2_has, Cond.instanceMethod yX2_has, Cond.selects RX2 yX2_has yX2_has, Cond.initialized RX2, Cond.code yX2_has cX2_has 2 (some .boolean), Cond.fieldLink RX2 9 "GemMemos$Memos" "count" "I", Cond.methodLink RX6 115 yX1_tellMemo, Cond.instanceMethod yX1_tellMemo, Cond.selects RX1 yX1_tellMemo yX1_tellMemo, Cond.code yX1_tellMemo cX1_tellMemo 3 (some .int), Cond.methodLink RX1 190 Lib.Math.max.name, Cond.static Lib.Math.max.name, Cond.initialized "java/lang/Math", Cond.code Lib.Math.max.name Lib.Math.max.code 2 (some .int), Cond.methodLink RL 19 yX6_stoneOf, Cond.instanceMethod yX6_stoneOf, Cond.selects RX6 yX6_stoneOf yX6_stoneOf]
def wsL_holds_r6 : List Cond := [Cond.code yX6_stoneOf cX6_stoneOf 3 (some .int), Cond.methodLink RX6 92 yX5_has, Cond.instanceMethod yX5_has, Cond.selects RX5 yX5_has yX5_has, Cond.code yX5_has cX5_has 2 (some .boolean), Cond.methodLink RX6 99 yX1_tellStone, Cond.instanceMethod yX1_tellStone, Cond.selects RX1 yX1_tellStone yX1_tellStone, Cond.code yX1_tellStone cX1_tellStone 4 (some .int), Cond.constant RX1 162 (-10000004), Cond.methodLink RX1 159 yX5_sieveOf, Cond.instanceMethod yX5_sieveOf, Cond.selects RX5 yX5_sieveOf yX5_sieveOf, Cond.code yX5_sieveOf cX5_sieveOf 3 (some .int), Cond.fieldLink RX5 15 "GemMemos$Stones" "weights" "[I", Cond.methodLink RX1 139 yX5_isSold, Cond.methodLink RX1 113 yX1_priceOf, Cond.instanceMethod yX1_priceOf, Cond.selects RX1 yX1_priceOf yX1_priceOf, Cond.code yX1_priceOf cX1_priceOf 3 (some .int), Cond.methodLink RX1 215 yX3_rateFor, Cond.methodLink RX1 120 yX5_isOut, Cond.methodLink RL 33 yL_low, Cond.static yL_low]
def wsL_holds_r7 : List Cond := [Cond.initialized RL, Cond.code yL_low cL_low 2 (some .int), Cond.constant RL 8 (2147483647), Cond.methodLink RL 38 yX6_grades, Cond.instanceMethod yX6_grades, Cond.selects RX6 yX6_grades yX6_grades, Cond.code yX6_grades cX6_grades 2 (some .int), Cond.methodLink RX6 102 yX1_hasDealer, Cond.instanceMethod yX1_hasDealer, Cond.selects RX1 yX1_hasDealer yX1_hasDealer, Cond.code yX1_hasDealer cX1_hasDealer 2 (some .boolean), Cond.methodLink RX6 152 yX5_unlikeGrades, Cond.instanceMethod yX5_unlikeGrades, Cond.selects RX5 yX5_unlikeGrades yX5_unlikeGrades, Cond.code yX5_unlikeGrades cX5_unlikeGrades 4 (some .int), Cond.fieldLink RX5 28 "GemMemos$Stones" "holders" "[I", Cond.methodLink RX5 61 yX5_hasLikeBefore, Cond.instanceMethod yX5_hasLikeBefore, Cond.selects RX5 yX5_hasLikeBefore yX5_hasLikeBefore, Cond.code yX5_hasLikeBefore cX5_hasLikeBefore 4 (some .boolean), Cond.methodLink RX5 56 yX5_sameGrade, Cond.instanceMethod yX5_sameGrade, Cond.selects RX5 yX5_sameGrade yX5_sameGrade, Cond.code yX5_sameGrade cX5_sameGrade 3 (some .boolean)]
def wsL_holds_r8 : List Cond := [Cond.fieldLink RX5 19 "GemMemos$Stones" "colours" "[I", Cond.fieldLink RX5 22 "GemMemos$Stones" "clarities" "[I", Cond.methodLink RX5 70 yX5_sieveOf]
def wsL_holds : List Cond := .code yL_holds cL_holds 7 (some .boolean) :: ((wsL_holds_r1 ++ (wsL_holds_r2 ++ (wsL_holds_r3 ++ (wsL_holds_r4 ++ (wsL_holds_r5 ++ (wsL_holds_r6 ++ (wsL_holds_r7 ++ wsL_holds_r8))))))) ++ wsX60 ++ wsX10 ++ wsX30 ++ wsX00 ++ wsX40 ++ wsX50 ++ wsX20)
def wsL_digits : List Cond := .code yL_digits cL_digits 3 (some .boolean) :: ([.methodLink RL 42 yX6_type, .instanceMethod yX6_type, .selects RX6 yX6_type yX6_type, .initialized RX6, .code yX6_type cX6_type 2 (some .int), .constant RX6 98 (-10000001), .fieldLink RX6 35 "GemMemos" "script" "LGemMemos$Script;", .methodLink RX6 165 yX4_append, .instanceMethod yX4_append, .selects RX4 yX4_append yX4_append, .initialized RX4, .code yX4_append cX4_append 2 (some .int), .fieldLink RX4 15 "GemMemos$Script" "length" "I", .constant RX4 38 (-10000003), .fieldLink RX4 11 "GemMemos$Script" "signs" "[C"] ++ wsX60 ++ wsX40)
def wsL_signs : List Cond := .code yL_signs cL_signs 5 (some .boolean) :: ([.methodLink RL 42 yX6_type, .instanceMethod yX6_type, .selects RX6 yX6_type yX6_type, .initialized RX6, .code yX6_type cX6_type 2 (some .int), .constant RX6 98 (-10000001), .fieldLink RX6 35 "GemMemos" "script" "LGemMemos$Script;", .methodLink RX6 165 yX4_append, .instanceMethod yX4_append, .selects RX4 yX4_append yX4_append, .initialized RX4, .code yX4_append cX4_append 2 (some .int), .fieldLink RX4 15 "GemMemos$Script" "length" "I", .constant RX4 38 (-10000003), .fieldLink RX4 11 "GemMemos$Script" "signs" "[C"] ++ wsX60 ++ wsX40)
def wsL_types_r1 : List Cond := [Cond.methodLink RL 33 yL_low, Cond.static yL_low, Cond.initialized RL, Cond.code yL_low cL_low 2 (some .int), Cond.constant RL 8 (2147483647), Cond.methodLink RL 45 yX6_clearText, Cond.instanceMethod yX6_clearText, Cond.selects RX6 yX6_clearText yX6_clearText, Cond.initialized RX6, Cond.code yX6_clearText cX6_clearText 2 (some .int), Cond.fieldLink RX6 35 "GemMemos" "script" "LGemMemos$Script;", Cond.methodLink RL 49 yL_signs, Cond.static yL_signs, Cond.code yL_signs cL_signs 5 (some .boolean), Cond.methodLink RL 42 yX6_type, Cond.instanceMethod yX6_type, Cond.selects RX6 yX6_type yX6_type, Cond.code yX6_type cX6_type 2 (some .int), Cond.constant RX6 98 (-10000001), Cond.methodLink RX6 165 yX4_append, Cond.instanceMethod yX4_append, Cond.selects RX4 yX4_append yX4_append, Cond.initialized RX4, Cond.code yX4_append cX4_append 2 (some .int)]
def wsL_types_r2 : List Cond := [Cond.fieldLink RX4 15 "GemMemos$Script" "length" "I", Cond.constant RX4 38 (-10000003), Cond.fieldLink RX4 11 "GemMemos$Script" "signs" "[C", Cond.methodLink RL 53 yL_digits, Cond.static yL_digits, Cond.code yL_digits cL_digits 3 (some .boolean)]
def wsL_types : List Cond := .code yL_types cL_types 10 (some .boolean) :: ((wsL_types_r1 ++ wsL_types_r2) ++ wsX60 ++ wsX40)
def wsL_reads_r1 : List Cond := [Cond.constant RL 63 (-10000004), Cond.constant RL 64 (-10000002), Cond.constant RL 65 (-10000001), Cond.methodLink RL 57 yX6_fault, Cond.instanceMethod yX6_fault, Cond.selects RX6 yX6_fault yX6_fault, Cond.initialized RX6, Cond.code yX6_fault cX6_fault 2 (some .int), Cond.constant RX6 98 (-10000001), Cond.fieldLink RX6 19 "GemMemos" "trial" "LGemMemos$Market;", Cond.fieldLink RX6 10 "GemMemos" "now" "LGemMemos$Market;", Cond.fieldLink RX6 35 "GemMemos" "script" "LGemMemos$Script;", Cond.methodLink RX6 43 yX1_copyFrom, Cond.instanceMethod yX1_copyFrom, Cond.selects RX1 yX1_copyFrom yX1_copyFrom, Cond.initialized RX1, Cond.code yX1_copyFrom cX1_copyFrom 2 none, Cond.fieldLink RX1 12 "GemMemos$Market" "prices" "LGemMemos$Prices;", Cond.fieldLink RX1 21 "GemMemos$Market" "stones" "LGemMemos$Stones;", Cond.fieldLink RX1 28 "GemMemos$Market" "memos" "LGemMemos$Memos;", Cond.fieldLink RX1 32 "GemMemos$Market" "balances" "[I", Cond.methodLink RX1 62 arraycopyName, Cond.native arraycopyName, Cond.static arraycopyName]
def wsL_reads_r2 : List Cond := [Cond.initialized "java/lang/System", Cond.fieldLink RX1 36 "GemMemos$Market" "dealers" "I", Cond.fieldLink RX1 40 "GemMemos$Market" "time" "I", Cond.fieldLink RX1 43 "GemMemos$Market" "grace" "I", Cond.fieldLink RX1 46 "GemMemos$Market" "extra" "I", Cond.fieldLink RX1 49 "GemMemos$Market" "keptLate" "I", Cond.methodLink RX1 52 yX3_copyFrom, Cond.instanceMethod yX3_copyFrom, Cond.selects RX3 yX3_copyFrom yX3_copyFrom, Cond.initialized RX3, Cond.code yX3_copyFrom cX3_copyFrom 2 none, Cond.fieldLink RX3 9 "GemMemos$Prices" "sieves" "[I", Cond.methodLink RX3 26 arraycopyName, Cond.fieldLink RX3 13 "GemMemos$Prices" "colours" "[I", Cond.fieldLink RX3 16 "GemMemos$Prices" "clarities" "[I", Cond.fieldLink RX3 19 "GemMemos$Prices" "coins" "[I", Cond.methodLink RX1 56 yX5_copyFrom, Cond.instanceMethod yX5_copyFrom, Cond.selects RX5 yX5_copyFrom yX5_copyFrom, Cond.initialized RX5, Cond.code yX5_copyFrom cX5_copyFrom 2 none, Cond.fieldLink RX5 9 "GemMemos$Stones" "count" "I", Cond.fieldLink RX5 15 "GemMemos$Stones" "weights" "[I", Cond.methodLink RX5 64 arraycopyName]
def wsL_reads_r3 : List Cond := [Cond.fieldLink RX5 19 "GemMemos$Stones" "colours" "[I", Cond.fieldLink RX5 22 "GemMemos$Stones" "clarities" "[I", Cond.fieldLink RX5 25 "GemMemos$Stones" "owners" "[I", Cond.fieldLink RX5 28 "GemMemos$Stones" "holders" "[I", Cond.fieldLink RX5 31 "GemMemos$Stones" "memos" "[I", Cond.fieldLink RX5 34 "GemMemos$Stones" "asked" "[I", Cond.fieldLink RX5 37 "GemMemos$Stones" "soldFor" "[I", Cond.fieldLink RX5 40 "GemMemos$Stones" "timesKept" "[I", Cond.methodLink RX1 59 yX2_copyFrom, Cond.instanceMethod yX2_copyFrom, Cond.selects RX2 yX2_copyFrom yX2_copyFrom, Cond.initialized RX2, Cond.code yX2_copyFrom cX2_copyFrom 2 none, Cond.fieldLink RX2 9 "GemMemos$Memos" "count" "I", Cond.fieldLink RX2 15 "GemMemos$Memos" "lenders" "[I", Cond.methodLink RX2 31 arraycopyName, Cond.fieldLink RX2 19 "GemMemos$Memos" "takers" "[I", Cond.fieldLink RX2 22 "GemMemos$Memos" "lastDays" "[I", Cond.fieldLink RX2 25 "GemMemos$Memos" "lent" "[I", Cond.fieldLink RX2 28 "GemMemos$Memos" "kept" "[I", Cond.methodLink RX6 169 yX4_runOn, Cond.instanceMethod yX4_runOn, Cond.selects RX4 yX4_runOn yX4_runOn, Cond.initialized RX4]
def wsL_reads_r4 : List Cond := [Cond.code yX4_runOn cX4_runOn 5 (some .int), Cond.fieldLink RX4 29 "GemMemos$Script" "faultAt" "I", Cond.fieldLink RX4 15 "GemMemos$Script" "length" "I", Cond.constant RX4 39 (-10000004), Cond.fieldLink RX4 26 "GemMemos$Script" "next" "I", Cond.methodLink RX4 40 yX4_readCommand, Cond.instanceMethod yX4_readCommand, Cond.selects RX4 yX4_readCommand yX4_readCommand, Cond.code yX4_readCommand cX4_readCommand 4 (some .boolean), Cond.fieldLink RX4 19 "GemMemos$Script" "kind" "I", Cond.methodLink RX4 88 yX4_wordOf, Cond.static yX4_wordOf, Cond.code yX4_wordOf cX4_wordOf 1 (some (.object "java/lang/String")), Cond.methodLink RX4 92 yX4_isWordAt, Cond.instanceMethod yX4_isWordAt, Cond.selects RX4 yX4_isWordAt yX4_isWordAt, Cond.code yX4_isWordAt cX4_isWordAt 4 (some .boolean), Cond.methodLink RX4 96 yJ0_length_8abf5, Cond.instanceMethod yJ0_length_8abf5, Cond.selects RJ0 yJ0_length_8abf5 yJ0_length_8abf5, Cond.initialized RJ0, Cond.code yJ0_length_8abf5 cJ0_length_8abf5 1 (some .int), Cond.fieldLink RJ0 9 "java/lang/String" "value" "[B", Cond.methodLink RJ0 335 yJ0_coder_7d493]
def wsL_reads_r5 : List Cond := [Cond.instanceMethod yJ0_coder_7d493, Cond.selects RJ0 yJ0_coder_7d493 yJ0_coder_7d493, Cond.code yJ0_coder_7d493 cJ0_coder_7d493 1 (some .byte), Cond.fieldLink RJ0 38 "java/lang/String" "COMPACT_STRINGS" "Z", Cond.fieldLink RJ0 15 "java/lang/String" "coder" "B", Cond.methodLink RX4 122 yX4_signAt, Cond.instanceMethod yX4_signAt, Cond.selects RX4 yX4_signAt yX4_signAt, Cond.code yX4_signAt cX4_signAt 2 (some .char), Cond.fieldLink RX4 11 "GemMemos$Script" "signs" "[C", Cond.methodLink RX4 126 yJ0_charAt_5068e, Cond.instanceMethod yJ0_charAt_5068e, Cond.selects RJ0 yJ0_charAt_5068e yJ0_charAt_5068e, Cond.code yJ0_charAt_5068e cJ0_charAt_5068e 2 (some .char), Cond.methodLink RJ0 492 yJ0_isLatin1_aae02, Cond.instanceMethod yJ0_isLatin1_aae02, Cond.selects RJ0 yJ0_isLatin1_aae02 yJ0_isLatin1_aae02, Cond.code yJ0_isLatin1_aae02 cJ0_isLatin1_aae02 1 (some .boolean), Cond.methodLink RJ0 495 yJ1_charAt_3b067, Cond.static yJ1_charAt_3b067, Cond.initialized RJ1, Cond.code yJ1_charAt_3b067 cJ1_charAt_3b067 2 (some .char), Cond.methodLink RJ1 9 yJ0_checkIndex_df160, Cond.static yJ0_checkIndex_df160]
def wsL_reads_r6 : List Cond := [Cond.code yJ0_checkIndex_df160 cJ0_checkIndex_df160 2 none, Cond.fieldLink RJ0 1053 "jdk/internal/util/Preconditions" "SIOOBE_FORMATTER" "Ljava/util/function/BiFunction;", Cond.methodLink RJ0 1059 yJ3_checkIndex_8e157, Cond.static yJ3_checkIndex_8e157, Cond.initialized RJ3, Cond.code yJ3_checkIndex_8e157 cJ3_checkIndex_8e157 3 (some .int), Cond.methodLink RJ0 498 yJ2_charAt_3b067, Cond.static yJ2_charAt_3b067, Cond.initialized RJ2, Cond.code yJ2_charAt_3b067 cJ2_charAt_3b067 2 (some .char), Cond.methodLink RJ2 67 yJ2_checkIndex_2214a, Cond.static yJ2_checkIndex_2214a, Cond.code yJ2_checkIndex_2214a cJ2_checkIndex_2214a 2 none, Cond.methodLink RJ2 48 yJ2_length_9d52b, Cond.static yJ2_length_9d52b, Cond.code yJ2_length_9d52b cJ2_length_9d52b 1 (some .int), Cond.methodLink RJ2 414 yJ0_checkIndex_df160, Cond.methodLink RJ2 71 yJ2_getChar_3b067, Cond.static yJ2_getChar_3b067, Cond.code yJ2_getChar_3b067 cJ2_getChar_3b067 2 (some .char), Cond.fieldLink RJ2 44 "java/lang/StringUTF16" "$assertionsDisabled" "Z", Cond.fieldLink RJ2 59 "java/lang/StringUTF16" "HI_BYTE_SHIFT" "I", Cond.fieldLink RJ2 63 "java/lang/StringUTF16" "LO_BYTE_SHIFT" "I", Cond.methodLink RX4 101 yX4_howManyNumbers]
def wsL_reads_r7 : List Cond := [Cond.static yX4_howManyNumbers, Cond.code yX4_howManyNumbers cX4_howManyNumbers 1 (some .int), Cond.methodLink RX4 104 yX4_readNumbers, Cond.instanceMethod yX4_readNumbers, Cond.selects RX4 yX4_readNumbers yX4_readNumbers, Cond.code yX4_readNumbers cX4_readNumbers 6 (some .boolean), Cond.fieldLink RX4 22 "GemMemos$Script" "numbers" "[I", Cond.methodLink RX4 129 yX4_digitsAt, Cond.instanceMethod yX4_digitsAt, Cond.selects RX4 yX4_digitsAt yX4_digitsAt, Cond.code yX4_digitsAt cX4_digitsAt 3 (some .int), Cond.methodLink RX4 135 yX4_isDigit, Cond.static yX4_isDigit, Cond.code yX4_isDigit cX4_isDigit 1 (some .boolean), Cond.methodLink RX4 132 yX4_valueAt, Cond.instanceMethod yX4_valueAt, Cond.selects RX4 yX4_valueAt yX4_valueAt, Cond.code yX4_valueAt cX4_valueAt 5 (some .int), Cond.methodLink RX4 44 yX4_putFault, Cond.instanceMethod yX4_putFault, Cond.selects RX4 yX4_putFault yX4_putFault, Cond.code yX4_putFault cX4_putFault 4 none, Cond.fieldLink RX4 32 "GemMemos$Script" "reason" "I", Cond.fieldLink RX4 35 "GemMemos$Script" "cause" "I"]
def wsL_reads_r8 : List Cond := [Cond.methodLink RX4 48 yX4_perform, Cond.instanceMethod yX4_perform, Cond.selects RX4 yX4_perform yX4_perform, Cond.code yX4_perform cX4_perform 7 (some .int), Cond.methodLink RX4 58 yX5_has, Cond.instanceMethod yX5_has, Cond.selects RX5 yX5_has yX5_has, Cond.code yX5_has cX5_has 2 (some .boolean), Cond.methodLink RX4 63 yX1_lendStones, Cond.instanceMethod yX1_lendStones, Cond.selects RX1 yX1_lendStones yX1_lendStones, Cond.code yX1_lendStones cX1_lendStones 7 (some .int), Cond.constant RX1 77 (-10000001), Cond.constant RX1 97 (-10000002), Cond.constant RX1 68 (-10000003), Cond.methodLink RX1 69 yX1_hasDealer, Cond.instanceMethod yX1_hasDealer, Cond.selects RX1 yX1_hasDealer yX1_hasDealer, Cond.code yX1_hasDealer cX1_hasDealer 2 (some .boolean), Cond.methodLink RX1 101 yX1_canLend, Cond.instanceMethod yX1_canLend, Cond.selects RX1 yX1_canLend yX1_canLend, Cond.code yX1_canLend cX1_canLend 4 (some .boolean), Cond.methodLink RX1 113 yX1_priceOf]
def wsL_reads_r9 : List Cond := [Cond.instanceMethod yX1_priceOf, Cond.selects RX1 yX1_priceOf yX1_priceOf, Cond.code yX1_priceOf cX1_priceOf 3 (some .int), Cond.methodLink RX1 159 yX5_sieveOf, Cond.instanceMethod yX5_sieveOf, Cond.selects RX5 yX5_sieveOf yX5_sieveOf, Cond.code yX5_sieveOf cX5_sieveOf 3 (some .int), Cond.methodLink RX1 215 yX3_rateFor, Cond.instanceMethod yX3_rateFor, Cond.selects RX3 yX3_rateFor yX3_rateFor, Cond.code yX3_rateFor cX3_rateFor 6 (some .int), Cond.methodLink RX1 104 yX2_add, Cond.instanceMethod yX2_add, Cond.selects RX2 yX2_add yX2_add, Cond.code yX2_add cX2_add 6 (some .int), Cond.methodLink RX4 67 yX1_giveBack, Cond.instanceMethod yX1_giveBack, Cond.selects RX1 yX1_giveBack yX1_giveBack, Cond.code yX1_giveBack cX1_giveBack 3 (some .int), Cond.methodLink RX1 117 yX5_has, Cond.methodLink RX1 120 yX5_isOut, Cond.instanceMethod yX5_isOut, Cond.selects RX5 yX5_isOut yX5_isOut, Cond.code yX5_isOut cX5_isOut 2 (some .boolean)]
def wsL_reads_r10 : List Cond := [Cond.methodLink RX1 126 yX5_setWhere, Cond.instanceMethod yX5_setWhere, Cond.selects RX5 yX5_setWhere yX5_setWhere, Cond.code yX5_setWhere cX5_setWhere 5 (some .int), Cond.methodLink RX1 130 yJ6_bitCount_0f7a4, Cond.static yJ6_bitCount_0f7a4, Cond.initialized RJ6, Cond.code yJ6_bitCount_0f7a4 cJ6_bitCount_0f7a4 1 (some .int), Cond.constant RJ6 265 (1431655765), Cond.constant RJ6 266 (858993459), Cond.constant RJ6 267 (252645135), Cond.methodLink RX4 71 yX1_keepStone, Cond.instanceMethod yX1_keepStone, Cond.selects RX1 yX1_keepStone yX1_keepStone, Cond.code yX1_keepStone cX1_keepStone 3 (some .int), Cond.methodLink RX1 135 yX1_keepFor, Cond.instanceMethod yX1_keepFor, Cond.selects RX1 yX1_keepFor yX1_keepFor, Cond.code yX1_keepFor cX1_keepFor 6 none, Cond.methodLink RX1 218 yX2_has, Cond.instanceMethod yX2_has, Cond.selects RX2 yX2_has yX2_has, Cond.code yX2_has cX2_has 2 (some .boolean), Cond.methodLink RX4 74 yX1_sellStone]
def wsL_reads_r11 : List Cond := [Cond.instanceMethod yX1_sellStone, Cond.selects RX1 yX1_sellStone yX1_sellStone, Cond.code yX1_sellStone cX1_sellStone 4 (some .int), Cond.constant RX1 145 (100000000), Cond.methodLink RX1 139 yX5_isSold, Cond.instanceMethod yX5_isSold, Cond.selects RX5 yX5_isSold yX5_isSold, Cond.code yX5_isSold cX5_isSold 2 (some .boolean), Cond.methodLink RX4 78 yX1_regrade, Cond.instanceMethod yX1_regrade, Cond.selects RX1 yX1_regrade yX1_regrade, Cond.code yX1_regrade cX1_regrade 6 (some .int), Cond.static yX6_isLook, Cond.code yX6_isLook cX6_isLook 2 (some .boolean), Cond.methodLink RX4 82 yX1_putRate, Cond.instanceMethod yX1_putRate, Cond.selects RX1 yX1_putRate yX1_putRate, Cond.code yX1_putRate cX1_putRate 6 (some .int), Cond.static yX6_isGrade, Cond.code yX6_isGrade cX6_isGrade 3 (some .boolean), Cond.methodLink RX6 180 yX6_isLook, Cond.methodLink RX1 86 yX3_ownRate, Cond.instanceMethod yX3_ownRate, Cond.selects RX3 yX3_ownRate yX3_ownRate]
def wsL_reads_r12 : List Cond := [Cond.code yX3_ownRate cX3_ownRate 5 (some .int), Cond.methodLink RX3 22 yX3_isEntryOf, Cond.instanceMethod yX3_isEntryOf, Cond.selects RX3 yX3_isEntryOf yX3_isEntryOf, Cond.code yX3_isEntryOf cX3_isEntryOf 5 (some .boolean), Cond.methodLink RX1 90 yX3_change, Cond.instanceMethod yX3_change, Cond.selects RX3 yX3_change yX3_change, Cond.code yX3_change cX3_change 6 none, Cond.methodLink RX1 94 yX3_add, Cond.instanceMethod yX3_add, Cond.selects RX3 yX3_add yX3_add, Cond.code yX3_add cX3_add 6 (some .boolean), Cond.methodLink RX4 85 yX1_passDays, Cond.instanceMethod yX1_passDays, Cond.selects RX1 yX1_passDays yX1_passDays, Cond.code yX1_passDays cX1_passDays 4 (some .int), Cond.methodLink RX1 152 yX1_keepLateOnes, Cond.instanceMethod yX1_keepLateOnes, Cond.selects RX1 yX1_keepLateOnes yX1_keepLateOnes, Cond.code yX1_keepLateOnes cX1_keepLateOnes 4 (some .int), Cond.methodLink RX6 173 yX4_tellFault, Cond.instanceMethod yX4_tellFault, Cond.selects RX4 yX4_tellFault yX4_tellFault]
def wsL_reads_r13 : List Cond := [Cond.code yX4_tellFault cX4_tellFault 2 (some .int), Cond.methodLink RL 13 yX6_count, Cond.instanceMethod yX6_count, Cond.selects RX6 yX6_count yX6_count, Cond.code yX6_count cX6_count 2 (some .int), Cond.fieldLink RX6 28 "GemMemos" "history" "LGemMemos$History;", Cond.fieldLink RX6 39 "GemMemos" "hasSnapshot" "Z", Cond.methodLink RX6 142 yX1_tellNumber, Cond.instanceMethod yX1_tellNumber, Cond.selects RX1 yX1_tellNumber yX1_tellNumber, Cond.code yX1_tellNumber cX1_tellNumber 2 (some .int), Cond.methodLink RX1 196 yX5_countSold, Cond.instanceMethod yX5_countSold, Cond.selects RX5 yX5_countSold yX5_countSold, Cond.code yX5_countSold cX5_countSold 3 (some .int), Cond.methodLink RX5 43 yX5_isSold, Cond.methodLink RX1 199 yX5_countOut, Cond.instanceMethod yX5_countOut, Cond.selects RX5 yX5_countOut yX5_countOut, Cond.code yX5_countOut cX5_countOut 3 (some .int), Cond.methodLink RX5 47 yX5_isOut, Cond.methodLink RX1 203 yX1_countOpen, Cond.instanceMethod yX1_countOpen, Cond.selects RX1 yX1_countOpen yX1_countOpen]
def wsL_reads_r14 : List Cond := [Cond.code yX1_countOpen cX1_countOpen 3 (some .int), Cond.methodLink RX1 187 yX1_isOpen, Cond.instanceMethod yX1_isOpen, Cond.selects RX1 yX1_isOpen yX1_isOpen, Cond.code yX1_isOpen cX1_isOpen 2 (some .boolean), Cond.methodLink RX1 206 yX3_entries, Cond.instanceMethod yX3_entries, Cond.selects RX3 yX3_entries yX3_entries, Cond.code yX3_entries cX3_entries 3 (some .int), Cond.methodLink RX1 209 yX1_sumOfBalances, Cond.instanceMethod yX1_sumOfBalances, Cond.selects RX1 yX1_sumOfBalances yX1_sumOfBalances, Cond.code yX1_sumOfBalances cX1_sumOfBalances 3 (some .int), Cond.methodLink RX1 212 yX5_sumSold, Cond.instanceMethod yX5_sumSold, Cond.selects RX5 yX5_sumSold yX5_sumSold, Cond.code yX5_sumSold cX5_sumSold 3 (some .int), Cond.methodLink RL 60 yX6_play, Cond.instanceMethod yX6_play, Cond.selects RX6 yX6_play yX6_play, Cond.code yX6_play cX6_play 2 (some .int), Cond.constant RX6 158 (-10000002), Cond.methodLink RX6 176 yX4_hasFault, Cond.instanceMethod yX4_hasFault]
def wsL_reads_r15 : List Cond := [Cond.selects RX4 yX4_hasFault yX4_hasFault, Cond.code yX4_hasFault cX4_hasFault 1 (some .boolean), Cond.methodLink RX6 159 yX0_push, Cond.instanceMethod yX0_push, Cond.selects RX0 yX0_push yX0_push, Cond.initialized RX0, Cond.code yX0_push cX0_push 3 none, Cond.fieldLink RX0 19 "GemMemos$History" "size" "I", Cond.fieldLink RX0 15 "GemMemos$History" "oldest" "I", Cond.fieldLink RX0 11 "GemMemos$History" "states" "[LGemMemos$Market;", Cond.methodLink RX0 23 yJ9_floorMod_7cf53, Cond.static yJ9_floorMod_7cf53, Cond.initialized RJ9, Cond.code yJ9_floorMod_7cf53 cJ9_floorMod_7cf53 3 (some .int), Cond.methodLink RX0 29 yX1_copyFrom]
def wsL_reads : List Cond := .code yL_reads cL_reads 8 (some .boolean) :: ((wsL_reads_r1 ++ (wsL_reads_r2 ++ (wsL_reads_r3 ++ (wsL_reads_r4 ++ (wsL_reads_r5 ++ (wsL_reads_r6 ++ (wsL_reads_r7 ++ (wsL_reads_r8 ++ (wsL_reads_r9 ++ (wsL_reads_r10 ++ (wsL_reads_r11 ++ (wsL_reads_r12 ++ (wsL_reads_r13 ++ (wsL_reads_r14 ++ wsL_reads_r15)))))))))))))) ++ wsX60 ++ wsX10 ++ wsX30 ++ wsX50 ++ wsX20 ++ wsX40 ++ wsX00)
def wsL_acts_r1 : List Cond := [Cond.constant RL 65 (-10000001), Cond.constant RL 69 (-10000003), Cond.constant RL 64 (-10000002), Cond.methodLink RL 33 yL_low, Cond.static yL_low, Cond.initialized RL, Cond.code yL_low cL_low 2 (some .int), Cond.constant RL 8 (2147483647), Cond.methodLink RL 13 yX6_count, Cond.instanceMethod yX6_count, Cond.selects RX6 yX6_count yX6_count, Cond.initialized RX6, Cond.code yX6_count cX6_count 2 (some .int), Cond.fieldLink RX6 28 "GemMemos" "history" "LGemMemos$History;", Cond.fieldLink RX6 35 "GemMemos" "script" "LGemMemos$Script;", Cond.fieldLink RX6 39 "GemMemos" "hasSnapshot" "Z", Cond.fieldLink RX6 10 "GemMemos" "now" "LGemMemos$Market;", Cond.methodLink RX6 142 yX1_tellNumber, Cond.instanceMethod yX1_tellNumber, Cond.selects RX1 yX1_tellNumber yX1_tellNumber, Cond.initialized RX1, Cond.code yX1_tellNumber cX1_tellNumber 2 (some .int), Cond.fieldLink RX1 36 "GemMemos$Market" "dealers" "I", Cond.fieldLink RX1 21 "GemMemos$Market" "stones" "LGemMemos$Stones;"]
def wsL_acts_r2 : List Cond := [Cond.fieldLink RX1 28 "GemMemos$Market" "memos" "LGemMemos$Memos;", Cond.fieldLink RX1 12 "GemMemos$Market" "prices" "LGemMemos$Prices;", Cond.fieldLink RX1 40 "GemMemos$Market" "time" "I", Cond.constant RX1 145 (100000000), Cond.fieldLink RX1 49 "GemMemos$Market" "keptLate" "I", Cond.fieldLink RX1 43 "GemMemos$Market" "grace" "I", Cond.fieldLink RX1 46 "GemMemos$Market" "extra" "I", Cond.constant RX1 77 (-10000001), Cond.methodLink RX1 196 yX5_countSold, Cond.instanceMethod yX5_countSold, Cond.selects RX5 yX5_countSold yX5_countSold, Cond.initialized RX5, Cond.code yX5_countSold cX5_countSold 3 (some .int), Cond.fieldLink RX5 9 "GemMemos$Stones" "count" "I", Cond.methodLink RX5 43 yX5_isSold, Cond.instanceMethod yX5_isSold, Cond.selects RX5 yX5_isSold yX5_isSold, Cond.code yX5_isSold cX5_isSold 2 (some .boolean), Cond.fieldLink RX5 37 "GemMemos$Stones" "soldFor" "[I", Cond.methodLink RX1 199 yX5_countOut, Cond.instanceMethod yX5_countOut, Cond.selects RX5 yX5_countOut yX5_countOut, Cond.code yX5_countOut cX5_countOut 3 (some .int), Cond.methodLink RX5 47 yX5_isOut]
def wsL_acts_r3 : List Cond := [Cond.instanceMethod yX5_isOut, Cond.selects RX5 yX5_isOut yX5_isOut, Cond.code yX5_isOut cX5_isOut 2 (some .boolean), Cond.fieldLink RX5 31 "GemMemos$Stones" "memos" "[I", Cond.methodLink RX1 203 yX1_countOpen, Cond.instanceMethod yX1_countOpen, Cond.selects RX1 yX1_countOpen yX1_countOpen, Cond.code yX1_countOpen cX1_countOpen 3 (some .int), Cond.methodLink RX1 187 yX1_isOpen, Cond.instanceMethod yX1_isOpen, Cond.selects RX1 yX1_isOpen yX1_isOpen, Cond.code yX1_isOpen cX1_isOpen 2 (some .boolean), Cond.methodLink RX1 126 yX5_setWhere, Cond.instanceMethod yX5_setWhere, Cond.selects RX5 yX5_setWhere yX5_setWhere, Cond.code yX5_setWhere cX5_setWhere 5 (some .int), Cond.methodLink RX1 206 yX3_entries, Cond.instanceMethod yX3_entries, Cond.selects RX3 yX3_entries yX3_entries, Cond.initialized RX3, Cond.code yX3_entries cX3_entries 3 (some .int), Cond.fieldLink RX3 19 "GemMemos$Prices" "coins" "[I", Cond.methodLink RX1 209 yX1_sumOfBalances, Cond.instanceMethod yX1_sumOfBalances]
def wsL_acts_r4 : List Cond := [Cond.selects RX1 yX1_sumOfBalances yX1_sumOfBalances, Cond.code yX1_sumOfBalances cX1_sumOfBalances 3 (some .int), Cond.fieldLink RX1 32 "GemMemos$Market" "balances" "[I", Cond.methodLink RX1 212 yX5_sumSold, Cond.instanceMethod yX5_sumSold, Cond.selects RX5 yX5_sumSold yX5_sumSold, Cond.code yX5_sumSold cX5_sumSold 3 (some .int), Cond.methodLink RL 19 yX6_stoneOf, Cond.instanceMethod yX6_stoneOf, Cond.selects RX6 yX6_stoneOf yX6_stoneOf, Cond.code yX6_stoneOf cX6_stoneOf 3 (some .int), Cond.constant RX6 98 (-10000001), Cond.methodLink RX6 92 yX5_has, Cond.instanceMethod yX5_has, Cond.selects RX5 yX5_has yX5_has, Cond.code yX5_has cX5_has 2 (some .boolean), Cond.methodLink RX6 99 yX1_tellStone, Cond.instanceMethod yX1_tellStone, Cond.selects RX1 yX1_tellStone yX1_tellStone, Cond.code yX1_tellStone cX1_tellStone 4 (some .int), Cond.constant RX1 162 (-10000004), Cond.methodLink RX1 159 yX5_sieveOf, Cond.instanceMethod yX5_sieveOf, Cond.selects RX5 yX5_sieveOf yX5_sieveOf]
def wsL_acts_r5 : List Cond := [Cond.code yX5_sieveOf cX5_sieveOf 3 (some .int), Cond.fieldLink RX5 15 "GemMemos$Stones" "weights" "[I", Cond.methodLink RX1 139 yX5_isSold, Cond.methodLink RX1 113 yX1_priceOf, Cond.instanceMethod yX1_priceOf, Cond.selects RX1 yX1_priceOf yX1_priceOf, Cond.code yX1_priceOf cX1_priceOf 3 (some .int), Cond.methodLink RX1 215 yX3_rateFor, Cond.instanceMethod yX3_rateFor, Cond.selects RX3 yX3_rateFor yX3_rateFor, Cond.code yX3_rateFor cX3_rateFor 6 (some .int), Cond.fieldLink RX3 9 "GemMemos$Prices" "sieves" "[I", Cond.fieldLink RX3 13 "GemMemos$Prices" "colours" "[I", Cond.fieldLink RX3 16 "GemMemos$Prices" "clarities" "[I", Cond.methodLink RX1 120 yX5_isOut, Cond.methodLink RL 66 yX6_stone, Cond.instanceMethod yX6_stone, Cond.selects RX6 yX6_stone yX6_stone, Cond.code yX6_stone cX6_stone 5 (some .int), Cond.fieldLink RX6 16 "GemMemos" "before" "LGemMemos$Market;", Cond.methodLink RX6 43 yX1_copyFrom, Cond.instanceMethod yX1_copyFrom, Cond.selects RX1 yX1_copyFrom yX1_copyFrom, Cond.code yX1_copyFrom cX1_copyFrom 2 none]
def wsL_acts_r6 : List Cond := [Cond.methodLink RX1 62 arraycopyName, Cond.native arraycopyName, Cond.static arraycopyName, Cond.initialized "java/lang/System", Cond.methodLink RX1 52 yX3_copyFrom, Cond.instanceMethod yX3_copyFrom, Cond.selects RX3 yX3_copyFrom yX3_copyFrom, Cond.code yX3_copyFrom cX3_copyFrom 2 none, Cond.methodLink RX3 26 arraycopyName, Cond.methodLink RX1 56 yX5_copyFrom, Cond.instanceMethod yX5_copyFrom, Cond.selects RX5 yX5_copyFrom yX5_copyFrom, Cond.code yX5_copyFrom cX5_copyFrom 2 none, Cond.methodLink RX5 64 arraycopyName, Cond.fieldLink RX5 19 "GemMemos$Stones" "colours" "[I", Cond.fieldLink RX5 22 "GemMemos$Stones" "clarities" "[I", Cond.fieldLink RX5 25 "GemMemos$Stones" "owners" "[I", Cond.fieldLink RX5 28 "GemMemos$Stones" "holders" "[I", Cond.fieldLink RX5 34 "GemMemos$Stones" "asked" "[I", Cond.fieldLink RX5 40 "GemMemos$Stones" "timesKept" "[I", Cond.methodLink RX1 59 yX2_copyFrom, Cond.instanceMethod yX2_copyFrom, Cond.selects RX2 yX2_copyFrom yX2_copyFrom, Cond.initialized RX2]
def wsL_acts_r7 : List Cond := [Cond.code yX2_copyFrom cX2_copyFrom 2 none, Cond.fieldLink RX2 9 "GemMemos$Memos" "count" "I", Cond.fieldLink RX2 15 "GemMemos$Memos" "lenders" "[I", Cond.methodLink RX2 31 arraycopyName, Cond.fieldLink RX2 19 "GemMemos$Memos" "takers" "[I", Cond.fieldLink RX2 22 "GemMemos$Memos" "lastDays" "[I", Cond.fieldLink RX2 25 "GemMemos$Memos" "lent" "[I", Cond.fieldLink RX2 28 "GemMemos$Memos" "kept" "[I", Cond.methodLink RX6 55 yX1_addStone, Cond.instanceMethod yX1_addStone, Cond.selects RX1 yX1_addStone yX1_addStone, Cond.code yX1_addStone cX1_addStone 6 (some .int), Cond.constant RX1 68 (-10000003), Cond.methodLink RX1 69 yX1_hasDealer, Cond.instanceMethod yX1_hasDealer, Cond.selects RX1 yX1_hasDealer yX1_hasDealer, Cond.code yX1_hasDealer cX1_hasDealer 2 (some .boolean), Cond.static yX6_isLook, Cond.code yX6_isLook cX6_isLook 2 (some .boolean), Cond.methodLink RX1 78 yX5_add, Cond.instanceMethod yX5_add, Cond.selects RX5 yX5_add yX5_add, Cond.code yX5_add cX5_add 6 (some .int), Cond.methodLink RX6 51 yX6_recorded]
def wsL_acts_r8 : List Cond := [Cond.instanceMethod yX6_recorded, Cond.selects RX6 yX6_recorded yX6_recorded, Cond.code yX6_recorded cX6_recorded 2 (some .int), Cond.methodLink RX6 159 yX0_push, Cond.instanceMethod yX0_push, Cond.selects RX0 yX0_push yX0_push, Cond.initialized RX0, Cond.code yX0_push cX0_push 3 none, Cond.fieldLink RX0 19 "GemMemos$History" "size" "I", Cond.fieldLink RX0 15 "GemMemos$History" "oldest" "I", Cond.fieldLink RX0 11 "GemMemos$History" "states" "[LGemMemos$Market;", Cond.methodLink RX0 23 yJ9_floorMod_7cf53, Cond.static yJ9_floorMod_7cf53, Cond.initialized RJ9, Cond.code yJ9_floorMod_7cf53 cJ9_floorMod_7cf53 3 (some .int), Cond.methodLink RX0 29 yX1_copyFrom, Cond.methodLink RL 70 yX6_dealer, Cond.instanceMethod yX6_dealer, Cond.selects RX6 yX6_dealer yX6_dealer, Cond.code yX6_dealer cX6_dealer 1 (some .int), Cond.methodLink RX6 47 yX1_addDealer, Cond.instanceMethod yX1_addDealer, Cond.selects RX1 yX1_addDealer yX1_addDealer, Cond.code yX1_addDealer cX1_addDealer 1 (some .int)]
def wsL_acts_r9 : List Cond := [Cond.methodLink RL 29 yX6_rateOf, Cond.instanceMethod yX6_rateOf, Cond.selects RX6 yX6_rateOf yX6_rateOf, Cond.code yX6_rateOf cX6_rateOf 6 (some .int), Cond.constant RX6 134 (-10000004), Cond.methodLink RX6 118 yX6_isGrade, Cond.static yX6_isGrade, Cond.code yX6_isGrade cX6_isGrade 3 (some .boolean), Cond.methodLink RX6 180 yX6_isLook, Cond.methodLink RX6 126 yX3_ownRate, Cond.instanceMethod yX3_ownRate, Cond.selects RX3 yX3_ownRate yX3_ownRate, Cond.code yX3_ownRate cX3_ownRate 5 (some .int), Cond.methodLink RX3 22 yX3_isEntryOf, Cond.instanceMethod yX3_isEntryOf, Cond.selects RX3 yX3_isEntryOf yX3_isEntryOf, Cond.code yX3_isEntryOf cX3_isEntryOf 5 (some .boolean), Cond.methodLink RX6 131 yX3_rateFor, Cond.methodLink RL 73 yX6_unrate, Cond.instanceMethod yX6_unrate, Cond.selects RX6 yX6_unrate yX6_unrate, Cond.code yX6_unrate cX6_unrate 4 (some .int), Cond.methodLink RX6 62 yX1_takeRate, Cond.instanceMethod yX1_takeRate]
def wsL_acts_r10 : List Cond := [Cond.selects RX1 yX1_takeRate yX1_takeRate, Cond.code yX1_takeRate cX1_takeRate 5 (some .int), Cond.constant RX1 97 (-10000002), Cond.methodLink RX1 86 yX3_ownRate, Cond.methodLink RX1 90 yX3_change, Cond.instanceMethod yX3_change, Cond.selects RX3 yX3_change yX3_change, Cond.code yX3_change cX3_change 6 none, Cond.methodLink RL 77 yX6_rate, Cond.instanceMethod yX6_rate, Cond.selects RX6 yX6_rate yX6_rate, Cond.code yX6_rate cX6_rate 5 (some .int), Cond.methodLink RX6 59 yX1_putRate, Cond.instanceMethod yX1_putRate, Cond.selects RX1 yX1_putRate yX1_putRate, Cond.code yX1_putRate cX1_putRate 6 (some .int), Cond.methodLink RX1 94 yX3_add, Cond.instanceMethod yX3_add, Cond.selects RX3 yX3_add yX3_add, Cond.code yX3_add cX3_add 6 (some .boolean), Cond.methodLink RL 80 yX6_lend, Cond.instanceMethod yX6_lend, Cond.selects RX6 yX6_lend yX6_lend, Cond.code yX6_lend cX6_lend 5 (some .int)]
def wsL_acts_r11 : List Cond := [Cond.methodLink RX6 66 yX1_lendStones, Cond.instanceMethod yX1_lendStones, Cond.selects RX1 yX1_lendStones yX1_lendStones, Cond.code yX1_lendStones cX1_lendStones 7 (some .int), Cond.methodLink RX1 101 yX1_canLend, Cond.instanceMethod yX1_canLend, Cond.selects RX1 yX1_canLend yX1_canLend, Cond.code yX1_canLend cX1_canLend 4 (some .boolean), Cond.methodLink RX1 104 yX2_add, Cond.instanceMethod yX2_add, Cond.selects RX2 yX2_add yX2_add, Cond.code yX2_add cX2_add 6 (some .int), Cond.methodLink RL 26 yX6_memoOf, Cond.instanceMethod yX6_memoOf, Cond.selects RX6 yX6_memoOf yX6_memoOf, Cond.code yX6_memoOf cX6_memoOf 3 (some .int), Cond.methodLink RX6 112 yX2_has, Cond.instanceMethod yX2_has, Cond.selects RX2 yX2_has yX2_has, Cond.code yX2_has cX2_has 2 (some .boolean), Cond.methodLink RX6 115 yX1_tellMemo, Cond.instanceMethod yX1_tellMemo, Cond.selects RX1 yX1_tellMemo yX1_tellMemo, Cond.code yX1_tellMemo cX1_tellMemo 3 (some .int)]
def wsL_acts_r12 : List Cond := [Cond.methodLink RX1 190 Lib.Math.max.name, Cond.static Lib.Math.max.name, Cond.initialized "java/lang/Math", Cond.code Lib.Math.max.name Lib.Math.max.code 2 (some .int), Cond.methodLink RL 83 yX6_back, Cond.instanceMethod yX6_back, Cond.selects RX6 yX6_back yX6_back, Cond.code yX6_back cX6_back 2 (some .int), Cond.methodLink RX6 69 yX1_giveBack, Cond.instanceMethod yX1_giveBack, Cond.selects RX1 yX1_giveBack yX1_giveBack, Cond.code yX1_giveBack cX1_giveBack 3 (some .int), Cond.methodLink RX1 117 yX5_has, Cond.methodLink RX1 130 yJ6_bitCount_0f7a4, Cond.static yJ6_bitCount_0f7a4, Cond.initialized RJ6, Cond.code yJ6_bitCount_0f7a4 cJ6_bitCount_0f7a4 1 (some .int), Cond.constant RJ6 265 (1431655765), Cond.constant RJ6 266 (858993459), Cond.constant RJ6 267 (252645135), Cond.methodLink RL 86 yX6_keep, Cond.instanceMethod yX6_keep, Cond.selects RX6 yX6_keep yX6_keep, Cond.code yX6_keep cX6_keep 2 (some .int)]
def wsL_acts_r13 : List Cond := [Cond.methodLink RX6 72 yX1_keepStone, Cond.instanceMethod yX1_keepStone, Cond.selects RX1 yX1_keepStone yX1_keepStone, Cond.code yX1_keepStone cX1_keepStone 3 (some .int), Cond.methodLink RX1 135 yX1_keepFor, Cond.instanceMethod yX1_keepFor, Cond.selects RX1 yX1_keepFor yX1_keepFor, Cond.code yX1_keepFor cX1_keepFor 6 none, Cond.methodLink RX1 218 yX2_has, Cond.methodLink RL 23 yX6_dealerOf, Cond.instanceMethod yX6_dealerOf, Cond.selects RX6 yX6_dealerOf yX6_dealerOf, Cond.code yX6_dealerOf cX6_dealerOf 3 (some .int), Cond.methodLink RX6 102 yX1_hasDealer, Cond.methodLink RX6 105 yX1_tellDealer, Cond.instanceMethod yX1_tellDealer, Cond.selects RX1 yX1_tellDealer yX1_tellDealer, Cond.code yX1_tellDealer cX1_tellDealer 3 (some .int), Cond.methodLink RX1 166 yX1_worthOf, Cond.instanceMethod yX1_worthOf, Cond.selects RX1 yX1_worthOf yX1_worthOf, Cond.code yX1_worthOf cX1_worthOf 5 (some .int), Cond.methodLink RX1 169 yX5_sumAsked, Cond.instanceMethod yX5_sumAsked]
def wsL_acts_r14 : List Cond := [Cond.selects RX5 yX5_sumAsked yX5_sumAsked, Cond.code yX5_sumAsked cX5_sumAsked 5 (some .int), Cond.methodLink RL 89 yX6_sell, Cond.instanceMethod yX6_sell, Cond.selects RX6 yX6_sell yX6_sell, Cond.code yX6_sell cX6_sell 3 (some .int), Cond.methodLink RX6 75 yX1_sellStone, Cond.instanceMethod yX1_sellStone, Cond.selects RX1 yX1_sellStone yX1_sellStone, Cond.code yX1_sellStone cX1_sellStone 4 (some .int), Cond.methodLink RL 92 yX6_grade, Cond.instanceMethod yX6_grade, Cond.selects RX6 yX6_grade yX6_grade, Cond.code yX6_grade cX6_grade 4 (some .int), Cond.methodLink RX6 79 yX1_regrade, Cond.instanceMethod yX1_regrade, Cond.selects RX1 yX1_regrade yX1_regrade, Cond.code yX1_regrade cX1_regrade 6 (some .int), Cond.methodLink RL 95 yX6_pause, Cond.instanceMethod yX6_pause, Cond.selects RX6 yX6_pause yX6_pause, Cond.code yX6_pause cX6_pause 2 (some .int), Cond.methodLink RX6 82 yX1_passDays, Cond.instanceMethod yX1_passDays]
def wsL_acts_r15 : List Cond := [Cond.selects RX1 yX1_passDays yX1_passDays, Cond.code yX1_passDays cX1_passDays 4 (some .int), Cond.methodLink RX1 152 yX1_keepLateOnes, Cond.instanceMethod yX1_keepLateOnes, Cond.selects RX1 yX1_keepLateOnes yX1_keepLateOnes, Cond.code yX1_keepLateOnes cX1_keepLateOnes 4 (some .int), Cond.methodLink RL 98 yX6_set, Cond.instanceMethod yX6_set, Cond.selects RX6 yX6_set yX6_set, Cond.code yX6_set cX6_set 3 (some .int), Cond.methodLink RX6 85 yX1_putSetting, Cond.instanceMethod yX1_putSetting, Cond.selects RX1 yX1_putSetting yX1_putSetting, Cond.code yX1_putSetting cX1_putSetting 4 (some .int), Cond.methodLink RL 101 yX6_mark, Cond.instanceMethod yX6_mark, Cond.selects RX6 yX6_mark yX6_mark, Cond.code yX6_mark cX6_mark 1 (some .int), Cond.fieldLink RX6 22 "GemMemos" "snapshot" "LGemMemos$Market;", Cond.methodLink RL 104 yX6_restore, Cond.instanceMethod yX6_restore, Cond.selects RX6 yX6_restore yX6_restore, Cond.code yX6_restore cX6_restore 1 (some .int), Cond.constant RX6 158 (-10000002)]
def wsL_acts_r16 : List Cond := [Cond.methodLink RL 107 yL_types, Cond.static yL_types, Cond.code yL_types cL_types 10 (some .boolean), Cond.methodLink RL 45 yX6_clearText, Cond.instanceMethod yX6_clearText, Cond.selects RX6 yX6_clearText yX6_clearText, Cond.code yX6_clearText cX6_clearText 2 (some .int), Cond.methodLink RL 49 yL_signs, Cond.static yL_signs, Cond.code yL_signs cL_signs 5 (some .boolean), Cond.methodLink RL 42 yX6_type, Cond.instanceMethod yX6_type, Cond.selects RX6 yX6_type yX6_type, Cond.code yX6_type cX6_type 2 (some .int), Cond.methodLink RX6 165 yX4_append, Cond.instanceMethod yX4_append, Cond.selects RX4 yX4_append yX4_append, Cond.initialized RX4, Cond.code yX4_append cX4_append 2 (some .int), Cond.fieldLink RX4 15 "GemMemos$Script" "length" "I", Cond.constant RX4 38 (-10000003), Cond.fieldLink RX4 11 "GemMemos$Script" "signs" "[C", Cond.methodLink RL 53 yL_digits, Cond.static yL_digits]
def wsL_acts_r17 : List Cond := [Cond.code yL_digits cL_digits 3 (some .boolean), Cond.methodLink RL 110 yL_reads, Cond.static yL_reads, Cond.code yL_reads cL_reads 8 (some .boolean), Cond.constant RL 63 (-10000004), Cond.methodLink RL 57 yX6_fault, Cond.instanceMethod yX6_fault, Cond.selects RX6 yX6_fault yX6_fault, Cond.code yX6_fault cX6_fault 2 (some .int), Cond.fieldLink RX6 19 "GemMemos" "trial" "LGemMemos$Market;", Cond.methodLink RX6 169 yX4_runOn, Cond.instanceMethod yX4_runOn, Cond.selects RX4 yX4_runOn yX4_runOn, Cond.code yX4_runOn cX4_runOn 5 (some .int), Cond.fieldLink RX4 29 "GemMemos$Script" "faultAt" "I", Cond.constant RX4 39 (-10000004), Cond.fieldLink RX4 26 "GemMemos$Script" "next" "I", Cond.methodLink RX4 40 yX4_readCommand, Cond.instanceMethod yX4_readCommand, Cond.selects RX4 yX4_readCommand yX4_readCommand, Cond.code yX4_readCommand cX4_readCommand 4 (some .boolean), Cond.fieldLink RX4 19 "GemMemos$Script" "kind" "I", Cond.methodLink RX4 88 yX4_wordOf, Cond.static yX4_wordOf]
def wsL_acts_r18 : List Cond := [Cond.code yX4_wordOf cX4_wordOf 1 (some (.object "java/lang/String")), Cond.methodLink RX4 92 yX4_isWordAt, Cond.instanceMethod yX4_isWordAt, Cond.selects RX4 yX4_isWordAt yX4_isWordAt, Cond.code yX4_isWordAt cX4_isWordAt 4 (some .boolean), Cond.methodLink RX4 96 yJ0_length_8abf5, Cond.instanceMethod yJ0_length_8abf5, Cond.selects RJ0 yJ0_length_8abf5 yJ0_length_8abf5, Cond.initialized RJ0, Cond.code yJ0_length_8abf5 cJ0_length_8abf5 1 (some .int), Cond.fieldLink RJ0 9 "java/lang/String" "value" "[B", Cond.methodLink RJ0 335 yJ0_coder_7d493, Cond.instanceMethod yJ0_coder_7d493, Cond.selects RJ0 yJ0_coder_7d493 yJ0_coder_7d493, Cond.code yJ0_coder_7d493 cJ0_coder_7d493 1 (some .byte), Cond.fieldLink RJ0 38 "java/lang/String" "COMPACT_STRINGS" "Z", Cond.fieldLink RJ0 15 "java/lang/String" "coder" "B", Cond.methodLink RX4 122 yX4_signAt, Cond.instanceMethod yX4_signAt, Cond.selects RX4 yX4_signAt yX4_signAt, Cond.code yX4_signAt cX4_signAt 2 (some .char), Cond.methodLink RX4 126 yJ0_charAt_5068e, Cond.instanceMethod yJ0_charAt_5068e, Cond.selects RJ0 yJ0_charAt_5068e yJ0_charAt_5068e]
def wsL_acts_r19 : List Cond := [Cond.code yJ0_charAt_5068e cJ0_charAt_5068e 2 (some .char), Cond.methodLink RJ0 492 yJ0_isLatin1_aae02, Cond.instanceMethod yJ0_isLatin1_aae02, Cond.selects RJ0 yJ0_isLatin1_aae02 yJ0_isLatin1_aae02, Cond.code yJ0_isLatin1_aae02 cJ0_isLatin1_aae02 1 (some .boolean), Cond.methodLink RJ0 495 yJ1_charAt_3b067, Cond.static yJ1_charAt_3b067, Cond.initialized RJ1, Cond.code yJ1_charAt_3b067 cJ1_charAt_3b067 2 (some .char), Cond.methodLink RJ1 9 yJ0_checkIndex_df160, Cond.static yJ0_checkIndex_df160, Cond.code yJ0_checkIndex_df160 cJ0_checkIndex_df160 2 none, Cond.fieldLink RJ0 1053 "jdk/internal/util/Preconditions" "SIOOBE_FORMATTER" "Ljava/util/function/BiFunction;", Cond.methodLink RJ0 1059 yJ3_checkIndex_8e157, Cond.static yJ3_checkIndex_8e157, Cond.initialized RJ3, Cond.code yJ3_checkIndex_8e157 cJ3_checkIndex_8e157 3 (some .int), Cond.methodLink RJ0 498 yJ2_charAt_3b067, Cond.static yJ2_charAt_3b067, Cond.initialized RJ2, Cond.code yJ2_charAt_3b067 cJ2_charAt_3b067 2 (some .char), Cond.methodLink RJ2 67 yJ2_checkIndex_2214a, Cond.static yJ2_checkIndex_2214a, Cond.code yJ2_checkIndex_2214a cJ2_checkIndex_2214a 2 none]
def wsL_acts_r20 : List Cond := [Cond.methodLink RJ2 48 yJ2_length_9d52b, Cond.static yJ2_length_9d52b, Cond.code yJ2_length_9d52b cJ2_length_9d52b 1 (some .int), Cond.methodLink RJ2 414 yJ0_checkIndex_df160, Cond.methodLink RJ2 71 yJ2_getChar_3b067, Cond.static yJ2_getChar_3b067, Cond.code yJ2_getChar_3b067 cJ2_getChar_3b067 2 (some .char), Cond.fieldLink RJ2 44 "java/lang/StringUTF16" "$assertionsDisabled" "Z", Cond.fieldLink RJ2 59 "java/lang/StringUTF16" "HI_BYTE_SHIFT" "I", Cond.fieldLink RJ2 63 "java/lang/StringUTF16" "LO_BYTE_SHIFT" "I", Cond.methodLink RX4 101 yX4_howManyNumbers, Cond.static yX4_howManyNumbers, Cond.code yX4_howManyNumbers cX4_howManyNumbers 1 (some .int), Cond.methodLink RX4 104 yX4_readNumbers, Cond.instanceMethod yX4_readNumbers, Cond.selects RX4 yX4_readNumbers yX4_readNumbers, Cond.code yX4_readNumbers cX4_readNumbers 6 (some .boolean), Cond.fieldLink RX4 22 "GemMemos$Script" "numbers" "[I", Cond.methodLink RX4 129 yX4_digitsAt, Cond.instanceMethod yX4_digitsAt, Cond.selects RX4 yX4_digitsAt yX4_digitsAt, Cond.code yX4_digitsAt cX4_digitsAt 3 (some .int), Cond.methodLink RX4 135 yX4_isDigit, Cond.static yX4_isDigit]
def wsL_acts_r21 : List Cond := [Cond.code yX4_isDigit cX4_isDigit 1 (some .boolean), Cond.methodLink RX4 132 yX4_valueAt, Cond.instanceMethod yX4_valueAt, Cond.selects RX4 yX4_valueAt yX4_valueAt, Cond.code yX4_valueAt cX4_valueAt 5 (some .int), Cond.methodLink RX4 44 yX4_putFault, Cond.instanceMethod yX4_putFault, Cond.selects RX4 yX4_putFault yX4_putFault, Cond.code yX4_putFault cX4_putFault 4 none, Cond.fieldLink RX4 32 "GemMemos$Script" "reason" "I", Cond.fieldLink RX4 35 "GemMemos$Script" "cause" "I", Cond.methodLink RX4 48 yX4_perform, Cond.instanceMethod yX4_perform, Cond.selects RX4 yX4_perform yX4_perform, Cond.code yX4_perform cX4_perform 7 (some .int), Cond.methodLink RX4 58 yX5_has, Cond.methodLink RX4 63 yX1_lendStones, Cond.methodLink RX4 67 yX1_giveBack, Cond.methodLink RX4 71 yX1_keepStone, Cond.methodLink RX4 74 yX1_sellStone, Cond.methodLink RX4 78 yX1_regrade, Cond.methodLink RX4 82 yX1_putRate, Cond.methodLink RX4 85 yX1_passDays, Cond.methodLink RX6 173 yX4_tellFault]
def wsL_acts_r22 : List Cond := [Cond.instanceMethod yX4_tellFault, Cond.selects RX4 yX4_tellFault yX4_tellFault, Cond.code yX4_tellFault cX4_tellFault 2 (some .int), Cond.methodLink RL 60 yX6_play, Cond.instanceMethod yX6_play, Cond.selects RX6 yX6_play yX6_play, Cond.code yX6_play cX6_play 2 (some .int), Cond.methodLink RX6 176 yX4_hasFault, Cond.instanceMethod yX4_hasFault, Cond.selects RX4 yX4_hasFault yX4_hasFault, Cond.code yX4_hasFault cX4_hasFault 1 (some .boolean)]
def wsL_acts : List Cond := .code yL_acts cL_acts 17 (some .boolean) :: ((wsL_acts_r1 ++ (wsL_acts_r2 ++ (wsL_acts_r3 ++ (wsL_acts_r4 ++ (wsL_acts_r5 ++ (wsL_acts_r6 ++ (wsL_acts_r7 ++ (wsL_acts_r8 ++ (wsL_acts_r9 ++ (wsL_acts_r10 ++ (wsL_acts_r11 ++ (wsL_acts_r12 ++ (wsL_acts_r13 ++ (wsL_acts_r14 ++ (wsL_acts_r15 ++ (wsL_acts_r16 ++ (wsL_acts_r17 ++ (wsL_acts_r18 ++ (wsL_acts_r19 ++ (wsL_acts_r20 ++ (wsL_acts_r21 ++ wsL_acts_r22))))))))))))))))))))) ++ wsX60 ++ wsX00 ++ wsX40 ++ wsX10 ++ wsX50 ++ wsX20 ++ wsX30)
def wsL_law_r1 : List Cond := [Cond.classLink RL 14 RX6, Cond.instantiable RX6 7, Cond.initialized RX6, Cond.constant RL 64 (-10000002), Cond.methodLink RL 114 yX6_init, Cond.instanceMethod yX6_init, Cond.code yX6_init cX6_init 1 none, Cond.methodLink RX6 1 objectInit, Cond.instanceMethod objectInit, Cond.code objectInit ⟨#[0xb1]⟩ 1 none, Cond.classLink RX6 7 RX1, Cond.instantiable RX1 9, Cond.initialized RX1, Cond.fieldLink RX6 10 "GemMemos" "now" "LGemMemos$Market;", Cond.fieldLink RX6 16 "GemMemos" "before" "LGemMemos$Market;", Cond.fieldLink RX6 19 "GemMemos" "trial" "LGemMemos$Market;", Cond.fieldLink RX6 22 "GemMemos" "snapshot" "LGemMemos$Market;", Cond.classLink RX6 25 RX0, Cond.instantiable RX0 3, Cond.initialized RX0, Cond.fieldLink RX6 28 "GemMemos" "history" "LGemMemos$History;", Cond.classLink RX6 32 RX4, Cond.instantiable RX4 8, Cond.initialized RX4]
def wsL_law_r2 : List Cond := [Cond.fieldLink RX6 35 "GemMemos" "script" "LGemMemos$Script;", Cond.fieldLink RX6 39 "GemMemos" "hasSnapshot" "Z", Cond.instanceMethod yX1_init, Cond.code yX1_init cX1_init 1 none, Cond.methodLink RX1 3 objectInit, Cond.classLink RX1 9 RX3, Cond.instantiable RX3 4, Cond.initialized RX3, Cond.fieldLink RX1 12 "GemMemos$Market" "prices" "LGemMemos$Prices;", Cond.classLink RX1 18 RX5, Cond.instantiable RX5 10, Cond.initialized RX5, Cond.fieldLink RX1 21 "GemMemos$Market" "stones" "LGemMemos$Stones;", Cond.classLink RX1 25 RX2, Cond.instantiable RX2 6, Cond.initialized RX2, Cond.fieldLink RX1 28 "GemMemos$Market" "memos" "LGemMemos$Memos;", Cond.arrayClass .int, Cond.fieldLink RX1 32 "GemMemos$Market" "balances" "[I", Cond.fieldLink RX1 36 "GemMemos$Market" "dealers" "I", Cond.fieldLink RX1 40 "GemMemos$Market" "time" "I", Cond.fieldLink RX1 43 "GemMemos$Market" "grace" "I", Cond.fieldLink RX1 46 "GemMemos$Market" "extra" "I", Cond.fieldLink RX1 49 "GemMemos$Market" "keptLate" "I"]
def wsL_law_r3 : List Cond := [Cond.instanceMethod yX3_init, Cond.code yX3_init cX3_init 1 none, Cond.methodLink RX3 1 objectInit, Cond.fieldLink RX3 9 "GemMemos$Prices" "sieves" "[I", Cond.fieldLink RX3 13 "GemMemos$Prices" "colours" "[I", Cond.fieldLink RX3 16 "GemMemos$Prices" "clarities" "[I", Cond.fieldLink RX3 19 "GemMemos$Prices" "coins" "[I", Cond.instanceMethod yX5_init, Cond.code yX5_init cX5_init 1 none, Cond.methodLink RX5 3 objectInit, Cond.fieldLink RX5 9 "GemMemos$Stones" "count" "I", Cond.fieldLink RX5 15 "GemMemos$Stones" "weights" "[I", Cond.fieldLink RX5 19 "GemMemos$Stones" "colours" "[I", Cond.fieldLink RX5 22 "GemMemos$Stones" "clarities" "[I", Cond.fieldLink RX5 25 "GemMemos$Stones" "owners" "[I", Cond.fieldLink RX5 28 "GemMemos$Stones" "holders" "[I", Cond.fieldLink RX5 31 "GemMemos$Stones" "memos" "[I", Cond.fieldLink RX5 34 "GemMemos$Stones" "asked" "[I", Cond.fieldLink RX5 37 "GemMemos$Stones" "soldFor" "[I", Cond.fieldLink RX5 40 "GemMemos$Stones" "timesKept" "[I", Cond.instanceMethod yX2_init, Cond.code yX2_init cX2_init 1 none, Cond.methodLink RX2 3 objectInit, Cond.fieldLink RX2 9 "GemMemos$Memos" "count" "I"]
def wsL_law_r4 : List Cond := [Cond.fieldLink RX2 15 "GemMemos$Memos" "lenders" "[I", Cond.fieldLink RX2 19 "GemMemos$Memos" "takers" "[I", Cond.fieldLink RX2 22 "GemMemos$Memos" "lastDays" "[I", Cond.fieldLink RX2 25 "GemMemos$Memos" "lent" "[I", Cond.fieldLink RX2 28 "GemMemos$Memos" "kept" "[I", Cond.methodLink RX6 27 yX0_init, Cond.instanceMethod yX0_init, Cond.code yX0_init cX0_init 2 none, Cond.methodLink RX0 1 objectInit, Cond.classLink RX0 9 RX1, Cond.fieldLink RX0 11 "GemMemos$History" "states" "[LGemMemos$Market;", Cond.fieldLink RX0 15 "GemMemos$History" "oldest" "I", Cond.fieldLink RX0 19 "GemMemos$History" "size" "I", Cond.instanceMethod yX4_init, Cond.code yX4_init cX4_init 1 none, Cond.methodLink RX4 3 objectInit, Cond.arrayClass .char, Cond.fieldLink RX4 11 "GemMemos$Script" "signs" "[C", Cond.fieldLink RX4 15 "GemMemos$Script" "length" "I", Cond.fieldLink RX4 19 "GemMemos$Script" "kind" "I", Cond.fieldLink RX4 22 "GemMemos$Script" "numbers" "[I", Cond.fieldLink RX4 26 "GemMemos$Script" "next" "I", Cond.fieldLink RX4 29 "GemMemos$Script" "faultAt" "I", Cond.fieldLink RX4 32 "GemMemos$Script" "reason" "I"]
def wsL_law_r5 : List Cond := [Cond.fieldLink RX4 35 "GemMemos$Script" "cause" "I", Cond.methodLink RL 115 yL_holds, Cond.static yL_holds, Cond.initialized RL, Cond.code yL_holds cL_holds 7 (some .boolean), Cond.constant RL 41 (100000000), Cond.methodLink RL 29 yX6_rateOf, Cond.instanceMethod yX6_rateOf, Cond.selects RX6 yX6_rateOf yX6_rateOf, Cond.code yX6_rateOf cX6_rateOf 6 (some .int), Cond.constant RX6 98 (-10000001), Cond.constant RX6 134 (-10000004), Cond.methodLink RX6 118 yX6_isGrade, Cond.static yX6_isGrade, Cond.code yX6_isGrade cX6_isGrade 3 (some .boolean), Cond.methodLink RX6 180 yX6_isLook, Cond.static yX6_isLook, Cond.code yX6_isLook cX6_isLook 2 (some .boolean), Cond.methodLink RX6 126 yX3_ownRate, Cond.instanceMethod yX3_ownRate, Cond.selects RX3 yX3_ownRate yX3_ownRate, Cond.code yX3_ownRate cX3_ownRate 5 (some .int), Cond.methodLink RX3 22 yX3_isEntryOf, Cond.instanceMethod yX3_isEntryOf]
def wsL_law_r6 : List Cond := [Cond.selects RX3 yX3_isEntryOf yX3_isEntryOf, Cond.code yX3_isEntryOf cX3_isEntryOf 5 (some .boolean), Cond.methodLink RX6 131 yX3_rateFor, Cond.instanceMethod yX3_rateFor, Cond.selects RX3 yX3_rateFor yX3_rateFor, Cond.code yX3_rateFor cX3_rateFor 6 (some .int), Cond.methodLink RL 13 yX6_count, Cond.instanceMethod yX6_count, Cond.selects RX6 yX6_count yX6_count, Cond.code yX6_count cX6_count 2 (some .int), Cond.methodLink RX6 142 yX1_tellNumber, Cond.instanceMethod yX1_tellNumber, Cond.selects RX1 yX1_tellNumber yX1_tellNumber, Cond.code yX1_tellNumber cX1_tellNumber 2 (some .int), Cond.constant RX1 145 (100000000), Cond.constant RX1 77 (-10000001), Cond.methodLink RX1 196 yX5_countSold, Cond.instanceMethod yX5_countSold, Cond.selects RX5 yX5_countSold yX5_countSold, Cond.code yX5_countSold cX5_countSold 3 (some .int), Cond.methodLink RX5 43 yX5_isSold, Cond.instanceMethod yX5_isSold, Cond.selects RX5 yX5_isSold yX5_isSold, Cond.code yX5_isSold cX5_isSold 2 (some .boolean)]
def wsL_law_r7 : List Cond := [Cond.methodLink RX1 199 yX5_countOut, Cond.instanceMethod yX5_countOut, Cond.selects RX5 yX5_countOut yX5_countOut, Cond.code yX5_countOut cX5_countOut 3 (some .int), Cond.methodLink RX5 47 yX5_isOut, Cond.instanceMethod yX5_isOut, Cond.selects RX5 yX5_isOut yX5_isOut, Cond.code yX5_isOut cX5_isOut 2 (some .boolean), Cond.methodLink RX1 203 yX1_countOpen, Cond.instanceMethod yX1_countOpen, Cond.selects RX1 yX1_countOpen yX1_countOpen, Cond.code yX1_countOpen cX1_countOpen 3 (some .int), Cond.methodLink RX1 187 yX1_isOpen, Cond.instanceMethod yX1_isOpen, Cond.selects RX1 yX1_isOpen yX1_isOpen, Cond.code yX1_isOpen cX1_isOpen 2 (some .boolean), Cond.methodLink RX1 126 yX5_setWhere, Cond.instanceMethod yX5_setWhere, Cond.selects RX5 yX5_setWhere yX5_setWhere, Cond.code yX5_setWhere cX5_setWhere 5 (some .int), Cond.methodLink RX1 206 yX3_entries, Cond.instanceMethod yX3_entries, Cond.selects RX3 yX3_entries yX3_entries, Cond.code yX3_entries cX3_entries 3 (some .int)]
def wsL_law_r8 : List Cond := [Cond.methodLink RX1 209 yX1_sumOfBalances, Cond.instanceMethod yX1_sumOfBalances, Cond.selects RX1 yX1_sumOfBalances yX1_sumOfBalances, Cond.code yX1_sumOfBalances cX1_sumOfBalances 3 (some .int), Cond.methodLink RX1 212 yX5_sumSold, Cond.instanceMethod yX5_sumSold, Cond.selects RX5 yX5_sumSold yX5_sumSold, Cond.code yX5_sumSold cX5_sumSold 3 (some .int), Cond.methodLink RL 26 yX6_memoOf, Cond.instanceMethod yX6_memoOf, Cond.selects RX6 yX6_memoOf yX6_memoOf, Cond.code yX6_memoOf cX6_memoOf 3 (some .int), Cond.methodLink RX6 112 yX2_has, Cond.instanceMethod yX2_has, Cond.selects RX2 yX2_has yX2_has, Cond.code yX2_has cX2_has 2 (some .boolean), Cond.methodLink RX6 115 yX1_tellMemo, Cond.instanceMethod yX1_tellMemo, Cond.selects RX1 yX1_tellMemo yX1_tellMemo, Cond.code yX1_tellMemo cX1_tellMemo 3 (some .int), Cond.methodLink RX1 190 Lib.Math.max.name, Cond.static Lib.Math.max.name, Cond.initialized "java/lang/Math", Cond.code Lib.Math.max.name Lib.Math.max.code 2 (some .int)]
def wsL_law_r9 : List Cond := [Cond.methodLink RL 19 yX6_stoneOf, Cond.instanceMethod yX6_stoneOf, Cond.selects RX6 yX6_stoneOf yX6_stoneOf, Cond.code yX6_stoneOf cX6_stoneOf 3 (some .int), Cond.methodLink RX6 92 yX5_has, Cond.instanceMethod yX5_has, Cond.selects RX5 yX5_has yX5_has, Cond.code yX5_has cX5_has 2 (some .boolean), Cond.methodLink RX6 99 yX1_tellStone, Cond.instanceMethod yX1_tellStone, Cond.selects RX1 yX1_tellStone yX1_tellStone, Cond.code yX1_tellStone cX1_tellStone 4 (some .int), Cond.constant RX1 162 (-10000004), Cond.methodLink RX1 159 yX5_sieveOf, Cond.instanceMethod yX5_sieveOf, Cond.selects RX5 yX5_sieveOf yX5_sieveOf, Cond.code yX5_sieveOf cX5_sieveOf 3 (some .int), Cond.methodLink RX1 139 yX5_isSold, Cond.methodLink RX1 113 yX1_priceOf, Cond.instanceMethod yX1_priceOf, Cond.selects RX1 yX1_priceOf yX1_priceOf, Cond.code yX1_priceOf cX1_priceOf 3 (some .int), Cond.methodLink RX1 215 yX3_rateFor, Cond.methodLink RX1 120 yX5_isOut]
def wsL_law_r10 : List Cond := [Cond.methodLink RL 33 yL_low, Cond.static yL_low, Cond.code yL_low cL_low 2 (some .int), Cond.constant RL 8 (2147483647), Cond.methodLink RL 38 yX6_grades, Cond.instanceMethod yX6_grades, Cond.selects RX6 yX6_grades yX6_grades, Cond.code yX6_grades cX6_grades 2 (some .int), Cond.methodLink RX6 102 yX1_hasDealer, Cond.instanceMethod yX1_hasDealer, Cond.selects RX1 yX1_hasDealer yX1_hasDealer, Cond.code yX1_hasDealer cX1_hasDealer 2 (some .boolean), Cond.methodLink RX6 152 yX5_unlikeGrades, Cond.instanceMethod yX5_unlikeGrades, Cond.selects RX5 yX5_unlikeGrades yX5_unlikeGrades, Cond.code yX5_unlikeGrades cX5_unlikeGrades 4 (some .int), Cond.methodLink RX5 61 yX5_hasLikeBefore, Cond.instanceMethod yX5_hasLikeBefore, Cond.selects RX5 yX5_hasLikeBefore yX5_hasLikeBefore, Cond.code yX5_hasLikeBefore cX5_hasLikeBefore 4 (some .boolean), Cond.methodLink RX5 56 yX5_sameGrade, Cond.instanceMethod yX5_sameGrade, Cond.selects RX5 yX5_sameGrade yX5_sameGrade, Cond.code yX5_sameGrade cX5_sameGrade 3 (some .boolean)]
def wsL_law_r11 : List Cond := [Cond.methodLink RX5 70 yX5_sieveOf, Cond.methodLink RL 118 yX6_undo, Cond.instanceMethod yX6_undo, Cond.selects RX6 yX6_undo yX6_undo, Cond.code yX6_undo cX6_undo 1 (some .int), Cond.constant RX6 158 (-10000002), Cond.methodLink RX6 162 yX0_popInto, Cond.instanceMethod yX0_popInto, Cond.selects RX0 yX0_popInto yX0_popInto, Cond.code yX0_popInto cX0_popInto 3 none, Cond.methodLink RX0 23 yJ9_floorMod_7cf53, Cond.static yJ9_floorMod_7cf53, Cond.initialized RJ9, Cond.code yJ9_floorMod_7cf53 cJ9_floorMod_7cf53 3 (some .int), Cond.methodLink RX0 29 yX1_copyFrom, Cond.instanceMethod yX1_copyFrom, Cond.selects RX1 yX1_copyFrom yX1_copyFrom, Cond.code yX1_copyFrom cX1_copyFrom 2 none, Cond.methodLink RX1 62 arraycopyName, Cond.native arraycopyName, Cond.static arraycopyName, Cond.initialized "java/lang/System", Cond.methodLink RX1 52 yX3_copyFrom, Cond.instanceMethod yX3_copyFrom]
def wsL_law_r12 : List Cond := [Cond.selects RX3 yX3_copyFrom yX3_copyFrom, Cond.code yX3_copyFrom cX3_copyFrom 2 none, Cond.methodLink RX3 26 arraycopyName, Cond.methodLink RX1 56 yX5_copyFrom, Cond.instanceMethod yX5_copyFrom, Cond.selects RX5 yX5_copyFrom yX5_copyFrom, Cond.code yX5_copyFrom cX5_copyFrom 2 none, Cond.methodLink RX5 64 arraycopyName, Cond.methodLink RX1 59 yX2_copyFrom, Cond.instanceMethod yX2_copyFrom, Cond.selects RX2 yX2_copyFrom yX2_copyFrom, Cond.code yX2_copyFrom cX2_copyFrom 2 none, Cond.methodLink RX2 31 arraycopyName, Cond.methodLink RL 70 yX6_dealer, Cond.instanceMethod yX6_dealer, Cond.selects RX6 yX6_dealer yX6_dealer, Cond.code yX6_dealer cX6_dealer 1 (some .int), Cond.methodLink RX6 43 yX1_copyFrom, Cond.methodLink RX6 47 yX1_addDealer, Cond.instanceMethod yX1_addDealer, Cond.selects RX1 yX1_addDealer yX1_addDealer, Cond.code yX1_addDealer cX1_addDealer 1 (some .int), Cond.constant RX1 68 (-10000003), Cond.methodLink RX6 51 yX6_recorded]
def wsL_law_r13 : List Cond := [Cond.instanceMethod yX6_recorded, Cond.selects RX6 yX6_recorded yX6_recorded, Cond.code yX6_recorded cX6_recorded 2 (some .int), Cond.methodLink RX6 159 yX0_push, Cond.instanceMethod yX0_push, Cond.selects RX0 yX0_push yX0_push, Cond.code yX0_push cX0_push 3 none, Cond.methodLink RL 66 yX6_stone, Cond.instanceMethod yX6_stone, Cond.selects RX6 yX6_stone yX6_stone, Cond.code yX6_stone cX6_stone 5 (some .int), Cond.methodLink RX6 55 yX1_addStone, Cond.instanceMethod yX1_addStone, Cond.selects RX1 yX1_addStone yX1_addStone, Cond.code yX1_addStone cX1_addStone 6 (some .int), Cond.methodLink RX1 69 yX1_hasDealer, Cond.methodLink RX1 78 yX5_add, Cond.instanceMethod yX5_add, Cond.selects RX5 yX5_add yX5_add, Cond.code yX5_add cX5_add 6 (some .int), Cond.methodLink RL 77 yX6_rate, Cond.instanceMethod yX6_rate, Cond.selects RX6 yX6_rate yX6_rate, Cond.code yX6_rate cX6_rate 5 (some .int)]
def wsL_law_r14 : List Cond := [Cond.methodLink RX6 59 yX1_putRate, Cond.instanceMethod yX1_putRate, Cond.selects RX1 yX1_putRate yX1_putRate, Cond.code yX1_putRate cX1_putRate 6 (some .int), Cond.methodLink RX1 86 yX3_ownRate, Cond.methodLink RX1 90 yX3_change, Cond.instanceMethod yX3_change, Cond.selects RX3 yX3_change yX3_change, Cond.code yX3_change cX3_change 6 none, Cond.methodLink RX1 94 yX3_add, Cond.instanceMethod yX3_add, Cond.selects RX3 yX3_add yX3_add, Cond.code yX3_add cX3_add 6 (some .boolean), Cond.methodLink RL 121 yL_lot, Cond.static yL_lot, Cond.code yL_lot cL_lot 2 (some .int), Cond.constant RL 7 (-573577877), Cond.methodLink RL 125 yL_digest, Cond.static yL_digest, Cond.code yL_digest cL_digest 4 (some .long), Cond.constantLong RL 9 (71), Cond.constantLong RL 11 (31), Cond.methodLink RL 23 yX6_dealerOf, Cond.instanceMethod yX6_dealerOf]
def wsL_law_r15 : List Cond := [Cond.selects RX6 yX6_dealerOf yX6_dealerOf, Cond.code yX6_dealerOf cX6_dealerOf 3 (some .int), Cond.methodLink RX6 105 yX1_tellDealer, Cond.instanceMethod yX1_tellDealer, Cond.selects RX1 yX1_tellDealer yX1_tellDealer, Cond.code yX1_tellDealer cX1_tellDealer 3 (some .int), Cond.methodLink RX1 166 yX1_worthOf, Cond.instanceMethod yX1_worthOf, Cond.selects RX1 yX1_worthOf yX1_worthOf, Cond.code yX1_worthOf cX1_worthOf 5 (some .int), Cond.methodLink RX1 169 yX5_sumAsked, Cond.instanceMethod yX5_sumAsked, Cond.selects RX5 yX5_sumAsked yX5_sumAsked, Cond.code yX5_sumAsked cX5_sumAsked 5 (some .int), Cond.methodLink RL 129 yL_acts, Cond.static yL_acts, Cond.code yL_acts cL_acts 17 (some .boolean), Cond.constant RL 65 (-10000001), Cond.constant RL 69 (-10000003), Cond.methodLink RL 73 yX6_unrate, Cond.instanceMethod yX6_unrate, Cond.selects RX6 yX6_unrate yX6_unrate, Cond.code yX6_unrate cX6_unrate 4 (some .int), Cond.methodLink RX6 62 yX1_takeRate]
def wsL_law_r16 : List Cond := [Cond.instanceMethod yX1_takeRate, Cond.selects RX1 yX1_takeRate yX1_takeRate, Cond.code yX1_takeRate cX1_takeRate 5 (some .int), Cond.constant RX1 97 (-10000002), Cond.methodLink RL 80 yX6_lend, Cond.instanceMethod yX6_lend, Cond.selects RX6 yX6_lend yX6_lend, Cond.code yX6_lend cX6_lend 5 (some .int), Cond.methodLink RX6 66 yX1_lendStones, Cond.instanceMethod yX1_lendStones, Cond.selects RX1 yX1_lendStones yX1_lendStones, Cond.code yX1_lendStones cX1_lendStones 7 (some .int), Cond.methodLink RX1 101 yX1_canLend, Cond.instanceMethod yX1_canLend, Cond.selects RX1 yX1_canLend yX1_canLend, Cond.code yX1_canLend cX1_canLend 4 (some .boolean), Cond.methodLink RX1 104 yX2_add, Cond.instanceMethod yX2_add, Cond.selects RX2 yX2_add yX2_add, Cond.code yX2_add cX2_add 6 (some .int), Cond.methodLink RL 83 yX6_back, Cond.instanceMethod yX6_back, Cond.selects RX6 yX6_back yX6_back, Cond.code yX6_back cX6_back 2 (some .int)]
def wsL_law_r17 : List Cond := [Cond.methodLink RX6 69 yX1_giveBack, Cond.instanceMethod yX1_giveBack, Cond.selects RX1 yX1_giveBack yX1_giveBack, Cond.code yX1_giveBack cX1_giveBack 3 (some .int), Cond.methodLink RX1 117 yX5_has, Cond.methodLink RX1 130 yJ6_bitCount_0f7a4, Cond.static yJ6_bitCount_0f7a4, Cond.initialized RJ6, Cond.code yJ6_bitCount_0f7a4 cJ6_bitCount_0f7a4 1 (some .int), Cond.constant RJ6 265 (1431655765), Cond.constant RJ6 266 (858993459), Cond.constant RJ6 267 (252645135), Cond.methodLink RL 86 yX6_keep, Cond.instanceMethod yX6_keep, Cond.selects RX6 yX6_keep yX6_keep, Cond.code yX6_keep cX6_keep 2 (some .int), Cond.methodLink RX6 72 yX1_keepStone, Cond.instanceMethod yX1_keepStone, Cond.selects RX1 yX1_keepStone yX1_keepStone, Cond.code yX1_keepStone cX1_keepStone 3 (some .int), Cond.methodLink RX1 135 yX1_keepFor, Cond.instanceMethod yX1_keepFor, Cond.selects RX1 yX1_keepFor yX1_keepFor, Cond.code yX1_keepFor cX1_keepFor 6 none]
def wsL_law_r18 : List Cond := [Cond.methodLink RX1 218 yX2_has, Cond.methodLink RL 89 yX6_sell, Cond.instanceMethod yX6_sell, Cond.selects RX6 yX6_sell yX6_sell, Cond.code yX6_sell cX6_sell 3 (some .int), Cond.methodLink RX6 75 yX1_sellStone, Cond.instanceMethod yX1_sellStone, Cond.selects RX1 yX1_sellStone yX1_sellStone, Cond.code yX1_sellStone cX1_sellStone 4 (some .int), Cond.methodLink RL 92 yX6_grade, Cond.instanceMethod yX6_grade, Cond.selects RX6 yX6_grade yX6_grade, Cond.code yX6_grade cX6_grade 4 (some .int), Cond.methodLink RX6 79 yX1_regrade, Cond.instanceMethod yX1_regrade, Cond.selects RX1 yX1_regrade yX1_regrade, Cond.code yX1_regrade cX1_regrade 6 (some .int), Cond.methodLink RL 95 yX6_pause, Cond.instanceMethod yX6_pause, Cond.selects RX6 yX6_pause yX6_pause, Cond.code yX6_pause cX6_pause 2 (some .int), Cond.methodLink RX6 82 yX1_passDays, Cond.instanceMethod yX1_passDays, Cond.selects RX1 yX1_passDays yX1_passDays]
def wsL_law_r19 : List Cond := [Cond.code yX1_passDays cX1_passDays 4 (some .int), Cond.methodLink RX1 152 yX1_keepLateOnes, Cond.instanceMethod yX1_keepLateOnes, Cond.selects RX1 yX1_keepLateOnes yX1_keepLateOnes, Cond.code yX1_keepLateOnes cX1_keepLateOnes 4 (some .int), Cond.methodLink RL 98 yX6_set, Cond.instanceMethod yX6_set, Cond.selects RX6 yX6_set yX6_set, Cond.code yX6_set cX6_set 3 (some .int), Cond.methodLink RX6 85 yX1_putSetting, Cond.instanceMethod yX1_putSetting, Cond.selects RX1 yX1_putSetting yX1_putSetting, Cond.code yX1_putSetting cX1_putSetting 4 (some .int), Cond.methodLink RL 101 yX6_mark, Cond.instanceMethod yX6_mark, Cond.selects RX6 yX6_mark yX6_mark, Cond.code yX6_mark cX6_mark 1 (some .int), Cond.methodLink RL 104 yX6_restore, Cond.instanceMethod yX6_restore, Cond.selects RX6 yX6_restore yX6_restore, Cond.code yX6_restore cX6_restore 1 (some .int), Cond.methodLink RL 107 yL_types, Cond.static yL_types, Cond.code yL_types cL_types 10 (some .boolean)]
def wsL_law_r20 : List Cond := [Cond.methodLink RL 45 yX6_clearText, Cond.instanceMethod yX6_clearText, Cond.selects RX6 yX6_clearText yX6_clearText, Cond.code yX6_clearText cX6_clearText 2 (some .int), Cond.methodLink RL 49 yL_signs, Cond.static yL_signs, Cond.code yL_signs cL_signs 5 (some .boolean), Cond.methodLink RL 42 yX6_type, Cond.instanceMethod yX6_type, Cond.selects RX6 yX6_type yX6_type, Cond.code yX6_type cX6_type 2 (some .int), Cond.methodLink RX6 165 yX4_append, Cond.instanceMethod yX4_append, Cond.selects RX4 yX4_append yX4_append, Cond.code yX4_append cX4_append 2 (some .int), Cond.constant RX4 38 (-10000003), Cond.methodLink RL 53 yL_digits, Cond.static yL_digits, Cond.code yL_digits cL_digits 3 (some .boolean), Cond.methodLink RL 110 yL_reads, Cond.static yL_reads, Cond.code yL_reads cL_reads 8 (some .boolean), Cond.constant RL 63 (-10000004), Cond.methodLink RL 57 yX6_fault]
def wsL_law_r21 : List Cond := [Cond.instanceMethod yX6_fault, Cond.selects RX6 yX6_fault yX6_fault, Cond.code yX6_fault cX6_fault 2 (some .int), Cond.methodLink RX6 169 yX4_runOn, Cond.instanceMethod yX4_runOn, Cond.selects RX4 yX4_runOn yX4_runOn, Cond.code yX4_runOn cX4_runOn 5 (some .int), Cond.constant RX4 39 (-10000004), Cond.methodLink RX4 40 yX4_readCommand, Cond.instanceMethod yX4_readCommand, Cond.selects RX4 yX4_readCommand yX4_readCommand, Cond.code yX4_readCommand cX4_readCommand 4 (some .boolean), Cond.methodLink RX4 88 yX4_wordOf, Cond.static yX4_wordOf, Cond.code yX4_wordOf cX4_wordOf 1 (some (.object "java/lang/String")), Cond.methodLink RX4 92 yX4_isWordAt, Cond.instanceMethod yX4_isWordAt, Cond.selects RX4 yX4_isWordAt yX4_isWordAt, Cond.code yX4_isWordAt cX4_isWordAt 4 (some .boolean), Cond.methodLink RX4 96 yJ0_length_8abf5, Cond.instanceMethod yJ0_length_8abf5, Cond.selects RJ0 yJ0_length_8abf5 yJ0_length_8abf5, Cond.initialized RJ0, Cond.code yJ0_length_8abf5 cJ0_length_8abf5 1 (some .int)]
def wsL_law_r22 : List Cond := [Cond.fieldLink RJ0 9 "java/lang/String" "value" "[B", Cond.methodLink RJ0 335 yJ0_coder_7d493, Cond.instanceMethod yJ0_coder_7d493, Cond.selects RJ0 yJ0_coder_7d493 yJ0_coder_7d493, Cond.code yJ0_coder_7d493 cJ0_coder_7d493 1 (some .byte), Cond.fieldLink RJ0 38 "java/lang/String" "COMPACT_STRINGS" "Z", Cond.fieldLink RJ0 15 "java/lang/String" "coder" "B", Cond.methodLink RX4 122 yX4_signAt, Cond.instanceMethod yX4_signAt, Cond.selects RX4 yX4_signAt yX4_signAt, Cond.code yX4_signAt cX4_signAt 2 (some .char), Cond.methodLink RX4 126 yJ0_charAt_5068e, Cond.instanceMethod yJ0_charAt_5068e, Cond.selects RJ0 yJ0_charAt_5068e yJ0_charAt_5068e, Cond.code yJ0_charAt_5068e cJ0_charAt_5068e 2 (some .char), Cond.methodLink RJ0 492 yJ0_isLatin1_aae02, Cond.instanceMethod yJ0_isLatin1_aae02, Cond.selects RJ0 yJ0_isLatin1_aae02 yJ0_isLatin1_aae02, Cond.code yJ0_isLatin1_aae02 cJ0_isLatin1_aae02 1 (some .boolean), Cond.methodLink RJ0 495 yJ1_charAt_3b067, Cond.static yJ1_charAt_3b067, Cond.initialized RJ1, Cond.code yJ1_charAt_3b067 cJ1_charAt_3b067 2 (some .char), Cond.methodLink RJ1 9 yJ0_checkIndex_df160]
def wsL_law_r23 : List Cond := [Cond.static yJ0_checkIndex_df160, Cond.code yJ0_checkIndex_df160 cJ0_checkIndex_df160 2 none, Cond.fieldLink RJ0 1053 "jdk/internal/util/Preconditions" "SIOOBE_FORMATTER" "Ljava/util/function/BiFunction;", Cond.methodLink RJ0 1059 yJ3_checkIndex_8e157, Cond.static yJ3_checkIndex_8e157, Cond.initialized RJ3, Cond.code yJ3_checkIndex_8e157 cJ3_checkIndex_8e157 3 (some .int), Cond.methodLink RJ0 498 yJ2_charAt_3b067, Cond.static yJ2_charAt_3b067, Cond.initialized RJ2, Cond.code yJ2_charAt_3b067 cJ2_charAt_3b067 2 (some .char), Cond.methodLink RJ2 67 yJ2_checkIndex_2214a, Cond.static yJ2_checkIndex_2214a, Cond.code yJ2_checkIndex_2214a cJ2_checkIndex_2214a 2 none, Cond.methodLink RJ2 48 yJ2_length_9d52b, Cond.static yJ2_length_9d52b, Cond.code yJ2_length_9d52b cJ2_length_9d52b 1 (some .int), Cond.methodLink RJ2 414 yJ0_checkIndex_df160, Cond.methodLink RJ2 71 yJ2_getChar_3b067, Cond.static yJ2_getChar_3b067, Cond.code yJ2_getChar_3b067 cJ2_getChar_3b067 2 (some .char), Cond.fieldLink RJ2 44 "java/lang/StringUTF16" "$assertionsDisabled" "Z", Cond.fieldLink RJ2 59 "java/lang/StringUTF16" "HI_BYTE_SHIFT" "I", Cond.fieldLink RJ2 63 "java/lang/StringUTF16" "LO_BYTE_SHIFT" "I"]
def wsL_law_r24 : List Cond := [Cond.methodLink RX4 101 yX4_howManyNumbers, Cond.static yX4_howManyNumbers, Cond.code yX4_howManyNumbers cX4_howManyNumbers 1 (some .int), Cond.methodLink RX4 104 yX4_readNumbers, Cond.instanceMethod yX4_readNumbers, Cond.selects RX4 yX4_readNumbers yX4_readNumbers, Cond.code yX4_readNumbers cX4_readNumbers 6 (some .boolean), Cond.methodLink RX4 129 yX4_digitsAt, Cond.instanceMethod yX4_digitsAt, Cond.selects RX4 yX4_digitsAt yX4_digitsAt, Cond.code yX4_digitsAt cX4_digitsAt 3 (some .int), Cond.methodLink RX4 135 yX4_isDigit, Cond.static yX4_isDigit, Cond.code yX4_isDigit cX4_isDigit 1 (some .boolean), Cond.methodLink RX4 132 yX4_valueAt, Cond.instanceMethod yX4_valueAt, Cond.selects RX4 yX4_valueAt yX4_valueAt, Cond.code yX4_valueAt cX4_valueAt 5 (some .int), Cond.methodLink RX4 44 yX4_putFault, Cond.instanceMethod yX4_putFault, Cond.selects RX4 yX4_putFault yX4_putFault, Cond.code yX4_putFault cX4_putFault 4 none, Cond.methodLink RX4 48 yX4_perform, Cond.instanceMethod yX4_perform]
def wsL_law_r25 : List Cond := [Cond.selects RX4 yX4_perform yX4_perform, Cond.code yX4_perform cX4_perform 7 (some .int), Cond.methodLink RX4 58 yX5_has, Cond.methodLink RX4 63 yX1_lendStones, Cond.methodLink RX4 67 yX1_giveBack, Cond.methodLink RX4 71 yX1_keepStone, Cond.methodLink RX4 74 yX1_sellStone, Cond.methodLink RX4 78 yX1_regrade, Cond.methodLink RX4 82 yX1_putRate, Cond.methodLink RX4 85 yX1_passDays, Cond.methodLink RX6 173 yX4_tellFault, Cond.instanceMethod yX4_tellFault, Cond.selects RX4 yX4_tellFault yX4_tellFault, Cond.code yX4_tellFault cX4_tellFault 2 (some .int), Cond.methodLink RL 60 yX6_play, Cond.instanceMethod yX6_play, Cond.selects RX6 yX6_play yX6_play, Cond.code yX6_play cX6_play 2 (some .int), Cond.methodLink RX6 176 yX4_hasFault, Cond.instanceMethod yX4_hasFault, Cond.selects RX4 yX4_hasFault yX4_hasFault, Cond.code yX4_hasFault cX4_hasFault 1 (some .boolean)]
def wsL_law : List Cond := (wsL_law_r1 ++ (wsL_law_r2 ++ (wsL_law_r3 ++ (wsL_law_r4 ++ (wsL_law_r5 ++ (wsL_law_r6 ++ (wsL_law_r7 ++ (wsL_law_r8 ++ (wsL_law_r9 ++ (wsL_law_r10 ++ (wsL_law_r11 ++ (wsL_law_r12 ++ (wsL_law_r13 ++ (wsL_law_r14 ++ (wsL_law_r15 ++ (wsL_law_r16 ++ (wsL_law_r17 ++ (wsL_law_r18 ++ (wsL_law_r19 ++ (wsL_law_r20 ++ (wsL_law_r21 ++ (wsL_law_r22 ++ (wsL_law_r23 ++ (wsL_law_r24 ++ wsL_law_r25)))))))))))))))))))))))) ++ wsX60 ++ wsX10 ++ wsX00 ++ wsX40 ++ wsX30 ++ wsX50 ++ wsX20 ++ ([] : List Cond)
theorem inlX0 : ∀ w ∈ wsX00, w ∈ wsL_law := fun _ h => List.mem_append_left _ (List.mem_append_left _ (List.mem_append_left _ (List.mem_append_left _ (List.mem_append_left _ (List.mem_append_right _ h)))))
theorem inlX1 : ∀ w ∈ wsX10, w ∈ wsL_law := fun _ h => List.mem_append_left _ (List.mem_append_left _ (List.mem_append_left _ (List.mem_append_left _ (List.mem_append_left _ (List.mem_append_left _ (List.mem_append_right _ h))))))
theorem inlX2 : ∀ w ∈ wsX20, w ∈ wsL_law := fun _ h => List.mem_append_left _ (List.mem_append_right _ h)
theorem inlX3 : ∀ w ∈ wsX30, w ∈ wsL_law := fun _ h => List.mem_append_left _ (List.mem_append_left _ (List.mem_append_left _ (List.mem_append_right _ h)))
theorem inlX4 : ∀ w ∈ wsX40, w ∈ wsL_law := fun _ h => List.mem_append_left _ (List.mem_append_left _ (List.mem_append_left _ (List.mem_append_left _ (List.mem_append_right _ h))))
theorem inlX5 : ∀ w ∈ wsX50, w ∈ wsL_law := fun _ h => List.mem_append_left _ (List.mem_append_left _ (List.mem_append_right _ h))
theorem inlX6 : ∀ w ∈ wsX60, w ∈ wsL_law := fun _ h => List.mem_append_left _ (List.mem_append_left _ (List.mem_append_left _ (List.mem_append_left _ (List.mem_append_left _ (List.mem_append_left _ (List.mem_append_left _ (List.mem_append_right _ h)))))))
theorem inJ6 : ∀ w ∈ wsJ60, w ∈ lw_tbl := by decide +kernel
theorem inJ9 : ∀ w ∈ wsJ90, w ∈ lw_tbl := by decide +kernel
theorem inJ0 : ∀ w ∈ wsJ00, w ∈ lw_tbl := by decide +kernel
theorem inJ1 : ∀ w ∈ wsJ10, w ∈ lw_tbl := by decide +kernel
theorem inJ2 : ∀ w ∈ wsJ20, w ∈ lw_tbl := by decide +kernel
theorem inJ10 : ∀ w ∈ wsJ100, w ∈ lw_tbl := by decide +kernel
theorem inJ3 : ∀ w ∈ wsJ30, w ∈ lw_tbl := by decide +kernel
end
section
set_option maxRecDepth 20000 in
theorem ggX0_init_X1_init : GoodIn wsX0_init wsX1_init := goodIn_r _ [11, 12, 2, 3, 13, 14, 15, 16, 17, 18, 19, 20, 21, 22, 23, 24, 25, 26, 27, 28, 29, 30, 31, 32, 33, 34, 35, 36, 37, 38, 39, 40, 41, 42, 43, 44, 45, 46, 47, 48, 49, 50, 51, 52, 53, 54, 55, 56, 57, 58, 59, 60, 73, 74, 75, 76, 64, 65, 66, 67, 68, 69, 70, 71, 72, 77, 78, 79, 80, 81, 82, 83, 84, 85, 86, 87, 88, 89, 90, 91, 92] (by decide +kernel) (by decide +kernel)
set_option maxRecDepth 20000 in
theorem gX0_init_X1_init_n22 : GoodIn wsX0_init (wsX1_init) := ggX0_init_X1_init
theorem dX0_init_0 : decode cX0_init 0 = .ok (.aload_n 0, 1) := by decide +kernel
theorem dX0_init_1 : decode cX0_init 1 = .ok (.invokespecial 1, 3) := by decide +kernel
theorem dX0_init_4 : decode cX0_init 4 = .ok (.aload_n 0, 1) := by decide +kernel
theorem dX0_init_5 : decode cX0_init 5 = .ok (.iconst 4, 1) := by decide +kernel
theorem dX0_init_6 : decode cX0_init 6 = .ok (.anewarray 9, 3) := by decide +kernel
theorem dX0_init_9 : decode cX0_init 9 = .ok (.putfield 11, 3) := by decide +kernel
theorem dX0_init_12 : decode cX0_init 12 = .ok (.aload_n 0, 1) := by decide +kernel
theorem dX0_init_13 : decode cX0_init 13 = .ok (.iconst 0, 1) := by decide +kernel
theorem dX0_init_14 : decode cX0_init 14 = .ok (.putfield 15, 3) := by decide +kernel
theorem dX0_init_17 : decode cX0_init 17 = .ok (.aload_n 0, 1) := by decide +kernel
theorem dX0_init_18 : decode cX0_init 18 = .ok (.iconst 0, 1) := by decide +kernel
theorem dX0_init_19 : decode cX0_init 19 = .ok (.putfield 19, 3) := by decide +kernel
theorem dX0_init_22 : decode cX0_init 22 = .ok (.iconst 0, 1) := by decide +kernel
theorem dX0_init_23 : decode cX0_init 23 = .ok (.istore_n 1, 1) := by decide +kernel
theorem dX0_init_24 : decode cX0_init 24 = .ok (.iload_n 1, 1) := by decide +kernel
theorem dX0_init_25 : decode cX0_init 25 = .ok (.iconst 4, 1) := by decide +kernel
theorem dX0_init_26 : decode cX0_init 26 = .ok (.if_icmp .ge 22, 3) := by decide +kernel
theorem dX0_init_29 : decode cX0_init 29 = .ok (.aload_n 0, 1) := by decide +kernel
theorem dX0_init_30 : decode cX0_init 30 = .ok (.getfield 11, 3) := by decide +kernel
theorem dX0_init_33 : decode cX0_init 33 = .ok (.iload_n 1, 1) := by decide +kernel
theorem dX0_init_34 : decode cX0_init 34 = .ok (.new 9, 3) := by decide +kernel
theorem dX0_init_37 : decode cX0_init 37 = .ok (.dup, 1) := by decide +kernel
theorem dX0_init_38 : decode cX0_init 38 = .ok (.invokespecial 22, 3) := by decide +kernel
theorem dX0_init_41 : decode cX0_init 41 = .ok (.aastore, 1) := by decide +kernel
theorem dX0_init_42 : decode cX0_init 42 = .ok (.iinc 1 1, 3) := by decide +kernel
theorem dX0_init_45 : decode cX0_init 45 = .ok (.goto (-21), 3) := by decide +kernel
theorem dX0_init_48 : decode cX0_init 48 = .ok (.return_, 1) := by decide +kernel
set_option maxRecDepth 20000 in
theorem ggX0_push_J9_floorMod_7cf53 : GoodIn wsX0_push wsJ9_floorMod_7cf53 := goodIn_r _ [7] (by decide +kernel) (by decide +kernel)
set_option maxRecDepth 20000 in
theorem gX0_push_J9_floorMod_7cf53 : GoodIn wsX0_push (va_wsS RX0 23 yJ9_floorMod_7cf53 wsJ9_floorMod_7cf53) := goodIn_app (goodIn_of _ (by decide +kernel)) ggX0_push_J9_floorMod_7cf53
set_option maxRecDepth 20000 in
theorem ggX0_push_X1_copyFrom : GoodIn wsX0_push wsX1_copyFrom := goodIn_r _ [12, 13, 14, 15, 16, 17, 18, 19, 20, 21, 22, 23, 24, 25, 26, 27, 28, 29, 30, 31, 32, 33, 34, 35, 36, 37, 38, 39, 40, 41, 42, 43, 44, 45, 46, 47, 48, 49, 50, 51, 52, 53, 54, 55, 56, 57, 58, 59, 60, 61, 62, 63, 67, 68, 69, 70, 71, 72, 73, 74, 75, 76, 77, 78, 79, 80, 81, 82, 83, 84, 85, 86, 87, 88, 89, 90, 91, 92, 93, 94, 95] (by decide +kernel) (by decide +kernel)
set_option maxRecDepth 20000 in
theorem gX0_push_X1_copyFrom : GoodIn wsX0_push (wsV RX0 29 RX1 yX1_copyFrom wsX1_copyFrom) := goodIn_app (goodIn_of _ (by decide +kernel)) ggX0_push_X1_copyFrom
theorem dX0_push_0 : decode cX0_push 0 = .ok (.aload_n 0, 1) := by decide +kernel
theorem dX0_push_1 : decode cX0_push 1 = .ok (.getfield 19, 3) := by decide +kernel
theorem dX0_push_4 : decode cX0_push 4 = .ok (.iconst 4, 1) := by decide +kernel
theorem dX0_push_5 : decode cX0_push 5 = .ok (.if_icmp .ne 25, 3) := by decide +kernel
theorem dX0_push_8 : decode cX0_push 8 = .ok (.aload_n 0, 1) := by decide +kernel
theorem dX0_push_9 : decode cX0_push 9 = .ok (.aload_n 0, 1) := by decide +kernel
theorem dX0_push_10 : decode cX0_push 10 = .ok (.getfield 15, 3) := by decide +kernel
theorem dX0_push_13 : decode cX0_push 13 = .ok (.iconst 1, 1) := by decide +kernel
theorem dX0_push_14 : decode cX0_push 14 = .ok (.iadd, 1) := by decide +kernel
theorem dX0_push_15 : decode cX0_push 15 = .ok (.iconst 4, 1) := by decide +kernel
theorem dX0_push_16 : decode cX0_push 16 = .ok (.irem, 1) := by decide +kernel
theorem dX0_push_17 : decode cX0_push 17 = .ok (.putfield 15, 3) := by decide +kernel
theorem dX0_push_20 : decode cX0_push 20 = .ok (.aload_n 0, 1) := by decide +kernel
theorem dX0_push_21 : decode cX0_push 21 = .ok (.dup, 1) := by decide +kernel
theorem dX0_push_22 : decode cX0_push 22 = .ok (.getfield 19, 3) := by decide +kernel
theorem dX0_push_25 : decode cX0_push 25 = .ok (.iconst 1, 1) := by decide +kernel
theorem dX0_push_26 : decode cX0_push 26 = .ok (.isub, 1) := by decide +kernel
theorem dX0_push_27 : decode cX0_push 27 = .ok (.putfield 19, 3) := by decide +kernel
theorem dX0_push_30 : decode cX0_push 30 = .ok (.aload_n 0, 1) := by decide +kernel
theorem dX0_push_31 : decode cX0_push 31 = .ok (.getfield 11, 3) := by decide +kernel
theorem dX0_push_34 : decode cX0_push 34 = .ok (.aload_n 0, 1) := by decide +kernel
theorem dX0_push_35 : decode cX0_push 35 = .ok (.getfield 15, 3) := by decide +kernel
theorem dX0_push_38 : decode cX0_push 38 = .ok (.aload_n 0, 1) := by decide +kernel
theorem dX0_push_39 : decode cX0_push 39 = .ok (.getfield 19, 3) := by decide +kernel
theorem dX0_push_42 : decode cX0_push 42 = .ok (.iadd, 1) := by decide +kernel
theorem dX0_push_43 : decode cX0_push 43 = .ok (.iconst 4, 1) := by decide +kernel
theorem dX0_push_44 : decode cX0_push 44 = .ok (.invokestatic 23, 3) := by decide +kernel
theorem dX0_push_47 : decode cX0_push 47 = .ok (.aaload, 1) := by decide +kernel
theorem dX0_push_48 : decode cX0_push 48 = .ok (.astore_n 2, 1) := by decide +kernel
theorem dX0_push_49 : decode cX0_push 49 = .ok (.aload_n 2, 1) := by decide +kernel
theorem dX0_push_50 : decode cX0_push 50 = .ok (.ifnull 18, 3) := by decide +kernel
theorem dX0_push_53 : decode cX0_push 53 = .ok (.aload_n 2, 1) := by decide +kernel
theorem dX0_push_54 : decode cX0_push 54 = .ok (.aload_n 1, 1) := by decide +kernel
theorem dX0_push_55 : decode cX0_push 55 = .ok (.invokevirtual 29, 3) := by decide +kernel
theorem dX0_push_58 : decode cX0_push 58 = .ok (.aload_n 0, 1) := by decide +kernel
theorem dX0_push_59 : decode cX0_push 59 = .ok (.dup, 1) := by decide +kernel
theorem dX0_push_60 : decode cX0_push 60 = .ok (.getfield 19, 3) := by decide +kernel
theorem dX0_push_63 : decode cX0_push 63 = .ok (.iconst 1, 1) := by decide +kernel
theorem dX0_push_64 : decode cX0_push 64 = .ok (.iadd, 1) := by decide +kernel
theorem dX0_push_65 : decode cX0_push 65 = .ok (.putfield 19, 3) := by decide +kernel
theorem dX0_push_68 : decode cX0_push 68 = .ok (.return_, 1) := by decide +kernel
set_option maxRecDepth 20000 in
theorem ggX0_popInto_J9_floorMod_7cf53 : GoodIn wsX0_popInto wsJ9_floorMod_7cf53 := goodIn_r _ [7] (by decide +kernel) (by decide +kernel)
set_option maxRecDepth 20000 in
theorem gX0_popInto_J9_floorMod_7cf53 : GoodIn wsX0_popInto (va_wsS RX0 23 yJ9_floorMod_7cf53 wsJ9_floorMod_7cf53) := goodIn_app (goodIn_of _ (by decide +kernel)) ggX0_popInto_J9_floorMod_7cf53
set_option maxRecDepth 20000 in
theorem ggX0_popInto_X1_copyFrom : GoodIn wsX0_popInto wsX1_copyFrom := goodIn_r _ [12, 13, 14, 15, 16, 17, 18, 19, 20, 21, 22, 23, 24, 25, 26, 27, 28, 29, 30, 31, 32, 33, 34, 35, 36, 37, 38, 39, 40, 41, 42, 43, 44, 45, 46, 47, 48, 49, 50, 51, 52, 53, 54, 55, 56, 57, 58, 59, 60, 61, 62, 63, 67, 68, 69, 70, 71, 72, 73, 74, 75, 76, 77, 78, 79, 80, 81, 82, 83, 84, 85, 86, 87, 88, 89, 90, 91, 92, 93, 94, 95] (by decide +kernel) (by decide +kernel)
set_option maxRecDepth 20000 in
theorem gX0_popInto_X1_copyFrom : GoodIn wsX0_popInto (wsV RX0 29 RX1 yX1_copyFrom wsX1_copyFrom) := goodIn_app (goodIn_of _ (by decide +kernel)) ggX0_popInto_X1_copyFrom
theorem dX0_popInto_0 : decode cX0_popInto 0 = .ok (.aload_n 0, 1) := by decide +kernel
theorem dX0_popInto_1 : decode cX0_popInto 1 = .ok (.getfield 19, 3) := by decide +kernel
theorem dX0_popInto_4 : decode cX0_popInto 4 = .ok (.ifCond .ne 4, 3) := by decide +kernel
theorem dX0_popInto_7 : decode cX0_popInto 7 = .ok (.return_, 1) := by decide +kernel
theorem dX0_popInto_8 : decode cX0_popInto 8 = .ok (.aload_n 0, 1) := by decide +kernel
theorem dX0_popInto_9 : decode cX0_popInto 9 = .ok (.getfield 11, 3) := by decide +kernel
theorem dX0_popInto_12 : decode cX0_popInto 12 = .ok (.aload_n 0, 1) := by decide +kernel
theorem dX0_popInto_13 : decode cX0_popInto 13 = .ok (.getfield 15, 3) := by decide +kernel
theorem dX0_popInto_16 : decode cX0_popInto 16 = .ok (.aload_n 0, 1) := by decide +kernel
theorem dX0_popInto_17 : decode cX0_popInto 17 = .ok (.getfield 19, 3) := by decide +kernel
theorem dX0_popInto_20 : decode cX0_popInto 20 = .ok (.iadd, 1) := by decide +kernel
theorem dX0_popInto_21 : decode cX0_popInto 21 = .ok (.iconst 1, 1) := by decide +kernel
theorem dX0_popInto_22 : decode cX0_popInto 22 = .ok (.isub, 1) := by decide +kernel
theorem dX0_popInto_23 : decode cX0_popInto 23 = .ok (.iconst 4, 1) := by decide +kernel
theorem dX0_popInto_24 : decode cX0_popInto 24 = .ok (.invokestatic 23, 3) := by decide +kernel
theorem dX0_popInto_27 : decode cX0_popInto 27 = .ok (.aaload, 1) := by decide +kernel
theorem dX0_popInto_28 : decode cX0_popInto 28 = .ok (.astore_n 2, 1) := by decide +kernel
theorem dX0_popInto_29 : decode cX0_popInto 29 = .ok (.aload_n 2, 1) := by decide +kernel
theorem dX0_popInto_30 : decode cX0_popInto 30 = .ok (.ifnull 18, 3) := by decide +kernel
theorem dX0_popInto_33 : decode cX0_popInto 33 = .ok (.aload_n 1, 1) := by decide +kernel
theorem dX0_popInto_34 : decode cX0_popInto 34 = .ok (.aload_n 2, 1) := by decide +kernel
theorem dX0_popInto_35 : decode cX0_popInto 35 = .ok (.invokevirtual 29, 3) := by decide +kernel
theorem dX0_popInto_38 : decode cX0_popInto 38 = .ok (.aload_n 0, 1) := by decide +kernel
theorem dX0_popInto_39 : decode cX0_popInto 39 = .ok (.dup, 1) := by decide +kernel
theorem dX0_popInto_40 : decode cX0_popInto 40 = .ok (.getfield 19, 3) := by decide +kernel
theorem dX0_popInto_43 : decode cX0_popInto 43 = .ok (.iconst 1, 1) := by decide +kernel
theorem dX0_popInto_44 : decode cX0_popInto 44 = .ok (.isub, 1) := by decide +kernel
theorem dX0_popInto_45 : decode cX0_popInto 45 = .ok (.putfield 19, 3) := by decide +kernel
theorem dX0_popInto_48 : decode cX0_popInto 48 = .ok (.return_, 1) := by decide +kernel
set_option maxRecDepth 20000 in
theorem ggX1_init_X3_init : GoodIn wsX1_init wsX3_init := goodIn_r _ [24, 25, 2, 3, 16, 26, 27, 28, 29, 52, 53, 54, 55] (by decide +kernel) (by decide +kernel)
set_option maxRecDepth 20000 in
theorem gX1_init_X3_init_n11 : GoodIn wsX1_init (wsX3_init) := ggX1_init_X3_init
set_option maxRecDepth 20000 in
theorem ggX1_init_X5_init : GoodIn wsX1_init wsX5_init := goodIn_r _ [31, 32, 2, 3, 33, 16, 34, 35, 36, 37, 38, 39, 40, 41, 42, 65, 66, 67, 68, 69, 70, 71, 72, 73, 74] (by decide +kernel) (by decide +kernel)
set_option maxRecDepth 20000 in
theorem gX1_init_X5_init_n20 : GoodIn wsX1_init (wsX5_init) := ggX1_init_X5_init
set_option maxRecDepth 20000 in
theorem ggX1_init_X2_init : GoodIn wsX1_init wsX2_init := goodIn_r _ [44, 45, 2, 3, 46, 16, 47, 48, 49, 50, 51, 75, 76, 77, 78, 79, 80] (by decide +kernel) (by decide +kernel)
set_option maxRecDepth 20000 in
theorem gX1_init_X2_init_n27 : GoodIn wsX1_init (wsX2_init) := ggX1_init_X2_init
theorem dX1_init_0 : decode cX1_init 0 = .ok (.aload_n 0, 1) := by decide +kernel
theorem dX1_init_1 : decode cX1_init 1 = .ok (.invokespecial 3, 3) := by decide +kernel
theorem dX1_init_4 : decode cX1_init 4 = .ok (.aload_n 0, 1) := by decide +kernel
theorem dX1_init_5 : decode cX1_init 5 = .ok (.new 9, 3) := by decide +kernel
theorem dX1_init_8 : decode cX1_init 8 = .ok (.dup, 1) := by decide +kernel
theorem dX1_init_9 : decode cX1_init 9 = .ok (.invokespecial 11, 3) := by decide +kernel
theorem dX1_init_12 : decode cX1_init 12 = .ok (.putfield 12, 3) := by decide +kernel
theorem dX1_init_15 : decode cX1_init 15 = .ok (.aload_n 0, 1) := by decide +kernel
theorem dX1_init_16 : decode cX1_init 16 = .ok (.new 18, 3) := by decide +kernel
theorem dX1_init_19 : decode cX1_init 19 = .ok (.dup, 1) := by decide +kernel
theorem dX1_init_20 : decode cX1_init 20 = .ok (.invokespecial 20, 3) := by decide +kernel
theorem dX1_init_23 : decode cX1_init 23 = .ok (.putfield 21, 3) := by decide +kernel
theorem dX1_init_26 : decode cX1_init 26 = .ok (.aload_n 0, 1) := by decide +kernel
theorem dX1_init_27 : decode cX1_init 27 = .ok (.new 25, 3) := by decide +kernel
theorem dX1_init_30 : decode cX1_init 30 = .ok (.dup, 1) := by decide +kernel
theorem dX1_init_31 : decode cX1_init 31 = .ok (.invokespecial 27, 3) := by decide +kernel
theorem dX1_init_34 : decode cX1_init 34 = .ok (.putfield 28, 3) := by decide +kernel
theorem dX1_init_37 : decode cX1_init 37 = .ok (.aload_n 0, 1) := by decide +kernel
theorem dX1_init_38 : decode cX1_init 38 = .ok (.bipush 6, 2) := by decide +kernel
theorem dX1_init_40 : decode cX1_init 40 = .ok (.newarray .int, 2) := by decide +kernel
theorem dX1_init_42 : decode cX1_init 42 = .ok (.putfield 32, 3) := by decide +kernel
theorem dX1_init_45 : decode cX1_init 45 = .ok (.aload_n 0, 1) := by decide +kernel
theorem dX1_init_46 : decode cX1_init 46 = .ok (.iconst 0, 1) := by decide +kernel
theorem dX1_init_47 : decode cX1_init 47 = .ok (.putfield 36, 3) := by decide +kernel
theorem dX1_init_50 : decode cX1_init 50 = .ok (.aload_n 0, 1) := by decide +kernel
theorem dX1_init_51 : decode cX1_init 51 = .ok (.iconst 0, 1) := by decide +kernel
theorem dX1_init_52 : decode cX1_init 52 = .ok (.putfield 40, 3) := by decide +kernel
theorem dX1_init_55 : decode cX1_init 55 = .ok (.aload_n 0, 1) := by decide +kernel
theorem dX1_init_56 : decode cX1_init 56 = .ok (.iconst 3, 1) := by decide +kernel
theorem dX1_init_57 : decode cX1_init 57 = .ok (.putfield 43, 3) := by decide +kernel
theorem dX1_init_60 : decode cX1_init 60 = .ok (.aload_n 0, 1) := by decide +kernel
theorem dX1_init_61 : decode cX1_init 61 = .ok (.bipush 10, 2) := by decide +kernel
theorem dX1_init_63 : decode cX1_init 63 = .ok (.putfield 46, 3) := by decide +kernel
theorem dX1_init_66 : decode cX1_init 66 = .ok (.aload_n 0, 1) := by decide +kernel
theorem dX1_init_67 : decode cX1_init 67 = .ok (.iconst 0, 1) := by decide +kernel
theorem dX1_init_68 : decode cX1_init 68 = .ok (.putfield 49, 3) := by decide +kernel
theorem dX1_init_71 : decode cX1_init 71 = .ok (.return_, 1) := by decide +kernel
set_option maxRecDepth 20000 in
theorem ggX1_copyFrom_X3_copyFrom : GoodIn wsX1_copyFrom wsX3_copyFrom := goodIn_r _ [18, 19, 20, 6, 7, 8, 21, 22, 23, 61, 62, 63, 64] (by decide +kernel) (by decide +kernel)
set_option maxRecDepth 20000 in
theorem gX1_copyFrom_X3_copyFrom : GoodIn wsX1_copyFrom (wsV RX1 52 RX3 yX3_copyFrom wsX3_copyFrom) := goodIn_app (goodIn_of _ (by decide +kernel)) ggX1_copyFrom_X3_copyFrom
set_option maxRecDepth 20000 in
theorem ggX1_copyFrom_X5_copyFrom : GoodIn wsX1_copyFrom wsX5_copyFrom := goodIn_r _ [28, 29, 30, 31, 6, 7, 8, 32, 33, 34, 35, 36, 37, 38, 39, 65, 66, 67, 68, 69, 70, 71, 72, 73, 74] (by decide +kernel) (by decide +kernel)
set_option maxRecDepth 20000 in
theorem gX1_copyFrom_X5_copyFrom : GoodIn wsX1_copyFrom (wsV RX1 56 RX5 yX5_copyFrom wsX5_copyFrom) := goodIn_app (goodIn_of _ (by decide +kernel)) ggX1_copyFrom_X5_copyFrom
set_option maxRecDepth 20000 in
theorem ggX1_copyFrom_X2_copyFrom : GoodIn wsX1_copyFrom wsX2_copyFrom := goodIn_r _ [44, 45, 46, 47, 6, 7, 8, 48, 49, 50, 51, 75, 76, 77, 78, 79, 80] (by decide +kernel) (by decide +kernel)
set_option maxRecDepth 20000 in
theorem gX1_copyFrom_X2_copyFrom : GoodIn wsX1_copyFrom (wsV RX1 59 RX2 yX2_copyFrom wsX2_copyFrom) := goodIn_app (goodIn_of _ (by decide +kernel)) ggX1_copyFrom_X2_copyFrom
theorem dX1_copyFrom_0 : decode cX1_copyFrom 0 = .ok (.aload_n 0, 1) := by decide +kernel
theorem dX1_copyFrom_1 : decode cX1_copyFrom 1 = .ok (.getfield 12, 3) := by decide +kernel
theorem dX1_copyFrom_4 : decode cX1_copyFrom 4 = .ok (.aload_n 1, 1) := by decide +kernel
theorem dX1_copyFrom_5 : decode cX1_copyFrom 5 = .ok (.getfield 12, 3) := by decide +kernel
theorem dX1_copyFrom_8 : decode cX1_copyFrom 8 = .ok (.invokevirtual 52, 3) := by decide +kernel
theorem dX1_copyFrom_11 : decode cX1_copyFrom 11 = .ok (.aload_n 0, 1) := by decide +kernel
theorem dX1_copyFrom_12 : decode cX1_copyFrom 12 = .ok (.getfield 21, 3) := by decide +kernel
theorem dX1_copyFrom_15 : decode cX1_copyFrom 15 = .ok (.aload_n 1, 1) := by decide +kernel
theorem dX1_copyFrom_16 : decode cX1_copyFrom 16 = .ok (.getfield 21, 3) := by decide +kernel
theorem dX1_copyFrom_19 : decode cX1_copyFrom 19 = .ok (.invokevirtual 56, 3) := by decide +kernel
theorem dX1_copyFrom_22 : decode cX1_copyFrom 22 = .ok (.aload_n 0, 1) := by decide +kernel
theorem dX1_copyFrom_23 : decode cX1_copyFrom 23 = .ok (.getfield 28, 3) := by decide +kernel
theorem dX1_copyFrom_26 : decode cX1_copyFrom 26 = .ok (.aload_n 1, 1) := by decide +kernel
theorem dX1_copyFrom_27 : decode cX1_copyFrom 27 = .ok (.getfield 28, 3) := by decide +kernel
theorem dX1_copyFrom_30 : decode cX1_copyFrom 30 = .ok (.invokevirtual 59, 3) := by decide +kernel
theorem dX1_copyFrom_33 : decode cX1_copyFrom 33 = .ok (.aload_n 1, 1) := by decide +kernel
theorem dX1_copyFrom_34 : decode cX1_copyFrom 34 = .ok (.getfield 32, 3) := by decide +kernel
theorem dX1_copyFrom_37 : decode cX1_copyFrom 37 = .ok (.iconst 0, 1) := by decide +kernel
theorem dX1_copyFrom_38 : decode cX1_copyFrom 38 = .ok (.aload_n 0, 1) := by decide +kernel
theorem dX1_copyFrom_39 : decode cX1_copyFrom 39 = .ok (.getfield 32, 3) := by decide +kernel
theorem dX1_copyFrom_42 : decode cX1_copyFrom 42 = .ok (.iconst 0, 1) := by decide +kernel
theorem dX1_copyFrom_43 : decode cX1_copyFrom 43 = .ok (.bipush 6, 2) := by decide +kernel
theorem dX1_copyFrom_45 : decode cX1_copyFrom 45 = .ok (.invokestatic 62, 3) := by decide +kernel
theorem dX1_copyFrom_48 : decode cX1_copyFrom 48 = .ok (.aload_n 0, 1) := by decide +kernel
theorem dX1_copyFrom_49 : decode cX1_copyFrom 49 = .ok (.aload_n 1, 1) := by decide +kernel
theorem dX1_copyFrom_50 : decode cX1_copyFrom 50 = .ok (.getfield 36, 3) := by decide +kernel
theorem dX1_copyFrom_53 : decode cX1_copyFrom 53 = .ok (.putfield 36, 3) := by decide +kernel
theorem dX1_copyFrom_56 : decode cX1_copyFrom 56 = .ok (.aload_n 0, 1) := by decide +kernel
theorem dX1_copyFrom_57 : decode cX1_copyFrom 57 = .ok (.aload_n 1, 1) := by decide +kernel
theorem dX1_copyFrom_58 : decode cX1_copyFrom 58 = .ok (.getfield 40, 3) := by decide +kernel
theorem dX1_copyFrom_61 : decode cX1_copyFrom 61 = .ok (.putfield 40, 3) := by decide +kernel
theorem dX1_copyFrom_64 : decode cX1_copyFrom 64 = .ok (.aload_n 0, 1) := by decide +kernel
theorem dX1_copyFrom_65 : decode cX1_copyFrom 65 = .ok (.aload_n 1, 1) := by decide +kernel
theorem dX1_copyFrom_66 : decode cX1_copyFrom 66 = .ok (.getfield 43, 3) := by decide +kernel
theorem dX1_copyFrom_69 : decode cX1_copyFrom 69 = .ok (.putfield 43, 3) := by decide +kernel
theorem dX1_copyFrom_72 : decode cX1_copyFrom 72 = .ok (.aload_n 0, 1) := by decide +kernel
theorem dX1_copyFrom_73 : decode cX1_copyFrom 73 = .ok (.aload_n 1, 1) := by decide +kernel
theorem dX1_copyFrom_74 : decode cX1_copyFrom 74 = .ok (.getfield 46, 3) := by decide +kernel
theorem dX1_copyFrom_77 : decode cX1_copyFrom 77 = .ok (.putfield 46, 3) := by decide +kernel
theorem dX1_copyFrom_80 : decode cX1_copyFrom 80 = .ok (.aload_n 0, 1) := by decide +kernel
theorem dX1_copyFrom_81 : decode cX1_copyFrom 81 = .ok (.aload_n 1, 1) := by decide +kernel
theorem dX1_copyFrom_82 : decode cX1_copyFrom 82 = .ok (.getfield 49, 3) := by decide +kernel
theorem dX1_copyFrom_85 : decode cX1_copyFrom 85 = .ok (.putfield 49, 3) := by decide +kernel
theorem dX1_copyFrom_88 : decode cX1_copyFrom 88 = .ok (.return_, 1) := by decide +kernel
theorem dX1_hasDealer_0 : decode cX1_hasDealer 0 = .ok (.iload_n 1, 1) := by decide +kernel
theorem dX1_hasDealer_1 : decode cX1_hasDealer 1 = .ok (.ifCond .lt 21, 3) := by decide +kernel
theorem dX1_hasDealer_4 : decode cX1_hasDealer 4 = .ok (.iload_n 1, 1) := by decide +kernel
theorem dX1_hasDealer_5 : decode cX1_hasDealer 5 = .ok (.aload_n 0, 1) := by decide +kernel
theorem dX1_hasDealer_6 : decode cX1_hasDealer 6 = .ok (.getfield 36, 3) := by decide +kernel
theorem dX1_hasDealer_9 : decode cX1_hasDealer 9 = .ok (.if_icmp .ge 13, 3) := by decide +kernel
theorem dX1_hasDealer_12 : decode cX1_hasDealer 12 = .ok (.iload_n 1, 1) := by decide +kernel
theorem dX1_hasDealer_13 : decode cX1_hasDealer 13 = .ok (.bipush 6, 2) := by decide +kernel
theorem dX1_hasDealer_15 : decode cX1_hasDealer 15 = .ok (.if_icmp .ge 7, 3) := by decide +kernel
theorem dX1_hasDealer_18 : decode cX1_hasDealer 18 = .ok (.iconst 1, 1) := by decide +kernel
theorem dX1_hasDealer_19 : decode cX1_hasDealer 19 = .ok (.goto 4, 3) := by decide +kernel
theorem dX1_hasDealer_22 : decode cX1_hasDealer 22 = .ok (.iconst 0, 1) := by decide +kernel
theorem dX1_hasDealer_23 : decode cX1_hasDealer 23 = .ok (.ireturn, 1) := by decide +kernel
theorem dX1_addDealer_0 : decode cX1_addDealer 0 = .ok (.aload_n 0, 1) := by decide +kernel
theorem dX1_addDealer_1 : decode cX1_addDealer 1 = .ok (.getfield 36, 3) := by decide +kernel
theorem dX1_addDealer_4 : decode cX1_addDealer 4 = .ok (.ifCond .lt 12, 3) := by decide +kernel
theorem dX1_addDealer_7 : decode cX1_addDealer 7 = .ok (.aload_n 0, 1) := by decide +kernel
theorem dX1_addDealer_8 : decode cX1_addDealer 8 = .ok (.getfield 36, 3) := by decide +kernel
theorem dX1_addDealer_11 : decode cX1_addDealer 11 = .ok (.bipush 6, 2) := by decide +kernel
theorem dX1_addDealer_13 : decode cX1_addDealer 13 = .ok (.if_icmp .lt 6, 3) := by decide +kernel
theorem dX1_addDealer_16 : decode cX1_addDealer 16 = .ok (.ldc 68, 2) := by decide +kernel
theorem dX1_addDealer_18 : decode cX1_addDealer 18 = .ok (.ireturn, 1) := by decide +kernel
theorem dX1_addDealer_19 : decode cX1_addDealer 19 = .ok (.aload_n 0, 1) := by decide +kernel
theorem dX1_addDealer_20 : decode cX1_addDealer 20 = .ok (.getfield 32, 3) := by decide +kernel
theorem dX1_addDealer_23 : decode cX1_addDealer 23 = .ok (.aload_n 0, 1) := by decide +kernel
theorem dX1_addDealer_24 : decode cX1_addDealer 24 = .ok (.getfield 36, 3) := by decide +kernel
theorem dX1_addDealer_27 : decode cX1_addDealer 27 = .ok (.iconst 0, 1) := by decide +kernel
theorem dX1_addDealer_28 : decode cX1_addDealer 28 = .ok (.iastore, 1) := by decide +kernel
theorem dX1_addDealer_29 : decode cX1_addDealer 29 = .ok (.aload_n 0, 1) := by decide +kernel
theorem dX1_addDealer_30 : decode cX1_addDealer 30 = .ok (.dup, 1) := by decide +kernel
theorem dX1_addDealer_31 : decode cX1_addDealer 31 = .ok (.getfield 36, 3) := by decide +kernel
theorem dX1_addDealer_34 : decode cX1_addDealer 34 = .ok (.iconst 1, 1) := by decide +kernel
theorem dX1_addDealer_35 : decode cX1_addDealer 35 = .ok (.iadd, 1) := by decide +kernel
theorem dX1_addDealer_36 : decode cX1_addDealer 36 = .ok (.putfield 36, 3) := by decide +kernel
theorem dX1_addDealer_39 : decode cX1_addDealer 39 = .ok (.aload_n 0, 1) := by decide +kernel
theorem dX1_addDealer_40 : decode cX1_addDealer 40 = .ok (.getfield 36, 3) := by decide +kernel
theorem dX1_addDealer_43 : decode cX1_addDealer 43 = .ok (.iconst 1, 1) := by decide +kernel
theorem dX1_addDealer_44 : decode cX1_addDealer 44 = .ok (.isub, 1) := by decide +kernel
theorem dX1_addDealer_45 : decode cX1_addDealer 45 = .ok (.ireturn, 1) := by decide +kernel
set_option maxRecDepth 20000 in
theorem ggX1_addStone_X1_hasDealer : GoodIn wsX1_addStone wsX1_hasDealer := goodIn_r _ [8, 9, 28, 29, 30, 31, 32, 33, 34, 35, 36] (by decide +kernel) (by decide +kernel)
set_option maxRecDepth 20000 in
theorem gX1_addStone_X1_hasDealer : GoodIn wsX1_addStone (wsV RX1 69 RX1 yX1_hasDealer wsX1_hasDealer) := goodIn_app (goodIn_of _ (by decide +kernel)) ggX1_addStone_X1_hasDealer
set_option maxRecDepth 20000 in
theorem ggX1_addStone_X6_isLook : GoodIn wsX1_addStone wsX6_isLook := goodIn_r _ [12] (by decide +kernel) (by decide +kernel)
set_option maxRecDepth 20000 in
theorem gX1_addStone_X6_isLook_n73 : GoodIn wsX1_addStone (wsX6_isLook) := ggX1_addStone_X6_isLook
set_option maxRecDepth 20000 in
theorem ggX1_addStone_X5_add : GoodIn wsX1_addStone wsX5_add := goodIn_r _ [17, 18, 19, 20, 21, 22, 23, 24, 25, 26, 27, 37, 38, 39, 40, 41, 42, 43, 44, 45, 46] (by decide +kernel) (by decide +kernel)
set_option maxRecDepth 20000 in
theorem gX1_addStone_X5_add : GoodIn wsX1_addStone (wsV RX1 78 RX5 yX5_add wsX5_add) := goodIn_app (goodIn_of _ (by decide +kernel)) ggX1_addStone_X5_add
theorem dX1_addStone_0 : decode cX1_addStone 0 = .ok (.aload_n 0, 1) := by decide +kernel
theorem dX1_addStone_1 : decode cX1_addStone 1 = .ok (.iload_n 1, 1) := by decide +kernel
theorem dX1_addStone_2 : decode cX1_addStone 2 = .ok (.invokevirtual 69, 3) := by decide +kernel
theorem dX1_addStone_5 : decode cX1_addStone 5 = .ok (.ifCond .eq 24, 3) := by decide +kernel
theorem dX1_addStone_8 : decode cX1_addStone 8 = .ok (.iload_n 2, 1) := by decide +kernel
theorem dX1_addStone_9 : decode cX1_addStone 9 = .ok (.iconst 1, 1) := by decide +kernel
theorem dX1_addStone_10 : decode cX1_addStone 10 = .ok (.if_icmp .lt 19, 3) := by decide +kernel
theorem dX1_addStone_13 : decode cX1_addStone 13 = .ok (.iload_n 2, 1) := by decide +kernel
theorem dX1_addStone_14 : decode cX1_addStone 14 = .ok (.sipush 999, 3) := by decide +kernel
theorem dX1_addStone_17 : decode cX1_addStone 17 = .ok (.if_icmp .gt 12, 3) := by decide +kernel
theorem dX1_addStone_20 : decode cX1_addStone 20 = .ok (.iload_n 3, 1) := by decide +kernel
theorem dX1_addStone_21 : decode cX1_addStone 21 = .ok (.iload 4, 2) := by decide +kernel
theorem dX1_addStone_23 : decode cX1_addStone 23 = .ok (.invokestatic 73, 3) := by decide +kernel
theorem dX1_addStone_26 : decode cX1_addStone 26 = .ok (.ifCond .ne 6, 3) := by decide +kernel
theorem dX1_addStone_29 : decode cX1_addStone 29 = .ok (.ldc 77, 2) := by decide +kernel
theorem dX1_addStone_31 : decode cX1_addStone 31 = .ok (.ireturn, 1) := by decide +kernel
theorem dX1_addStone_32 : decode cX1_addStone 32 = .ok (.aload_n 0, 1) := by decide +kernel
theorem dX1_addStone_33 : decode cX1_addStone 33 = .ok (.getfield 21, 3) := by decide +kernel
theorem dX1_addStone_36 : decode cX1_addStone 36 = .ok (.iload_n 1, 1) := by decide +kernel
theorem dX1_addStone_37 : decode cX1_addStone 37 = .ok (.iload_n 2, 1) := by decide +kernel
theorem dX1_addStone_38 : decode cX1_addStone 38 = .ok (.iload_n 3, 1) := by decide +kernel
theorem dX1_addStone_39 : decode cX1_addStone 39 = .ok (.iload 4, 2) := by decide +kernel
theorem dX1_addStone_41 : decode cX1_addStone 41 = .ok (.invokevirtual 78, 3) := by decide +kernel
theorem dX1_addStone_44 : decode cX1_addStone 44 = .ok (.istore 5, 2) := by decide +kernel
theorem dX1_addStone_46 : decode cX1_addStone 46 = .ok (.iload 5, 2) := by decide +kernel
theorem dX1_addStone_48 : decode cX1_addStone 48 = .ok (.iconst (-1), 1) := by decide +kernel
theorem dX1_addStone_49 : decode cX1_addStone 49 = .ok (.if_icmp .ne 8, 3) := by decide +kernel
theorem dX1_addStone_52 : decode cX1_addStone 52 = .ok (.ldc 68, 2) := by decide +kernel
theorem dX1_addStone_54 : decode cX1_addStone 54 = .ok (.goto 5, 3) := by decide +kernel
theorem dX1_addStone_57 : decode cX1_addStone 57 = .ok (.iload 5, 2) := by decide +kernel
theorem dX1_addStone_59 : decode cX1_addStone 59 = .ok (.ireturn, 1) := by decide +kernel
set_option maxRecDepth 20000 in
theorem ggX1_putRate_X6_isGrade : GoodIn wsX1_putRate wsX6_isGrade := goodIn_r _ [6, 7, 8, 5, 9] (by decide +kernel) (by decide +kernel)
set_option maxRecDepth 20000 in
theorem gX1_putRate_X6_isGrade_n82 : GoodIn wsX1_putRate (wsX6_isGrade) := ggX1_putRate_X6_isGrade
set_option maxRecDepth 20000 in
theorem ggX1_putRate_X3_ownRate : GoodIn wsX1_putRate wsX3_ownRate := goodIn_r _ [14, 15, 16, 17, 18, 13, 19, 20, 21, 22, 40, 41, 42, 43] (by decide +kernel) (by decide +kernel)
set_option maxRecDepth 20000 in
theorem gX1_putRate_X3_ownRate : GoodIn wsX1_putRate (wsV RX1 86 RX3 yX3_ownRate wsX3_ownRate) := goodIn_app (goodIn_of _ (by decide +kernel)) ggX1_putRate_X3_ownRate
set_option maxRecDepth 20000 in
theorem ggX1_putRate_X3_change : GoodIn wsX1_putRate wsX3_change := goodIn_r _ [26, 15, 16, 17, 18, 13, 19, 20, 21, 22, 40, 41, 42, 43] (by decide +kernel) (by decide +kernel)
set_option maxRecDepth 20000 in
theorem gX1_putRate_X3_change : GoodIn wsX1_putRate (wsV RX1 90 RX3 yX3_change wsX3_change) := goodIn_app (goodIn_of _ (by decide +kernel)) ggX1_putRate_X3_change
set_option maxRecDepth 20000 in
theorem ggX1_putRate_X3_add : GoodIn wsX1_putRate wsX3_add := goodIn_r _ [30, 15, 20, 21, 22, 40, 41, 42, 43] (by decide +kernel) (by decide +kernel)
set_option maxRecDepth 20000 in
theorem gX1_putRate_X3_add : GoodIn wsX1_putRate (wsV RX1 94 RX3 yX3_add wsX3_add) := goodIn_app (goodIn_of _ (by decide +kernel)) ggX1_putRate_X3_add
theorem dX1_putRate_0 : decode cX1_putRate 0 = .ok (.iload_n 1, 1) := by decide +kernel
theorem dX1_putRate_1 : decode cX1_putRate 1 = .ok (.iload_n 2, 1) := by decide +kernel
theorem dX1_putRate_2 : decode cX1_putRate 2 = .ok (.iload_n 3, 1) := by decide +kernel
theorem dX1_putRate_3 : decode cX1_putRate 3 = .ok (.invokestatic 82, 3) := by decide +kernel
theorem dX1_putRate_6 : decode cX1_putRate 6 = .ok (.ifCond .eq 17, 3) := by decide +kernel
theorem dX1_putRate_9 : decode cX1_putRate 9 = .ok (.iload 4, 2) := by decide +kernel
theorem dX1_putRate_11 : decode cX1_putRate 11 = .ok (.iconst 1, 1) := by decide +kernel
theorem dX1_putRate_12 : decode cX1_putRate 12 = .ok (.if_icmp .lt 11, 3) := by decide +kernel
theorem dX1_putRate_15 : decode cX1_putRate 15 = .ok (.iload 4, 2) := by decide +kernel
theorem dX1_putRate_17 : decode cX1_putRate 17 = .ok (.sipush 9999, 3) := by decide +kernel
theorem dX1_putRate_20 : decode cX1_putRate 20 = .ok (.if_icmp .le 6, 3) := by decide +kernel
theorem dX1_putRate_23 : decode cX1_putRate 23 = .ok (.ldc 77, 2) := by decide +kernel
theorem dX1_putRate_25 : decode cX1_putRate 25 = .ok (.ireturn, 1) := by decide +kernel
theorem dX1_putRate_26 : decode cX1_putRate 26 = .ok (.aload_n 0, 1) := by decide +kernel
theorem dX1_putRate_27 : decode cX1_putRate 27 = .ok (.getfield 12, 3) := by decide +kernel
theorem dX1_putRate_30 : decode cX1_putRate 30 = .ok (.iload_n 1, 1) := by decide +kernel
theorem dX1_putRate_31 : decode cX1_putRate 31 = .ok (.iload_n 2, 1) := by decide +kernel
theorem dX1_putRate_32 : decode cX1_putRate 32 = .ok (.iload_n 3, 1) := by decide +kernel
theorem dX1_putRate_33 : decode cX1_putRate 33 = .ok (.invokevirtual 86, 3) := by decide +kernel
theorem dX1_putRate_36 : decode cX1_putRate 36 = .ok (.istore 5, 2) := by decide +kernel
theorem dX1_putRate_38 : decode cX1_putRate 38 = .ok (.iload 5, 2) := by decide +kernel
theorem dX1_putRate_40 : decode cX1_putRate 40 = .ok (.ifCond .eq 18, 3) := by decide +kernel
theorem dX1_putRate_43 : decode cX1_putRate 43 = .ok (.aload_n 0, 1) := by decide +kernel
theorem dX1_putRate_44 : decode cX1_putRate 44 = .ok (.getfield 12, 3) := by decide +kernel
theorem dX1_putRate_47 : decode cX1_putRate 47 = .ok (.iload_n 1, 1) := by decide +kernel
theorem dX1_putRate_48 : decode cX1_putRate 48 = .ok (.iload_n 2, 1) := by decide +kernel
theorem dX1_putRate_49 : decode cX1_putRate 49 = .ok (.iload_n 3, 1) := by decide +kernel
theorem dX1_putRate_50 : decode cX1_putRate 50 = .ok (.iload 4, 2) := by decide +kernel
theorem dX1_putRate_52 : decode cX1_putRate 52 = .ok (.invokevirtual 90, 3) := by decide +kernel
theorem dX1_putRate_55 : decode cX1_putRate 55 = .ok (.iload 5, 2) := by decide +kernel
theorem dX1_putRate_57 : decode cX1_putRate 57 = .ok (.ireturn, 1) := by decide +kernel
theorem dX1_putRate_58 : decode cX1_putRate 58 = .ok (.aload_n 0, 1) := by decide +kernel
theorem dX1_putRate_59 : decode cX1_putRate 59 = .ok (.getfield 12, 3) := by decide +kernel
theorem dX1_putRate_62 : decode cX1_putRate 62 = .ok (.iload_n 1, 1) := by decide +kernel
theorem dX1_putRate_63 : decode cX1_putRate 63 = .ok (.iload_n 2, 1) := by decide +kernel
theorem dX1_putRate_64 : decode cX1_putRate 64 = .ok (.iload_n 3, 1) := by decide +kernel
theorem dX1_putRate_65 : decode cX1_putRate 65 = .ok (.iload 4, 2) := by decide +kernel
theorem dX1_putRate_67 : decode cX1_putRate 67 = .ok (.invokevirtual 94, 3) := by decide +kernel
theorem dX1_putRate_70 : decode cX1_putRate 70 = .ok (.ifCond .eq 7, 3) := by decide +kernel
theorem dX1_putRate_73 : decode cX1_putRate 73 = .ok (.iconst 0, 1) := by decide +kernel
theorem dX1_putRate_74 : decode cX1_putRate 74 = .ok (.goto 5, 3) := by decide +kernel
theorem dX1_putRate_77 : decode cX1_putRate 77 = .ok (.ldc 68, 2) := by decide +kernel
theorem dX1_putRate_79 : decode cX1_putRate 79 = .ok (.ireturn, 1) := by decide +kernel
set_option maxRecDepth 20000 in
theorem ggX1_takeRate_X6_isGrade : GoodIn wsX1_takeRate wsX6_isGrade := goodIn_r _ [6, 7, 8, 5, 9] (by decide +kernel) (by decide +kernel)
set_option maxRecDepth 20000 in
theorem gX1_takeRate_X6_isGrade_n82 : GoodIn wsX1_takeRate (wsX6_isGrade) := ggX1_takeRate_X6_isGrade
set_option maxRecDepth 20000 in
theorem ggX1_takeRate_X3_ownRate : GoodIn wsX1_takeRate wsX3_ownRate := goodIn_r _ [14, 15, 16, 17, 18, 13, 19, 20, 21, 22, 36, 37, 38, 39] (by decide +kernel) (by decide +kernel)
set_option maxRecDepth 20000 in
theorem gX1_takeRate_X3_ownRate : GoodIn wsX1_takeRate (wsV RX1 86 RX3 yX3_ownRate wsX3_ownRate) := goodIn_app (goodIn_of _ (by decide +kernel)) ggX1_takeRate_X3_ownRate
set_option maxRecDepth 20000 in
theorem ggX1_takeRate_X3_change : GoodIn wsX1_takeRate wsX3_change := goodIn_r _ [26, 15, 16, 17, 18, 13, 19, 20, 21, 22, 36, 37, 38, 39] (by decide +kernel) (by decide +kernel)
set_option maxRecDepth 20000 in
theorem gX1_takeRate_X3_change : GoodIn wsX1_takeRate (wsV RX1 90 RX3 yX3_change wsX3_change) := goodIn_app (goodIn_of _ (by decide +kernel)) ggX1_takeRate_X3_change
theorem dX1_takeRate_0 : decode cX1_takeRate 0 = .ok (.iload_n 1, 1) := by decide +kernel
theorem dX1_takeRate_1 : decode cX1_takeRate 1 = .ok (.iload_n 2, 1) := by decide +kernel
theorem dX1_takeRate_2 : decode cX1_takeRate 2 = .ok (.iload_n 3, 1) := by decide +kernel
theorem dX1_takeRate_3 : decode cX1_takeRate 3 = .ok (.invokestatic 82, 3) := by decide +kernel
theorem dX1_takeRate_6 : decode cX1_takeRate 6 = .ok (.ifCond .ne 6, 3) := by decide +kernel
theorem dX1_takeRate_9 : decode cX1_takeRate 9 = .ok (.ldc 77, 2) := by decide +kernel
theorem dX1_takeRate_11 : decode cX1_takeRate 11 = .ok (.ireturn, 1) := by decide +kernel
theorem dX1_takeRate_12 : decode cX1_takeRate 12 = .ok (.aload_n 0, 1) := by decide +kernel
theorem dX1_takeRate_13 : decode cX1_takeRate 13 = .ok (.getfield 12, 3) := by decide +kernel
theorem dX1_takeRate_16 : decode cX1_takeRate 16 = .ok (.iload_n 1, 1) := by decide +kernel
theorem dX1_takeRate_17 : decode cX1_takeRate 17 = .ok (.iload_n 2, 1) := by decide +kernel
theorem dX1_takeRate_18 : decode cX1_takeRate 18 = .ok (.iload_n 3, 1) := by decide +kernel
theorem dX1_takeRate_19 : decode cX1_takeRate 19 = .ok (.invokevirtual 86, 3) := by decide +kernel
theorem dX1_takeRate_22 : decode cX1_takeRate 22 = .ok (.istore 4, 2) := by decide +kernel
theorem dX1_takeRate_24 : decode cX1_takeRate 24 = .ok (.iload 4, 2) := by decide +kernel
theorem dX1_takeRate_26 : decode cX1_takeRate 26 = .ok (.ifCond .ne 6, 3) := by decide +kernel
theorem dX1_takeRate_29 : decode cX1_takeRate 29 = .ok (.ldc 97, 2) := by decide +kernel
theorem dX1_takeRate_31 : decode cX1_takeRate 31 = .ok (.ireturn, 1) := by decide +kernel
theorem dX1_takeRate_32 : decode cX1_takeRate 32 = .ok (.aload_n 0, 1) := by decide +kernel
theorem dX1_takeRate_33 : decode cX1_takeRate 33 = .ok (.getfield 12, 3) := by decide +kernel
theorem dX1_takeRate_36 : decode cX1_takeRate 36 = .ok (.iload_n 1, 1) := by decide +kernel
theorem dX1_takeRate_37 : decode cX1_takeRate 37 = .ok (.iload_n 2, 1) := by decide +kernel
theorem dX1_takeRate_38 : decode cX1_takeRate 38 = .ok (.iload_n 3, 1) := by decide +kernel
theorem dX1_takeRate_39 : decode cX1_takeRate 39 = .ok (.iconst 0, 1) := by decide +kernel
theorem dX1_takeRate_40 : decode cX1_takeRate 40 = .ok (.invokevirtual 90, 3) := by decide +kernel
theorem dX1_takeRate_43 : decode cX1_takeRate 43 = .ok (.iload 4, 2) := by decide +kernel
theorem dX1_takeRate_45 : decode cX1_takeRate 45 = .ok (.ireturn, 1) := by decide +kernel
set_option maxRecDepth 20000 in
theorem ggX1_lendStones_X1_hasDealer : GoodIn wsX1_lendStones wsX1_hasDealer := goodIn_r _ [11, 12, 48, 49, 50, 51, 52, 53, 54, 55, 56] (by decide +kernel) (by decide +kernel)
set_option maxRecDepth 20000 in
theorem gX1_lendStones_X1_hasDealer : GoodIn wsX1_lendStones (wsV RX1 69 RX1 yX1_hasDealer wsX1_hasDealer) := goodIn_app (goodIn_of _ (by decide +kernel)) ggX1_lendStones_X1_hasDealer
set_option maxRecDepth 20000 in
theorem ggX1_lendStones_X1_canLend : GoodIn wsX1_lendStones wsX1_canLend := goodIn_r _ [16, 1, 17, 18, 19, 10, 20, 21, 22, 23, 24, 25, 26, 27, 28, 29, 30, 31, 32, 33, 34, 35, 36, 48, 49, 50, 51, 52, 53, 54, 55, 56, 57, 58, 59, 60, 61, 62, 63, 64, 65, 66, 67, 68, 69, 70] (by decide +kernel) (by decide +kernel)
set_option maxRecDepth 20000 in
theorem gX1_lendStones_X1_canLend : GoodIn wsX1_lendStones (wsV RX1 101 RX1 yX1_canLend wsX1_canLend) := goodIn_app (goodIn_of _ (by decide +kernel)) ggX1_lendStones_X1_canLend
set_option maxRecDepth 20000 in
theorem ggX1_lendStones_X2_add : GoodIn wsX1_lendStones wsX2_add := goodIn_r _ [41, 42, 43, 44, 45, 46, 47, 71, 72, 73, 74, 75, 76] (by decide +kernel) (by decide +kernel)
set_option maxRecDepth 20000 in
theorem gX1_lendStones_X2_add : GoodIn wsX1_lendStones (wsV RX1 104 RX2 yX2_add wsX2_add) := goodIn_app (goodIn_of _ (by decide +kernel)) ggX1_lendStones_X2_add
set_option maxRecDepth 20000 in
theorem ggX1_lendStones_X1_priceOf : GoodIn wsX1_lendStones wsX1_priceOf := goodIn_r _ [20, 21, 1, 22, 23, 24, 25, 26, 27, 28, 29, 30, 31, 32, 33, 34, 35, 36, 48, 49, 50, 51, 52, 53, 54, 55, 56, 57, 58, 59, 60, 61, 62, 63, 64, 65, 66, 67, 68, 69, 70] (by decide +kernel) (by decide +kernel)
set_option maxRecDepth 20000 in
theorem gX1_lendStones_X1_priceOf : GoodIn wsX1_lendStones (wsV RX1 113 RX1 yX1_priceOf wsX1_priceOf) := goodIn_app (goodIn_of _ (by decide +kernel)) ggX1_lendStones_X1_priceOf
theorem dX1_lendStones_0 : decode cX1_lendStones 0 = .ok (.aload_n 0, 1) := by decide +kernel
theorem dX1_lendStones_1 : decode cX1_lendStones 1 = .ok (.iload_n 1, 1) := by decide +kernel
theorem dX1_lendStones_2 : decode cX1_lendStones 2 = .ok (.invokevirtual 69, 3) := by decide +kernel
theorem dX1_lendStones_5 : decode cX1_lendStones 5 = .ok (.ifCond .eq 45, 3) := by decide +kernel
theorem dX1_lendStones_8 : decode cX1_lendStones 8 = .ok (.aload_n 0, 1) := by decide +kernel
theorem dX1_lendStones_9 : decode cX1_lendStones 9 = .ok (.iload_n 2, 1) := by decide +kernel
theorem dX1_lendStones_10 : decode cX1_lendStones 10 = .ok (.invokevirtual 69, 3) := by decide +kernel
theorem dX1_lendStones_13 : decode cX1_lendStones 13 = .ok (.ifCond .eq 37, 3) := by decide +kernel
theorem dX1_lendStones_16 : decode cX1_lendStones 16 = .ok (.iload_n 1, 1) := by decide +kernel
theorem dX1_lendStones_17 : decode cX1_lendStones 17 = .ok (.iload_n 2, 1) := by decide +kernel
theorem dX1_lendStones_18 : decode cX1_lendStones 18 = .ok (.if_icmp .eq 32, 3) := by decide +kernel
theorem dX1_lendStones_21 : decode cX1_lendStones 21 = .ok (.iload_n 3, 1) := by decide +kernel
theorem dX1_lendStones_22 : decode cX1_lendStones 22 = .ok (.iconst 1, 1) := by decide +kernel
theorem dX1_lendStones_23 : decode cX1_lendStones 23 = .ok (.if_icmp .lt 27, 3) := by decide +kernel
theorem dX1_lendStones_26 : decode cX1_lendStones 26 = .ok (.iload_n 3, 1) := by decide +kernel
theorem dX1_lendStones_27 : decode cX1_lendStones 27 = .ok (.bipush 90, 2) := by decide +kernel
theorem dX1_lendStones_29 : decode cX1_lendStones 29 = .ok (.if_icmp .gt 21, 3) := by decide +kernel
theorem dX1_lendStones_32 : decode cX1_lendStones 32 = .ok (.iload 4, 2) := by decide +kernel
theorem dX1_lendStones_34 : decode cX1_lendStones 34 = .ok (.ifCond .le 16, 3) := by decide +kernel
theorem dX1_lendStones_37 : decode cX1_lendStones 37 = .ok (.iload 4, 2) := by decide +kernel
theorem dX1_lendStones_39 : decode cX1_lendStones 39 = .ok (.aload_n 0, 1) := by decide +kernel
theorem dX1_lendStones_40 : decode cX1_lendStones 40 = .ok (.getfield 21, 3) := by decide +kernel
theorem dX1_lendStones_43 : decode cX1_lendStones 43 = .ok (.getfield 98, 3) := by decide +kernel
theorem dX1_lendStones_46 : decode cX1_lendStones 46 = .ok (.ishr, 1) := by decide +kernel
theorem dX1_lendStones_47 : decode cX1_lendStones 47 = .ok (.ifCond .eq 6, 3) := by decide +kernel
theorem dX1_lendStones_50 : decode cX1_lendStones 50 = .ok (.ldc 77, 2) := by decide +kernel
theorem dX1_lendStones_52 : decode cX1_lendStones 52 = .ok (.ireturn, 1) := by decide +kernel
theorem dX1_lendStones_53 : decode cX1_lendStones 53 = .ok (.aload_n 0, 1) := by decide +kernel
theorem dX1_lendStones_54 : decode cX1_lendStones 54 = .ok (.iload_n 1, 1) := by decide +kernel
theorem dX1_lendStones_55 : decode cX1_lendStones 55 = .ok (.iload 4, 2) := by decide +kernel
theorem dX1_lendStones_57 : decode cX1_lendStones 57 = .ok (.invokevirtual 101, 3) := by decide +kernel
theorem dX1_lendStones_60 : decode cX1_lendStones 60 = .ok (.ifCond .ne 6, 3) := by decide +kernel
theorem dX1_lendStones_63 : decode cX1_lendStones 63 = .ok (.ldc 97, 2) := by decide +kernel
theorem dX1_lendStones_65 : decode cX1_lendStones 65 = .ok (.ireturn, 1) := by decide +kernel
theorem dX1_lendStones_66 : decode cX1_lendStones 66 = .ok (.aload_n 0, 1) := by decide +kernel
theorem dX1_lendStones_67 : decode cX1_lendStones 67 = .ok (.getfield 28, 3) := by decide +kernel
theorem dX1_lendStones_70 : decode cX1_lendStones 70 = .ok (.iload_n 1, 1) := by decide +kernel
theorem dX1_lendStones_71 : decode cX1_lendStones 71 = .ok (.iload_n 2, 1) := by decide +kernel
theorem dX1_lendStones_72 : decode cX1_lendStones 72 = .ok (.aload_n 0, 1) := by decide +kernel
theorem dX1_lendStones_73 : decode cX1_lendStones 73 = .ok (.getfield 40, 3) := by decide +kernel
theorem dX1_lendStones_76 : decode cX1_lendStones 76 = .ok (.iload_n 3, 1) := by decide +kernel
theorem dX1_lendStones_77 : decode cX1_lendStones 77 = .ok (.iadd, 1) := by decide +kernel
theorem dX1_lendStones_78 : decode cX1_lendStones 78 = .ok (.iload 4, 2) := by decide +kernel
theorem dX1_lendStones_80 : decode cX1_lendStones 80 = .ok (.invokevirtual 104, 3) := by decide +kernel
theorem dX1_lendStones_83 : decode cX1_lendStones 83 = .ok (.istore 5, 2) := by decide +kernel
theorem dX1_lendStones_85 : decode cX1_lendStones 85 = .ok (.iload 5, 2) := by decide +kernel
theorem dX1_lendStones_87 : decode cX1_lendStones 87 = .ok (.iconst (-1), 1) := by decide +kernel
theorem dX1_lendStones_88 : decode cX1_lendStones 88 = .ok (.if_icmp .ne 6, 3) := by decide +kernel
theorem dX1_lendStones_91 : decode cX1_lendStones 91 = .ok (.ldc 68, 2) := by decide +kernel
theorem dX1_lendStones_93 : decode cX1_lendStones 93 = .ok (.ireturn, 1) := by decide +kernel
theorem dX1_lendStones_94 : decode cX1_lendStones 94 = .ok (.iconst 0, 1) := by decide +kernel
theorem dX1_lendStones_95 : decode cX1_lendStones 95 = .ok (.istore 6, 2) := by decide +kernel
theorem dX1_lendStones_97 : decode cX1_lendStones 97 = .ok (.iload 6, 2) := by decide +kernel
theorem dX1_lendStones_99 : decode cX1_lendStones 99 = .ok (.aload_n 0, 1) := by decide +kernel
theorem dX1_lendStones_100 : decode cX1_lendStones 100 = .ok (.getfield 21, 3) := by decide +kernel
theorem dX1_lendStones_103 : decode cX1_lendStones 103 = .ok (.getfield 98, 3) := by decide +kernel
theorem dX1_lendStones_106 : decode cX1_lendStones 106 = .ok (.if_icmp .ge 59, 3) := by decide +kernel
theorem dX1_lendStones_109 : decode cX1_lendStones 109 = .ok (.iload 4, 2) := by decide +kernel
theorem dX1_lendStones_111 : decode cX1_lendStones 111 = .ok (.iload 6, 2) := by decide +kernel
theorem dX1_lendStones_113 : decode cX1_lendStones 113 = .ok (.ishr, 1) := by decide +kernel
theorem dX1_lendStones_114 : decode cX1_lendStones 114 = .ok (.iconst 1, 1) := by decide +kernel
theorem dX1_lendStones_115 : decode cX1_lendStones 115 = .ok (.iand, 1) := by decide +kernel
theorem dX1_lendStones_116 : decode cX1_lendStones 116 = .ok (.iconst 1, 1) := by decide +kernel
theorem dX1_lendStones_117 : decode cX1_lendStones 117 = .ok (.if_icmp .ne 42, 3) := by decide +kernel
theorem dX1_lendStones_120 : decode cX1_lendStones 120 = .ok (.aload_n 0, 1) := by decide +kernel
theorem dX1_lendStones_121 : decode cX1_lendStones 121 = .ok (.getfield 21, 3) := by decide +kernel
theorem dX1_lendStones_124 : decode cX1_lendStones 124 = .ok (.getfield 105, 3) := by decide +kernel
theorem dX1_lendStones_127 : decode cX1_lendStones 127 = .ok (.iload 6, 2) := by decide +kernel
theorem dX1_lendStones_129 : decode cX1_lendStones 129 = .ok (.iload_n 2, 1) := by decide +kernel
theorem dX1_lendStones_130 : decode cX1_lendStones 130 = .ok (.iastore, 1) := by decide +kernel
theorem dX1_lendStones_131 : decode cX1_lendStones 131 = .ok (.aload_n 0, 1) := by decide +kernel
theorem dX1_lendStones_132 : decode cX1_lendStones 132 = .ok (.getfield 21, 3) := by decide +kernel
theorem dX1_lendStones_135 : decode cX1_lendStones 135 = .ok (.getfield 108, 3) := by decide +kernel
theorem dX1_lendStones_138 : decode cX1_lendStones 138 = .ok (.iload 6, 2) := by decide +kernel
theorem dX1_lendStones_140 : decode cX1_lendStones 140 = .ok (.iload 5, 2) := by decide +kernel
theorem dX1_lendStones_142 : decode cX1_lendStones 142 = .ok (.iastore, 1) := by decide +kernel
theorem dX1_lendStones_143 : decode cX1_lendStones 143 = .ok (.aload_n 0, 1) := by decide +kernel
theorem dX1_lendStones_144 : decode cX1_lendStones 144 = .ok (.getfield 21, 3) := by decide +kernel
theorem dX1_lendStones_147 : decode cX1_lendStones 147 = .ok (.getfield 110, 3) := by decide +kernel
theorem dX1_lendStones_150 : decode cX1_lendStones 150 = .ok (.iload 6, 2) := by decide +kernel
theorem dX1_lendStones_152 : decode cX1_lendStones 152 = .ok (.aload_n 0, 1) := by decide +kernel
theorem dX1_lendStones_153 : decode cX1_lendStones 153 = .ok (.iload 6, 2) := by decide +kernel
theorem dX1_lendStones_155 : decode cX1_lendStones 155 = .ok (.invokevirtual 113, 3) := by decide +kernel
theorem dX1_lendStones_158 : decode cX1_lendStones 158 = .ok (.iastore, 1) := by decide +kernel
theorem dX1_lendStones_159 : decode cX1_lendStones 159 = .ok (.iinc 6 1, 3) := by decide +kernel
theorem dX1_lendStones_162 : decode cX1_lendStones 162 = .ok (.goto (-65), 3) := by decide +kernel
theorem dX1_lendStones_165 : decode cX1_lendStones 165 = .ok (.iload 5, 2) := by decide +kernel
theorem dX1_lendStones_167 : decode cX1_lendStones 167 = .ok (.ireturn, 1) := by decide +kernel
set_option maxRecDepth 20000 in
theorem ggX1_giveBack_X5_has : GoodIn wsX1_giveBack wsX5_has := goodIn_r _ [8, 9, 35, 36, 37, 38, 39, 40, 41, 42, 43, 44] (by decide +kernel) (by decide +kernel)
set_option maxRecDepth 20000 in
theorem gX1_giveBack_X5_has : GoodIn wsX1_giveBack (wsV RX1 117 RX5 yX5_has wsX5_has) := goodIn_app (goodIn_of _ (by decide +kernel)) ggX1_giveBack_X5_has
set_option maxRecDepth 20000 in
theorem ggX1_giveBack_X5_isOut : GoodIn wsX1_giveBack wsX5_isOut := goodIn_r _ [13, 14, 35, 36, 37, 38, 39, 40, 41, 42, 43, 44] (by decide +kernel) (by decide +kernel)
set_option maxRecDepth 20000 in
theorem gX1_giveBack_X5_isOut : GoodIn wsX1_giveBack (wsV RX1 120 RX5 yX5_isOut wsX5_isOut) := goodIn_app (goodIn_of _ (by decide +kernel)) ggX1_giveBack_X5_isOut
set_option maxRecDepth 20000 in
theorem ggX1_giveBack_X5_setWhere : GoodIn wsX1_giveBack wsX5_setWhere := goodIn_r _ [18, 9, 35, 36, 37, 38, 39, 40, 41, 42, 43, 44] (by decide +kernel) (by decide +kernel)
set_option maxRecDepth 20000 in
theorem gX1_giveBack_X5_setWhere : GoodIn wsX1_giveBack (wsV RX1 126 RX5 yX5_setWhere wsX5_setWhere) := goodIn_app (goodIn_of _ (by decide +kernel)) ggX1_giveBack_X5_setWhere
set_option maxRecDepth 20000 in
theorem ggX1_giveBack_J6_bitCount_0f7a4 : GoodIn wsX1_giveBack wsJ6_bitCount_0f7a4 := goodIn_r _ [22, 23, 24, 25] (by decide +kernel) (by decide +kernel)
set_option maxRecDepth 20000 in
theorem gX1_giveBack_J6_bitCount_0f7a4 : GoodIn wsX1_giveBack (va_wsS RX1 130 yJ6_bitCount_0f7a4 wsJ6_bitCount_0f7a4) := goodIn_app (goodIn_of _ (by decide +kernel)) ggX1_giveBack_J6_bitCount_0f7a4
theorem dX1_giveBack_0 : decode cX1_giveBack 0 = .ok (.aload_n 0, 1) := by decide +kernel
theorem dX1_giveBack_1 : decode cX1_giveBack 1 = .ok (.getfield 21, 3) := by decide +kernel
theorem dX1_giveBack_4 : decode cX1_giveBack 4 = .ok (.iload_n 1, 1) := by decide +kernel
theorem dX1_giveBack_5 : decode cX1_giveBack 5 = .ok (.invokevirtual 117, 3) := by decide +kernel
theorem dX1_giveBack_8 : decode cX1_giveBack 8 = .ok (.ifCond .ne 6, 3) := by decide +kernel
theorem dX1_giveBack_11 : decode cX1_giveBack 11 = .ok (.ldc 77, 2) := by decide +kernel
theorem dX1_giveBack_13 : decode cX1_giveBack 13 = .ok (.ireturn, 1) := by decide +kernel
theorem dX1_giveBack_14 : decode cX1_giveBack 14 = .ok (.aload_n 0, 1) := by decide +kernel
theorem dX1_giveBack_15 : decode cX1_giveBack 15 = .ok (.getfield 21, 3) := by decide +kernel
theorem dX1_giveBack_18 : decode cX1_giveBack 18 = .ok (.iload_n 1, 1) := by decide +kernel
theorem dX1_giveBack_19 : decode cX1_giveBack 19 = .ok (.invokevirtual 120, 3) := by decide +kernel
theorem dX1_giveBack_22 : decode cX1_giveBack 22 = .ok (.ifCond .ne 6, 3) := by decide +kernel
theorem dX1_giveBack_25 : decode cX1_giveBack 25 = .ok (.ldc 97, 2) := by decide +kernel
theorem dX1_giveBack_27 : decode cX1_giveBack 27 = .ok (.ireturn, 1) := by decide +kernel
theorem dX1_giveBack_28 : decode cX1_giveBack 28 = .ok (.aload_n 0, 1) := by decide +kernel
theorem dX1_giveBack_29 : decode cX1_giveBack 29 = .ok (.getfield 21, 3) := by decide +kernel
theorem dX1_giveBack_32 : decode cX1_giveBack 32 = .ok (.getfield 108, 3) := by decide +kernel
theorem dX1_giveBack_35 : decode cX1_giveBack 35 = .ok (.iload_n 1, 1) := by decide +kernel
theorem dX1_giveBack_36 : decode cX1_giveBack 36 = .ok (.iaload, 1) := by decide +kernel
theorem dX1_giveBack_37 : decode cX1_giveBack 37 = .ok (.istore_n 2, 1) := by decide +kernel
theorem dX1_giveBack_38 : decode cX1_giveBack 38 = .ok (.aload_n 0, 1) := by decide +kernel
theorem dX1_giveBack_39 : decode cX1_giveBack 39 = .ok (.getfield 21, 3) := by decide +kernel
theorem dX1_giveBack_42 : decode cX1_giveBack 42 = .ok (.getfield 105, 3) := by decide +kernel
theorem dX1_giveBack_45 : decode cX1_giveBack 45 = .ok (.iload_n 1, 1) := by decide +kernel
theorem dX1_giveBack_46 : decode cX1_giveBack 46 = .ok (.aload_n 0, 1) := by decide +kernel
theorem dX1_giveBack_47 : decode cX1_giveBack 47 = .ok (.getfield 21, 3) := by decide +kernel
theorem dX1_giveBack_50 : decode cX1_giveBack 50 = .ok (.getfield 123, 3) := by decide +kernel
theorem dX1_giveBack_53 : decode cX1_giveBack 53 = .ok (.iload_n 1, 1) := by decide +kernel
theorem dX1_giveBack_54 : decode cX1_giveBack 54 = .ok (.iaload, 1) := by decide +kernel
theorem dX1_giveBack_55 : decode cX1_giveBack 55 = .ok (.iastore, 1) := by decide +kernel
theorem dX1_giveBack_56 : decode cX1_giveBack 56 = .ok (.aload_n 0, 1) := by decide +kernel
theorem dX1_giveBack_57 : decode cX1_giveBack 57 = .ok (.getfield 21, 3) := by decide +kernel
theorem dX1_giveBack_60 : decode cX1_giveBack 60 = .ok (.getfield 108, 3) := by decide +kernel
theorem dX1_giveBack_63 : decode cX1_giveBack 63 = .ok (.iload_n 1, 1) := by decide +kernel
theorem dX1_giveBack_64 : decode cX1_giveBack 64 = .ok (.iconst (-1), 1) := by decide +kernel
theorem dX1_giveBack_65 : decode cX1_giveBack 65 = .ok (.iastore, 1) := by decide +kernel
theorem dX1_giveBack_66 : decode cX1_giveBack 66 = .ok (.aload_n 0, 1) := by decide +kernel
theorem dX1_giveBack_67 : decode cX1_giveBack 67 = .ok (.getfield 21, 3) := by decide +kernel
theorem dX1_giveBack_70 : decode cX1_giveBack 70 = .ok (.aload_n 0, 1) := by decide +kernel
theorem dX1_giveBack_71 : decode cX1_giveBack 71 = .ok (.getfield 21, 3) := by decide +kernel
theorem dX1_giveBack_74 : decode cX1_giveBack 74 = .ok (.getfield 108, 3) := by decide +kernel
theorem dX1_giveBack_77 : decode cX1_giveBack 77 = .ok (.iload_n 2, 1) := by decide +kernel
theorem dX1_giveBack_78 : decode cX1_giveBack 78 = .ok (.invokevirtual 126, 3) := by decide +kernel
theorem dX1_giveBack_81 : decode cX1_giveBack 81 = .ok (.invokestatic 130, 3) := by decide +kernel
theorem dX1_giveBack_84 : decode cX1_giveBack 84 = .ok (.ireturn, 1) := by decide +kernel
set_option maxRecDepth 20000 in
theorem ggX1_keepStone_X5_has : GoodIn wsX1_keepStone wsX5_has := goodIn_r _ [8, 9, 42, 43, 44, 45, 46, 47, 48, 49, 50, 51] (by decide +kernel) (by decide +kernel)
set_option maxRecDepth 20000 in
theorem gX1_keepStone_X5_has : GoodIn wsX1_keepStone (wsV RX1 117 RX5 yX5_has wsX5_has) := goodIn_app (goodIn_of _ (by decide +kernel)) ggX1_keepStone_X5_has
set_option maxRecDepth 20000 in
theorem ggX1_keepStone_X5_isOut : GoodIn wsX1_keepStone wsX5_isOut := goodIn_r _ [13, 14, 42, 43, 44, 45, 46, 47, 48, 49, 50, 51] (by decide +kernel) (by decide +kernel)
set_option maxRecDepth 20000 in
theorem gX1_keepStone_X5_isOut : GoodIn wsX1_keepStone (wsV RX1 120 RX5 yX5_isOut wsX5_isOut) := goodIn_app (goodIn_of _ (by decide +kernel)) ggX1_keepStone_X5_isOut
set_option maxRecDepth 20000 in
theorem ggX1_keepStone_X1_keepFor : GoodIn wsX1_keepStone wsX1_keepFor := goodIn_r _ [19, 1, 20, 21, 22, 23, 24, 18, 25, 26, 27, 28, 29, 30, 31, 32, 33, 34, 35, 36, 37, 38, 39, 40, 41, 42, 43, 44, 45, 46, 47, 48, 49, 50, 51, 52, 53, 54, 55, 56, 57] (by decide +kernel) (by decide +kernel)
set_option maxRecDepth 20000 in
theorem gX1_keepStone_X1_keepFor : GoodIn wsX1_keepStone (wsV RX1 135 RX1 yX1_keepFor wsX1_keepFor) := goodIn_app (goodIn_of _ (by decide +kernel)) ggX1_keepStone_X1_keepFor
theorem dX1_keepStone_0 : decode cX1_keepStone 0 = .ok (.aload_n 0, 1) := by decide +kernel
theorem dX1_keepStone_1 : decode cX1_keepStone 1 = .ok (.getfield 21, 3) := by decide +kernel
theorem dX1_keepStone_4 : decode cX1_keepStone 4 = .ok (.iload_n 1, 1) := by decide +kernel
theorem dX1_keepStone_5 : decode cX1_keepStone 5 = .ok (.invokevirtual 117, 3) := by decide +kernel
theorem dX1_keepStone_8 : decode cX1_keepStone 8 = .ok (.ifCond .ne 6, 3) := by decide +kernel
theorem dX1_keepStone_11 : decode cX1_keepStone 11 = .ok (.ldc 77, 2) := by decide +kernel
theorem dX1_keepStone_13 : decode cX1_keepStone 13 = .ok (.ireturn, 1) := by decide +kernel
theorem dX1_keepStone_14 : decode cX1_keepStone 14 = .ok (.aload_n 0, 1) := by decide +kernel
theorem dX1_keepStone_15 : decode cX1_keepStone 15 = .ok (.getfield 21, 3) := by decide +kernel
theorem dX1_keepStone_18 : decode cX1_keepStone 18 = .ok (.iload_n 1, 1) := by decide +kernel
theorem dX1_keepStone_19 : decode cX1_keepStone 19 = .ok (.invokevirtual 120, 3) := by decide +kernel
theorem dX1_keepStone_22 : decode cX1_keepStone 22 = .ok (.ifCond .ne 6, 3) := by decide +kernel
theorem dX1_keepStone_25 : decode cX1_keepStone 25 = .ok (.ldc 97, 2) := by decide +kernel
theorem dX1_keepStone_27 : decode cX1_keepStone 27 = .ok (.ireturn, 1) := by decide +kernel
theorem dX1_keepStone_28 : decode cX1_keepStone 28 = .ok (.aload_n 0, 1) := by decide +kernel
theorem dX1_keepStone_29 : decode cX1_keepStone 29 = .ok (.getfield 21, 3) := by decide +kernel
theorem dX1_keepStone_32 : decode cX1_keepStone 32 = .ok (.getfield 110, 3) := by decide +kernel
theorem dX1_keepStone_35 : decode cX1_keepStone 35 = .ok (.iload_n 1, 1) := by decide +kernel
theorem dX1_keepStone_36 : decode cX1_keepStone 36 = .ok (.iaload, 1) := by decide +kernel
theorem dX1_keepStone_37 : decode cX1_keepStone 37 = .ok (.istore_n 2, 1) := by decide +kernel
theorem dX1_keepStone_38 : decode cX1_keepStone 38 = .ok (.aload_n 0, 1) := by decide +kernel
theorem dX1_keepStone_39 : decode cX1_keepStone 39 = .ok (.iload_n 1, 1) := by decide +kernel
theorem dX1_keepStone_40 : decode cX1_keepStone 40 = .ok (.iload_n 2, 1) := by decide +kernel
theorem dX1_keepStone_41 : decode cX1_keepStone 41 = .ok (.invokevirtual 135, 3) := by decide +kernel
theorem dX1_keepStone_44 : decode cX1_keepStone 44 = .ok (.iload_n 2, 1) := by decide +kernel
theorem dX1_keepStone_45 : decode cX1_keepStone 45 = .ok (.ireturn, 1) := by decide +kernel
set_option maxRecDepth 20000 in
theorem ggX1_sellStone_X5_has : GoodIn wsX1_sellStone wsX5_has := goodIn_r _ [10, 11, 37, 38, 39, 40, 41, 42, 43, 44, 45, 46] (by decide +kernel) (by decide +kernel)
set_option maxRecDepth 20000 in
theorem gX1_sellStone_X5_has : GoodIn wsX1_sellStone (wsV RX1 117 RX5 yX5_has wsX5_has) := goodIn_app (goodIn_of _ (by decide +kernel)) ggX1_sellStone_X5_has
set_option maxRecDepth 20000 in
theorem ggX1_sellStone_X5_isOut : GoodIn wsX1_sellStone wsX5_isOut := goodIn_r _ [15, 16, 37, 38, 39, 40, 41, 42, 43, 44, 45, 46] (by decide +kernel) (by decide +kernel)
set_option maxRecDepth 20000 in
theorem gX1_sellStone_X5_isOut : GoodIn wsX1_sellStone (wsV RX1 120 RX5 yX5_isOut wsX5_isOut) := goodIn_app (goodIn_of _ (by decide +kernel)) ggX1_sellStone_X5_isOut
set_option maxRecDepth 20000 in
theorem ggX1_sellStone_X5_isSold : GoodIn wsX1_sellStone wsX5_isSold := goodIn_r _ [20, 21, 37, 38, 39, 40, 41, 42, 43, 44, 45, 46] (by decide +kernel) (by decide +kernel)
set_option maxRecDepth 20000 in
theorem gX1_sellStone_X5_isSold : GoodIn wsX1_sellStone (wsV RX1 139 RX5 yX5_isSold wsX5_isSold) := goodIn_app (goodIn_of _ (by decide +kernel)) ggX1_sellStone_X5_isSold
set_option maxRecDepth 20000 in
theorem ggX1_sellStone_X1_hasDealer : GoodIn wsX1_sellStone wsX1_hasDealer := goodIn_r _ [26, 27, 28, 29, 30, 31, 32, 33, 34, 35, 36] (by decide +kernel) (by decide +kernel)
set_option maxRecDepth 20000 in
theorem gX1_sellStone_X1_hasDealer : GoodIn wsX1_sellStone (wsV RX1 69 RX1 yX1_hasDealer wsX1_hasDealer) := goodIn_app (goodIn_of _ (by decide +kernel)) ggX1_sellStone_X1_hasDealer
theorem dX1_sellStone_0 : decode cX1_sellStone 0 = .ok (.aload_n 0, 1) := by decide +kernel
theorem dX1_sellStone_1 : decode cX1_sellStone 1 = .ok (.getfield 21, 3) := by decide +kernel
theorem dX1_sellStone_4 : decode cX1_sellStone 4 = .ok (.iload_n 1, 1) := by decide +kernel
theorem dX1_sellStone_5 : decode cX1_sellStone 5 = .ok (.invokevirtual 117, 3) := by decide +kernel
theorem dX1_sellStone_8 : decode cX1_sellStone 8 = .ok (.ifCond .eq 15, 3) := by decide +kernel
theorem dX1_sellStone_11 : decode cX1_sellStone 11 = .ok (.iload_n 2, 1) := by decide +kernel
theorem dX1_sellStone_12 : decode cX1_sellStone 12 = .ok (.iconst 1, 1) := by decide +kernel
theorem dX1_sellStone_13 : decode cX1_sellStone 13 = .ok (.if_icmp .lt 10, 3) := by decide +kernel
theorem dX1_sellStone_16 : decode cX1_sellStone 16 = .ok (.iload_n 2, 1) := by decide +kernel
theorem dX1_sellStone_17 : decode cX1_sellStone 17 = .ok (.sipush 9999, 3) := by decide +kernel
theorem dX1_sellStone_20 : decode cX1_sellStone 20 = .ok (.if_icmp .le 6, 3) := by decide +kernel
theorem dX1_sellStone_23 : decode cX1_sellStone 23 = .ok (.ldc 77, 2) := by decide +kernel
theorem dX1_sellStone_25 : decode cX1_sellStone 25 = .ok (.ireturn, 1) := by decide +kernel
theorem dX1_sellStone_26 : decode cX1_sellStone 26 = .ok (.aload_n 0, 1) := by decide +kernel
theorem dX1_sellStone_27 : decode cX1_sellStone 27 = .ok (.getfield 21, 3) := by decide +kernel
theorem dX1_sellStone_30 : decode cX1_sellStone 30 = .ok (.getfield 123, 3) := by decide +kernel
theorem dX1_sellStone_33 : decode cX1_sellStone 33 = .ok (.iload_n 1, 1) := by decide +kernel
theorem dX1_sellStone_34 : decode cX1_sellStone 34 = .ok (.iaload, 1) := by decide +kernel
theorem dX1_sellStone_35 : decode cX1_sellStone 35 = .ok (.istore_n 3, 1) := by decide +kernel
theorem dX1_sellStone_36 : decode cX1_sellStone 36 = .ok (.aload_n 0, 1) := by decide +kernel
theorem dX1_sellStone_37 : decode cX1_sellStone 37 = .ok (.getfield 21, 3) := by decide +kernel
theorem dX1_sellStone_40 : decode cX1_sellStone 40 = .ok (.iload_n 1, 1) := by decide +kernel
theorem dX1_sellStone_41 : decode cX1_sellStone 41 = .ok (.invokevirtual 120, 3) := by decide +kernel
theorem dX1_sellStone_44 : decode cX1_sellStone 44 = .ok (.ifCond .ne 22, 3) := by decide +kernel
theorem dX1_sellStone_47 : decode cX1_sellStone 47 = .ok (.aload_n 0, 1) := by decide +kernel
theorem dX1_sellStone_48 : decode cX1_sellStone 48 = .ok (.getfield 21, 3) := by decide +kernel
theorem dX1_sellStone_51 : decode cX1_sellStone 51 = .ok (.iload_n 1, 1) := by decide +kernel
theorem dX1_sellStone_52 : decode cX1_sellStone 52 = .ok (.invokevirtual 139, 3) := by decide +kernel
theorem dX1_sellStone_55 : decode cX1_sellStone 55 = .ok (.ifCond .ne 11, 3) := by decide +kernel
theorem dX1_sellStone_58 : decode cX1_sellStone 58 = .ok (.aload_n 0, 1) := by decide +kernel
theorem dX1_sellStone_59 : decode cX1_sellStone 59 = .ok (.iload_n 3, 1) := by decide +kernel
theorem dX1_sellStone_60 : decode cX1_sellStone 60 = .ok (.invokevirtual 69, 3) := by decide +kernel
theorem dX1_sellStone_63 : decode cX1_sellStone 63 = .ok (.ifCond .ne 6, 3) := by decide +kernel
theorem dX1_sellStone_66 : decode cX1_sellStone 66 = .ok (.ldc 97, 2) := by decide +kernel
theorem dX1_sellStone_68 : decode cX1_sellStone 68 = .ok (.ireturn, 1) := by decide +kernel
theorem dX1_sellStone_69 : decode cX1_sellStone 69 = .ok (.aload_n 0, 1) := by decide +kernel
theorem dX1_sellStone_70 : decode cX1_sellStone 70 = .ok (.getfield 21, 3) := by decide +kernel
theorem dX1_sellStone_73 : decode cX1_sellStone 73 = .ok (.getfield 142, 3) := by decide +kernel
theorem dX1_sellStone_76 : decode cX1_sellStone 76 = .ok (.iload_n 1, 1) := by decide +kernel
theorem dX1_sellStone_77 : decode cX1_sellStone 77 = .ok (.iload_n 2, 1) := by decide +kernel
theorem dX1_sellStone_78 : decode cX1_sellStone 78 = .ok (.iastore, 1) := by decide +kernel
theorem dX1_sellStone_79 : decode cX1_sellStone 79 = .ok (.aload_n 0, 1) := by decide +kernel
theorem dX1_sellStone_80 : decode cX1_sellStone 80 = .ok (.getfield 21, 3) := by decide +kernel
theorem dX1_sellStone_83 : decode cX1_sellStone 83 = .ok (.getfield 123, 3) := by decide +kernel
theorem dX1_sellStone_86 : decode cX1_sellStone 86 = .ok (.iload_n 1, 1) := by decide +kernel
theorem dX1_sellStone_87 : decode cX1_sellStone 87 = .ok (.iconst (-1), 1) := by decide +kernel
theorem dX1_sellStone_88 : decode cX1_sellStone 88 = .ok (.iastore, 1) := by decide +kernel
theorem dX1_sellStone_89 : decode cX1_sellStone 89 = .ok (.aload_n 0, 1) := by decide +kernel
theorem dX1_sellStone_90 : decode cX1_sellStone 90 = .ok (.getfield 21, 3) := by decide +kernel
theorem dX1_sellStone_93 : decode cX1_sellStone 93 = .ok (.getfield 105, 3) := by decide +kernel
theorem dX1_sellStone_96 : decode cX1_sellStone 96 = .ok (.iload_n 1, 1) := by decide +kernel
theorem dX1_sellStone_97 : decode cX1_sellStone 97 = .ok (.iconst (-1), 1) := by decide +kernel
theorem dX1_sellStone_98 : decode cX1_sellStone 98 = .ok (.iastore, 1) := by decide +kernel
theorem dX1_sellStone_99 : decode cX1_sellStone 99 = .ok (.aload_n 0, 1) := by decide +kernel
theorem dX1_sellStone_100 : decode cX1_sellStone 100 = .ok (.getfield 32, 3) := by decide +kernel
theorem dX1_sellStone_103 : decode cX1_sellStone 103 = .ok (.iload_n 3, 1) := by decide +kernel
theorem dX1_sellStone_104 : decode cX1_sellStone 104 = .ok (.dup2, 1) := by decide +kernel
theorem dX1_sellStone_105 : decode cX1_sellStone 105 = .ok (.iaload, 1) := by decide +kernel
theorem dX1_sellStone_106 : decode cX1_sellStone 106 = .ok (.iload_n 2, 1) := by decide +kernel
theorem dX1_sellStone_107 : decode cX1_sellStone 107 = .ok (.iadd, 1) := by decide +kernel
theorem dX1_sellStone_108 : decode cX1_sellStone 108 = .ok (.iastore, 1) := by decide +kernel
theorem dX1_sellStone_109 : decode cX1_sellStone 109 = .ok (.aload_n 0, 1) := by decide +kernel
theorem dX1_sellStone_110 : decode cX1_sellStone 110 = .ok (.getfield 32, 3) := by decide +kernel
theorem dX1_sellStone_113 : decode cX1_sellStone 113 = .ok (.iload_n 3, 1) := by decide +kernel
theorem dX1_sellStone_114 : decode cX1_sellStone 114 = .ok (.iaload, 1) := by decide +kernel
theorem dX1_sellStone_115 : decode cX1_sellStone 115 = .ok (.ldc 145, 2) := by decide +kernel
theorem dX1_sellStone_117 : decode cX1_sellStone 117 = .ok (.iadd, 1) := by decide +kernel
theorem dX1_sellStone_118 : decode cX1_sellStone 118 = .ok (.ireturn, 1) := by decide +kernel
set_option maxRecDepth 20000 in
theorem ggX1_regrade_X5_has : GoodIn wsX1_regrade wsX5_has := goodIn_r _ [8, 9, 52, 53, 54, 55, 56, 57, 58, 59, 60, 61] (by decide +kernel) (by decide +kernel)
set_option maxRecDepth 20000 in
theorem gX1_regrade_X5_has : GoodIn wsX1_regrade (wsV RX1 117 RX5 yX5_has wsX5_has) := goodIn_app (goodIn_of _ (by decide +kernel)) ggX1_regrade_X5_has
set_option maxRecDepth 20000 in
theorem ggX1_regrade_X6_isLook : GoodIn wsX1_regrade wsX6_isLook := goodIn_r _ [12] (by decide +kernel) (by decide +kernel)
set_option maxRecDepth 20000 in
theorem gX1_regrade_X6_isLook_n73 : GoodIn wsX1_regrade (wsX6_isLook) := ggX1_regrade_X6_isLook
set_option maxRecDepth 20000 in
theorem ggX1_regrade_X5_isSold : GoodIn wsX1_regrade wsX5_isSold := goodIn_r _ [16, 17, 52, 53, 54, 55, 56, 57, 58, 59, 60, 61] (by decide +kernel) (by decide +kernel)
end
section
set_option maxRecDepth 20000 in
theorem gX1_regrade_X5_isSold : GoodIn wsX1_regrade (wsV RX1 139 RX5 yX5_isSold wsX5_isSold) := goodIn_app (goodIn_of _ (by decide +kernel)) ggX1_regrade_X5_isSold
set_option maxRecDepth 20000 in
theorem ggX1_regrade_X1_priceOf : GoodIn wsX1_regrade wsX1_priceOf := goodIn_r _ [22, 23, 1, 24, 25, 26, 7, 27, 28, 29, 30, 31, 32, 33, 34, 35, 36, 37, 43, 44, 45, 46, 47, 48, 49, 50, 51, 52, 53, 54, 55, 56, 57, 58, 59, 60, 61, 62, 63, 64, 65] (by decide +kernel) (by decide +kernel)
set_option maxRecDepth 20000 in
theorem gX1_regrade_X1_priceOf : GoodIn wsX1_regrade (wsV RX1 113 RX1 yX1_priceOf wsX1_priceOf) := goodIn_app (goodIn_of _ (by decide +kernel)) ggX1_regrade_X1_priceOf
set_option maxRecDepth 20000 in
theorem ggX1_regrade_X5_isOut : GoodIn wsX1_regrade wsX5_isOut := goodIn_r _ [41, 42, 52, 53, 54, 55, 56, 57, 58, 59, 60, 61] (by decide +kernel) (by decide +kernel)
set_option maxRecDepth 20000 in
theorem gX1_regrade_X5_isOut : GoodIn wsX1_regrade (wsV RX1 120 RX5 yX5_isOut wsX5_isOut) := goodIn_app (goodIn_of _ (by decide +kernel)) ggX1_regrade_X5_isOut
theorem dX1_regrade_0 : decode cX1_regrade 0 = .ok (.aload_n 0, 1) := by decide +kernel
theorem dX1_regrade_1 : decode cX1_regrade 1 = .ok (.getfield 21, 3) := by decide +kernel
theorem dX1_regrade_4 : decode cX1_regrade 4 = .ok (.iload_n 1, 1) := by decide +kernel
theorem dX1_regrade_5 : decode cX1_regrade 5 = .ok (.invokevirtual 117, 3) := by decide +kernel
theorem dX1_regrade_8 : decode cX1_regrade 8 = .ok (.ifCond .eq 11, 3) := by decide +kernel
theorem dX1_regrade_11 : decode cX1_regrade 11 = .ok (.iload_n 2, 1) := by decide +kernel
theorem dX1_regrade_12 : decode cX1_regrade 12 = .ok (.iload_n 3, 1) := by decide +kernel
theorem dX1_regrade_13 : decode cX1_regrade 13 = .ok (.invokestatic 73, 3) := by decide +kernel
theorem dX1_regrade_16 : decode cX1_regrade 16 = .ok (.ifCond .ne 6, 3) := by decide +kernel
theorem dX1_regrade_19 : decode cX1_regrade 19 = .ok (.ldc 77, 2) := by decide +kernel
theorem dX1_regrade_21 : decode cX1_regrade 21 = .ok (.ireturn, 1) := by decide +kernel
theorem dX1_regrade_22 : decode cX1_regrade 22 = .ok (.aload_n 0, 1) := by decide +kernel
theorem dX1_regrade_23 : decode cX1_regrade 23 = .ok (.getfield 21, 3) := by decide +kernel
theorem dX1_regrade_26 : decode cX1_regrade 26 = .ok (.iload_n 1, 1) := by decide +kernel
theorem dX1_regrade_27 : decode cX1_regrade 27 = .ok (.invokevirtual 139, 3) := by decide +kernel
theorem dX1_regrade_30 : decode cX1_regrade 30 = .ok (.ifCond .eq 6, 3) := by decide +kernel
theorem dX1_regrade_33 : decode cX1_regrade 33 = .ok (.ldc 97, 2) := by decide +kernel
theorem dX1_regrade_35 : decode cX1_regrade 35 = .ok (.ireturn, 1) := by decide +kernel
theorem dX1_regrade_36 : decode cX1_regrade 36 = .ok (.bipush 10, 2) := by decide +kernel
theorem dX1_regrade_38 : decode cX1_regrade 38 = .ok (.aload_n 0, 1) := by decide +kernel
theorem dX1_regrade_39 : decode cX1_regrade 39 = .ok (.getfield 21, 3) := by decide +kernel
theorem dX1_regrade_42 : decode cX1_regrade 42 = .ok (.getfield 146, 3) := by decide +kernel
theorem dX1_regrade_45 : decode cX1_regrade 45 = .ok (.iload_n 1, 1) := by decide +kernel
theorem dX1_regrade_46 : decode cX1_regrade 46 = .ok (.iaload, 1) := by decide +kernel
theorem dX1_regrade_47 : decode cX1_regrade 47 = .ok (.imul, 1) := by decide +kernel
theorem dX1_regrade_48 : decode cX1_regrade 48 = .ok (.aload_n 0, 1) := by decide +kernel
theorem dX1_regrade_49 : decode cX1_regrade 49 = .ok (.getfield 21, 3) := by decide +kernel
theorem dX1_regrade_52 : decode cX1_regrade 52 = .ok (.getfield 149, 3) := by decide +kernel
theorem dX1_regrade_55 : decode cX1_regrade 55 = .ok (.iload_n 1, 1) := by decide +kernel
theorem dX1_regrade_56 : decode cX1_regrade 56 = .ok (.iaload, 1) := by decide +kernel
theorem dX1_regrade_57 : decode cX1_regrade 57 = .ok (.iadd, 1) := by decide +kernel
theorem dX1_regrade_58 : decode cX1_regrade 58 = .ok (.istore 4, 2) := by decide +kernel
theorem dX1_regrade_60 : decode cX1_regrade 60 = .ok (.aload_n 0, 1) := by decide +kernel
theorem dX1_regrade_61 : decode cX1_regrade 61 = .ok (.getfield 21, 3) := by decide +kernel
theorem dX1_regrade_64 : decode cX1_regrade 64 = .ok (.getfield 146, 3) := by decide +kernel
theorem dX1_regrade_67 : decode cX1_regrade 67 = .ok (.iload_n 1, 1) := by decide +kernel
theorem dX1_regrade_68 : decode cX1_regrade 68 = .ok (.iload_n 2, 1) := by decide +kernel
theorem dX1_regrade_69 : decode cX1_regrade 69 = .ok (.iastore, 1) := by decide +kernel
theorem dX1_regrade_70 : decode cX1_regrade 70 = .ok (.aload_n 0, 1) := by decide +kernel
theorem dX1_regrade_71 : decode cX1_regrade 71 = .ok (.getfield 21, 3) := by decide +kernel
theorem dX1_regrade_74 : decode cX1_regrade 74 = .ok (.getfield 149, 3) := by decide +kernel
theorem dX1_regrade_77 : decode cX1_regrade 77 = .ok (.iload_n 1, 1) := by decide +kernel
theorem dX1_regrade_78 : decode cX1_regrade 78 = .ok (.iload_n 3, 1) := by decide +kernel
theorem dX1_regrade_79 : decode cX1_regrade 79 = .ok (.iastore, 1) := by decide +kernel
theorem dX1_regrade_80 : decode cX1_regrade 80 = .ok (.aload_n 0, 1) := by decide +kernel
theorem dX1_regrade_81 : decode cX1_regrade 81 = .ok (.iload_n 1, 1) := by decide +kernel
theorem dX1_regrade_82 : decode cX1_regrade 82 = .ok (.invokevirtual 113, 3) := by decide +kernel
theorem dX1_regrade_85 : decode cX1_regrade 85 = .ok (.istore 5, 2) := by decide +kernel
theorem dX1_regrade_87 : decode cX1_regrade 87 = .ok (.aload_n 0, 1) := by decide +kernel
theorem dX1_regrade_88 : decode cX1_regrade 88 = .ok (.getfield 21, 3) := by decide +kernel
theorem dX1_regrade_91 : decode cX1_regrade 91 = .ok (.iload_n 1, 1) := by decide +kernel
theorem dX1_regrade_92 : decode cX1_regrade 92 = .ok (.invokevirtual 120, 3) := by decide +kernel
theorem dX1_regrade_95 : decode cX1_regrade 95 = .ok (.ifCond .eq 20, 3) := by decide +kernel
theorem dX1_regrade_98 : decode cX1_regrade 98 = .ok (.iload 5, 2) := by decide +kernel
theorem dX1_regrade_100 : decode cX1_regrade 100 = .ok (.iconst (-1), 1) := by decide +kernel
theorem dX1_regrade_101 : decode cX1_regrade 101 = .ok (.if_icmp .eq 14, 3) := by decide +kernel
theorem dX1_regrade_104 : decode cX1_regrade 104 = .ok (.aload_n 0, 1) := by decide +kernel
theorem dX1_regrade_105 : decode cX1_regrade 105 = .ok (.getfield 21, 3) := by decide +kernel
theorem dX1_regrade_108 : decode cX1_regrade 108 = .ok (.getfield 110, 3) := by decide +kernel
theorem dX1_regrade_111 : decode cX1_regrade 111 = .ok (.iload_n 1, 1) := by decide +kernel
theorem dX1_regrade_112 : decode cX1_regrade 112 = .ok (.iload 5, 2) := by decide +kernel
theorem dX1_regrade_114 : decode cX1_regrade 114 = .ok (.iastore, 1) := by decide +kernel
theorem dX1_regrade_115 : decode cX1_regrade 115 = .ok (.iload 4, 2) := by decide +kernel
theorem dX1_regrade_117 : decode cX1_regrade 117 = .ok (.ireturn, 1) := by decide +kernel
set_option maxRecDepth 20000 in
theorem ggX1_passDays_X1_keepLateOnes : GoodIn wsX1_passDays wsX1_keepLateOnes := goodIn_r _ [9, 10, 2, 11, 12, 13, 14, 15, 16, 8, 17, 18, 19, 20, 21, 22, 23, 24, 25, 26, 27, 28, 29, 30, 31, 32, 33, 34, 35, 36, 37, 38, 39, 40, 41, 42, 43, 44, 45, 46, 47, 48, 49, 50, 51, 52, 53, 54] (by decide +kernel) (by decide +kernel)
set_option maxRecDepth 20000 in
theorem gX1_passDays_X1_keepLateOnes : GoodIn wsX1_passDays (wsV RX1 152 RX1 yX1_keepLateOnes wsX1_keepLateOnes) := goodIn_app (goodIn_of _ (by decide +kernel)) ggX1_passDays_X1_keepLateOnes
theorem dX1_passDays_0 : decode cX1_passDays 0 = .ok (.iload_n 1, 1) := by decide +kernel
theorem dX1_passDays_1 : decode cX1_passDays 1 = .ok (.iconst 1, 1) := by decide +kernel
theorem dX1_passDays_2 : decode cX1_passDays 2 = .ok (.if_icmp .lt 9, 3) := by decide +kernel
theorem dX1_passDays_5 : decode cX1_passDays 5 = .ok (.iload_n 1, 1) := by decide +kernel
theorem dX1_passDays_6 : decode cX1_passDays 6 = .ok (.bipush 99, 2) := by decide +kernel
theorem dX1_passDays_8 : decode cX1_passDays 8 = .ok (.if_icmp .le 6, 3) := by decide +kernel
theorem dX1_passDays_11 : decode cX1_passDays 11 = .ok (.ldc 77, 2) := by decide +kernel
theorem dX1_passDays_13 : decode cX1_passDays 13 = .ok (.ireturn, 1) := by decide +kernel
theorem dX1_passDays_14 : decode cX1_passDays 14 = .ok (.aload_n 0, 1) := by decide +kernel
theorem dX1_passDays_15 : decode cX1_passDays 15 = .ok (.getfield 40, 3) := by decide +kernel
theorem dX1_passDays_18 : decode cX1_passDays 18 = .ok (.iload_n 1, 1) := by decide +kernel
theorem dX1_passDays_19 : decode cX1_passDays 19 = .ok (.iadd, 1) := by decide +kernel
theorem dX1_passDays_20 : decode cX1_passDays 20 = .ok (.sipush 2000, 3) := by decide +kernel
theorem dX1_passDays_23 : decode cX1_passDays 23 = .ok (.if_icmp .le 6, 3) := by decide +kernel
theorem dX1_passDays_26 : decode cX1_passDays 26 = .ok (.ldc 68, 2) := by decide +kernel
theorem dX1_passDays_28 : decode cX1_passDays 28 = .ok (.ireturn, 1) := by decide +kernel
theorem dX1_passDays_29 : decode cX1_passDays 29 = .ok (.iconst 0, 1) := by decide +kernel
theorem dX1_passDays_30 : decode cX1_passDays 30 = .ok (.istore_n 2, 1) := by decide +kernel
theorem dX1_passDays_31 : decode cX1_passDays 31 = .ok (.iconst 0, 1) := by decide +kernel
theorem dX1_passDays_32 : decode cX1_passDays 32 = .ok (.istore_n 3, 1) := by decide +kernel
theorem dX1_passDays_33 : decode cX1_passDays 33 = .ok (.iload_n 3, 1) := by decide +kernel
theorem dX1_passDays_34 : decode cX1_passDays 34 = .ok (.iload_n 1, 1) := by decide +kernel
theorem dX1_passDays_35 : decode cX1_passDays 35 = .ok (.if_icmp .ge 26, 3) := by decide +kernel
theorem dX1_passDays_38 : decode cX1_passDays 38 = .ok (.aload_n 0, 1) := by decide +kernel
theorem dX1_passDays_39 : decode cX1_passDays 39 = .ok (.dup, 1) := by decide +kernel
theorem dX1_passDays_40 : decode cX1_passDays 40 = .ok (.getfield 40, 3) := by decide +kernel
theorem dX1_passDays_43 : decode cX1_passDays 43 = .ok (.iconst 1, 1) := by decide +kernel
theorem dX1_passDays_44 : decode cX1_passDays 44 = .ok (.iadd, 1) := by decide +kernel
theorem dX1_passDays_45 : decode cX1_passDays 45 = .ok (.putfield 40, 3) := by decide +kernel
theorem dX1_passDays_48 : decode cX1_passDays 48 = .ok (.iload_n 2, 1) := by decide +kernel
theorem dX1_passDays_49 : decode cX1_passDays 49 = .ok (.aload_n 0, 1) := by decide +kernel
theorem dX1_passDays_50 : decode cX1_passDays 50 = .ok (.invokevirtual 152, 3) := by decide +kernel
theorem dX1_passDays_53 : decode cX1_passDays 53 = .ok (.iadd, 1) := by decide +kernel
theorem dX1_passDays_54 : decode cX1_passDays 54 = .ok (.istore_n 2, 1) := by decide +kernel
theorem dX1_passDays_55 : decode cX1_passDays 55 = .ok (.iinc 3 1, 3) := by decide +kernel
theorem dX1_passDays_58 : decode cX1_passDays 58 = .ok (.goto (-25), 3) := by decide +kernel
theorem dX1_passDays_61 : decode cX1_passDays 61 = .ok (.aload_n 0, 1) := by decide +kernel
theorem dX1_passDays_62 : decode cX1_passDays 62 = .ok (.dup, 1) := by decide +kernel
theorem dX1_passDays_63 : decode cX1_passDays 63 = .ok (.getfield 49, 3) := by decide +kernel
theorem dX1_passDays_66 : decode cX1_passDays 66 = .ok (.iload_n 2, 1) := by decide +kernel
theorem dX1_passDays_67 : decode cX1_passDays 67 = .ok (.iadd, 1) := by decide +kernel
theorem dX1_passDays_68 : decode cX1_passDays 68 = .ok (.putfield 49, 3) := by decide +kernel
theorem dX1_passDays_71 : decode cX1_passDays 71 = .ok (.iload_n 2, 1) := by decide +kernel
theorem dX1_passDays_72 : decode cX1_passDays 72 = .ok (.ireturn, 1) := by decide +kernel
theorem dX1_putSetting_0 : decode cX1_putSetting 0 = .ok (.iload_n 1, 1) := by decide +kernel
theorem dX1_putSetting_1 : decode cX1_putSetting 1 = .ok (.ifCond .lt 27, 3) := by decide +kernel
theorem dX1_putSetting_4 : decode cX1_putSetting 4 = .ok (.iload_n 1, 1) := by decide +kernel
theorem dX1_putSetting_5 : decode cX1_putSetting 5 = .ok (.iconst 1, 1) := by decide +kernel
theorem dX1_putSetting_6 : decode cX1_putSetting 6 = .ok (.if_icmp .gt 22, 3) := by decide +kernel
theorem dX1_putSetting_9 : decode cX1_putSetting 9 = .ok (.iload_n 2, 1) := by decide +kernel
theorem dX1_putSetting_10 : decode cX1_putSetting 10 = .ok (.ifCond .lt 18, 3) := by decide +kernel
theorem dX1_putSetting_13 : decode cX1_putSetting 13 = .ok (.iload_n 2, 1) := by decide +kernel
theorem dX1_putSetting_14 : decode cX1_putSetting 14 = .ok (.iload_n 1, 1) := by decide +kernel
theorem dX1_putSetting_15 : decode cX1_putSetting 15 = .ok (.ifCond .ne 8, 3) := by decide +kernel
theorem dX1_putSetting_18 : decode cX1_putSetting 18 = .ok (.bipush 30, 2) := by decide +kernel
theorem dX1_putSetting_20 : decode cX1_putSetting 20 = .ok (.goto 5, 3) := by decide +kernel
theorem dX1_putSetting_23 : decode cX1_putSetting 23 = .ok (.bipush 100, 2) := by decide +kernel
theorem dX1_putSetting_25 : decode cX1_putSetting 25 = .ok (.if_icmp .le 6, 3) := by decide +kernel
theorem dX1_putSetting_28 : decode cX1_putSetting 28 = .ok (.ldc 77, 2) := by decide +kernel
theorem dX1_putSetting_30 : decode cX1_putSetting 30 = .ok (.ireturn, 1) := by decide +kernel
theorem dX1_putSetting_31 : decode cX1_putSetting 31 = .ok (.iload_n 1, 1) := by decide +kernel
theorem dX1_putSetting_32 : decode cX1_putSetting 32 = .ok (.ifCond .ne 10, 3) := by decide +kernel
theorem dX1_putSetting_35 : decode cX1_putSetting 35 = .ok (.aload_n 0, 1) := by decide +kernel
theorem dX1_putSetting_36 : decode cX1_putSetting 36 = .ok (.getfield 43, 3) := by decide +kernel
theorem dX1_putSetting_39 : decode cX1_putSetting 39 = .ok (.goto 7, 3) := by decide +kernel
theorem dX1_putSetting_42 : decode cX1_putSetting 42 = .ok (.aload_n 0, 1) := by decide +kernel
theorem dX1_putSetting_43 : decode cX1_putSetting 43 = .ok (.getfield 46, 3) := by decide +kernel
theorem dX1_putSetting_46 : decode cX1_putSetting 46 = .ok (.istore_n 3, 1) := by decide +kernel
theorem dX1_putSetting_47 : decode cX1_putSetting 47 = .ok (.iload_n 1, 1) := by decide +kernel
theorem dX1_putSetting_48 : decode cX1_putSetting 48 = .ok (.ifCond .ne 11, 3) := by decide +kernel
theorem dX1_putSetting_51 : decode cX1_putSetting 51 = .ok (.aload_n 0, 1) := by decide +kernel
theorem dX1_putSetting_52 : decode cX1_putSetting 52 = .ok (.iload_n 2, 1) := by decide +kernel
theorem dX1_putSetting_53 : decode cX1_putSetting 53 = .ok (.putfield 43, 3) := by decide +kernel
theorem dX1_putSetting_56 : decode cX1_putSetting 56 = .ok (.goto 8, 3) := by decide +kernel
theorem dX1_putSetting_59 : decode cX1_putSetting 59 = .ok (.aload_n 0, 1) := by decide +kernel
theorem dX1_putSetting_60 : decode cX1_putSetting 60 = .ok (.iload_n 2, 1) := by decide +kernel
theorem dX1_putSetting_61 : decode cX1_putSetting 61 = .ok (.putfield 46, 3) := by decide +kernel
theorem dX1_putSetting_64 : decode cX1_putSetting 64 = .ok (.iload_n 3, 1) := by decide +kernel
theorem dX1_putSetting_65 : decode cX1_putSetting 65 = .ok (.ireturn, 1) := by decide +kernel
set_option maxRecDepth 20000 in
theorem ggX1_tellStone_X5_sieveOf : GoodIn wsX1_tellStone wsX5_sieveOf := goodIn_r _ [8, 9, 44, 45, 46, 47, 48, 49, 50, 51, 52, 53] (by decide +kernel) (by decide +kernel)
set_option maxRecDepth 20000 in
theorem gX1_tellStone_X5_sieveOf : GoodIn wsX1_tellStone (wsV RX1 159 RX5 yX5_sieveOf wsX5_sieveOf) := goodIn_app (goodIn_of _ (by decide +kernel)) ggX1_tellStone_X5_sieveOf
set_option maxRecDepth 20000 in
theorem ggX1_tellStone_X5_isSold : GoodIn wsX1_tellStone wsX5_isSold := goodIn_r _ [13, 14, 44, 45, 46, 47, 48, 49, 50, 51, 52, 53] (by decide +kernel) (by decide +kernel)
set_option maxRecDepth 20000 in
theorem gX1_tellStone_X5_isSold : GoodIn wsX1_tellStone (wsV RX1 139 RX5 yX5_isSold wsX5_isSold) := goodIn_app (goodIn_of _ (by decide +kernel)) ggX1_tellStone_X5_isSold
set_option maxRecDepth 20000 in
theorem ggX1_tellStone_X1_priceOf : GoodIn wsX1_tellStone wsX1_priceOf := goodIn_r _ [19, 20, 1, 4, 5, 6, 7, 8, 9, 21, 22, 23, 24, 25, 26, 27, 28, 29, 35, 36, 37, 38, 39, 40, 41, 42, 43, 44, 45, 46, 47, 48, 49, 50, 51, 52, 53, 54, 55, 56, 57] (by decide +kernel) (by decide +kernel)
set_option maxRecDepth 20000 in
theorem gX1_tellStone_X1_priceOf : GoodIn wsX1_tellStone (wsV RX1 113 RX1 yX1_priceOf wsX1_priceOf) := goodIn_app (goodIn_of _ (by decide +kernel)) ggX1_tellStone_X1_priceOf
set_option maxRecDepth 20000 in
theorem ggX1_tellStone_X5_isOut : GoodIn wsX1_tellStone wsX5_isOut := goodIn_r _ [33, 34, 44, 45, 46, 47, 48, 49, 50, 51, 52, 53] (by decide +kernel) (by decide +kernel)
set_option maxRecDepth 20000 in
theorem gX1_tellStone_X5_isOut : GoodIn wsX1_tellStone (wsV RX1 120 RX5 yX5_isOut wsX5_isOut) := goodIn_app (goodIn_of _ (by decide +kernel)) ggX1_tellStone_X5_isOut
theorem dX1_tellStone_0 : decode cX1_tellStone 0 = .ok (.iload_n 2, 1) := by decide +kernel
theorem dX1_tellStone_1 : decode cX1_tellStone 1 = .ok (.tableswitch 256 0 10 #[59, 69, 79, 89, 98, 124, 150, 168, 194, 220, 246], 59) := by decide +kernel
theorem dX1_tellStone_60 : decode cX1_tellStone 60 = .ok (.aload_n 0, 1) := by decide +kernel
theorem dX1_tellStone_61 : decode cX1_tellStone 61 = .ok (.getfield 21, 3) := by decide +kernel
theorem dX1_tellStone_64 : decode cX1_tellStone 64 = .ok (.getfield 156, 3) := by decide +kernel
theorem dX1_tellStone_67 : decode cX1_tellStone 67 = .ok (.iload_n 1, 1) := by decide +kernel
theorem dX1_tellStone_68 : decode cX1_tellStone 68 = .ok (.iaload, 1) := by decide +kernel
theorem dX1_tellStone_69 : decode cX1_tellStone 69 = .ok (.ireturn, 1) := by decide +kernel
theorem dX1_tellStone_70 : decode cX1_tellStone 70 = .ok (.aload_n 0, 1) := by decide +kernel
theorem dX1_tellStone_71 : decode cX1_tellStone 71 = .ok (.getfield 21, 3) := by decide +kernel
theorem dX1_tellStone_74 : decode cX1_tellStone 74 = .ok (.getfield 146, 3) := by decide +kernel
theorem dX1_tellStone_77 : decode cX1_tellStone 77 = .ok (.iload_n 1, 1) := by decide +kernel
theorem dX1_tellStone_78 : decode cX1_tellStone 78 = .ok (.iaload, 1) := by decide +kernel
theorem dX1_tellStone_79 : decode cX1_tellStone 79 = .ok (.ireturn, 1) := by decide +kernel
theorem dX1_tellStone_80 : decode cX1_tellStone 80 = .ok (.aload_n 0, 1) := by decide +kernel
theorem dX1_tellStone_81 : decode cX1_tellStone 81 = .ok (.getfield 21, 3) := by decide +kernel
theorem dX1_tellStone_84 : decode cX1_tellStone 84 = .ok (.getfield 149, 3) := by decide +kernel
theorem dX1_tellStone_87 : decode cX1_tellStone 87 = .ok (.iload_n 1, 1) := by decide +kernel
theorem dX1_tellStone_88 : decode cX1_tellStone 88 = .ok (.iaload, 1) := by decide +kernel
theorem dX1_tellStone_89 : decode cX1_tellStone 89 = .ok (.ireturn, 1) := by decide +kernel
theorem dX1_tellStone_90 : decode cX1_tellStone 90 = .ok (.aload_n 0, 1) := by decide +kernel
theorem dX1_tellStone_91 : decode cX1_tellStone 91 = .ok (.getfield 21, 3) := by decide +kernel
theorem dX1_tellStone_94 : decode cX1_tellStone 94 = .ok (.iload_n 1, 1) := by decide +kernel
theorem dX1_tellStone_95 : decode cX1_tellStone 95 = .ok (.invokevirtual 159, 3) := by decide +kernel
theorem dX1_tellStone_98 : decode cX1_tellStone 98 = .ok (.ireturn, 1) := by decide +kernel
theorem dX1_tellStone_99 : decode cX1_tellStone 99 = .ok (.aload_n 0, 1) := by decide +kernel
theorem dX1_tellStone_100 : decode cX1_tellStone 100 = .ok (.getfield 21, 3) := by decide +kernel
theorem dX1_tellStone_103 : decode cX1_tellStone 103 = .ok (.iload_n 1, 1) := by decide +kernel
theorem dX1_tellStone_104 : decode cX1_tellStone 104 = .ok (.invokevirtual 139, 3) := by decide +kernel
theorem dX1_tellStone_107 : decode cX1_tellStone 107 = .ok (.ifCond .eq 8, 3) := by decide +kernel
theorem dX1_tellStone_110 : decode cX1_tellStone 110 = .ok (.ldc 162, 2) := by decide +kernel
theorem dX1_tellStone_112 : decode cX1_tellStone 112 = .ok (.goto 12, 3) := by decide +kernel
theorem dX1_tellStone_115 : decode cX1_tellStone 115 = .ok (.aload_n 0, 1) := by decide +kernel
theorem dX1_tellStone_116 : decode cX1_tellStone 116 = .ok (.getfield 21, 3) := by decide +kernel
theorem dX1_tellStone_119 : decode cX1_tellStone 119 = .ok (.getfield 123, 3) := by decide +kernel
theorem dX1_tellStone_122 : decode cX1_tellStone 122 = .ok (.iload_n 1, 1) := by decide +kernel
theorem dX1_tellStone_123 : decode cX1_tellStone 123 = .ok (.iaload, 1) := by decide +kernel
theorem dX1_tellStone_124 : decode cX1_tellStone 124 = .ok (.ireturn, 1) := by decide +kernel
theorem dX1_tellStone_125 : decode cX1_tellStone 125 = .ok (.aload_n 0, 1) := by decide +kernel
theorem dX1_tellStone_126 : decode cX1_tellStone 126 = .ok (.getfield 21, 3) := by decide +kernel
theorem dX1_tellStone_129 : decode cX1_tellStone 129 = .ok (.iload_n 1, 1) := by decide +kernel
theorem dX1_tellStone_130 : decode cX1_tellStone 130 = .ok (.invokevirtual 139, 3) := by decide +kernel
theorem dX1_tellStone_133 : decode cX1_tellStone 133 = .ok (.ifCond .eq 8, 3) := by decide +kernel
theorem dX1_tellStone_136 : decode cX1_tellStone 136 = .ok (.ldc 162, 2) := by decide +kernel
theorem dX1_tellStone_138 : decode cX1_tellStone 138 = .ok (.goto 12, 3) := by decide +kernel
theorem dX1_tellStone_141 : decode cX1_tellStone 141 = .ok (.aload_n 0, 1) := by decide +kernel
theorem dX1_tellStone_142 : decode cX1_tellStone 142 = .ok (.getfield 21, 3) := by decide +kernel
theorem dX1_tellStone_145 : decode cX1_tellStone 145 = .ok (.getfield 105, 3) := by decide +kernel
theorem dX1_tellStone_148 : decode cX1_tellStone 148 = .ok (.iload_n 1, 1) := by decide +kernel
theorem dX1_tellStone_149 : decode cX1_tellStone 149 = .ok (.iaload, 1) := by decide +kernel
theorem dX1_tellStone_150 : decode cX1_tellStone 150 = .ok (.ireturn, 1) := by decide +kernel
theorem dX1_tellStone_151 : decode cX1_tellStone 151 = .ok (.aload_n 0, 1) := by decide +kernel
theorem dX1_tellStone_152 : decode cX1_tellStone 152 = .ok (.iload_n 1, 1) := by decide +kernel
theorem dX1_tellStone_153 : decode cX1_tellStone 153 = .ok (.invokevirtual 113, 3) := by decide +kernel
theorem dX1_tellStone_156 : decode cX1_tellStone 156 = .ok (.istore_n 3, 1) := by decide +kernel
theorem dX1_tellStone_157 : decode cX1_tellStone 157 = .ok (.iload_n 3, 1) := by decide +kernel
theorem dX1_tellStone_158 : decode cX1_tellStone 158 = .ok (.iconst (-1), 1) := by decide +kernel
theorem dX1_tellStone_159 : decode cX1_tellStone 159 = .ok (.if_icmp .ne 8, 3) := by decide +kernel
theorem dX1_tellStone_162 : decode cX1_tellStone 162 = .ok (.ldc 162, 2) := by decide +kernel
theorem dX1_tellStone_164 : decode cX1_tellStone 164 = .ok (.goto 4, 3) := by decide +kernel
theorem dX1_tellStone_167 : decode cX1_tellStone 167 = .ok (.iload_n 3, 1) := by decide +kernel
theorem dX1_tellStone_168 : decode cX1_tellStone 168 = .ok (.ireturn, 1) := by decide +kernel
theorem dX1_tellStone_169 : decode cX1_tellStone 169 = .ok (.aload_n 0, 1) := by decide +kernel
theorem dX1_tellStone_170 : decode cX1_tellStone 170 = .ok (.getfield 21, 3) := by decide +kernel
theorem dX1_tellStone_173 : decode cX1_tellStone 173 = .ok (.iload_n 1, 1) := by decide +kernel
theorem dX1_tellStone_174 : decode cX1_tellStone 174 = .ok (.invokevirtual 120, 3) := by decide +kernel
theorem dX1_tellStone_177 : decode cX1_tellStone 177 = .ok (.ifCond .eq 15, 3) := by decide +kernel
theorem dX1_tellStone_180 : decode cX1_tellStone 180 = .ok (.aload_n 0, 1) := by decide +kernel
theorem dX1_tellStone_181 : decode cX1_tellStone 181 = .ok (.getfield 21, 3) := by decide +kernel
theorem dX1_tellStone_184 : decode cX1_tellStone 184 = .ok (.getfield 108, 3) := by decide +kernel
theorem dX1_tellStone_187 : decode cX1_tellStone 187 = .ok (.iload_n 1, 1) := by decide +kernel
theorem dX1_tellStone_188 : decode cX1_tellStone 188 = .ok (.iaload, 1) := by decide +kernel
theorem dX1_tellStone_189 : decode cX1_tellStone 189 = .ok (.goto 5, 3) := by decide +kernel
theorem dX1_tellStone_192 : decode cX1_tellStone 192 = .ok (.ldc 162, 2) := by decide +kernel
theorem dX1_tellStone_194 : decode cX1_tellStone 194 = .ok (.ireturn, 1) := by decide +kernel
theorem dX1_tellStone_195 : decode cX1_tellStone 195 = .ok (.aload_n 0, 1) := by decide +kernel
theorem dX1_tellStone_196 : decode cX1_tellStone 196 = .ok (.getfield 21, 3) := by decide +kernel
theorem dX1_tellStone_199 : decode cX1_tellStone 199 = .ok (.iload_n 1, 1) := by decide +kernel
theorem dX1_tellStone_200 : decode cX1_tellStone 200 = .ok (.invokevirtual 120, 3) := by decide +kernel
theorem dX1_tellStone_203 : decode cX1_tellStone 203 = .ok (.ifCond .eq 15, 3) := by decide +kernel
theorem dX1_tellStone_206 : decode cX1_tellStone 206 = .ok (.aload_n 0, 1) := by decide +kernel
theorem dX1_tellStone_207 : decode cX1_tellStone 207 = .ok (.getfield 21, 3) := by decide +kernel
theorem dX1_tellStone_210 : decode cX1_tellStone 210 = .ok (.getfield 110, 3) := by decide +kernel
theorem dX1_tellStone_213 : decode cX1_tellStone 213 = .ok (.iload_n 1, 1) := by decide +kernel
theorem dX1_tellStone_214 : decode cX1_tellStone 214 = .ok (.iaload, 1) := by decide +kernel
theorem dX1_tellStone_215 : decode cX1_tellStone 215 = .ok (.goto 5, 3) := by decide +kernel
theorem dX1_tellStone_218 : decode cX1_tellStone 218 = .ok (.ldc 162, 2) := by decide +kernel
theorem dX1_tellStone_220 : decode cX1_tellStone 220 = .ok (.ireturn, 1) := by decide +kernel
theorem dX1_tellStone_221 : decode cX1_tellStone 221 = .ok (.aload_n 0, 1) := by decide +kernel
theorem dX1_tellStone_222 : decode cX1_tellStone 222 = .ok (.getfield 21, 3) := by decide +kernel
theorem dX1_tellStone_225 : decode cX1_tellStone 225 = .ok (.iload_n 1, 1) := by decide +kernel
theorem dX1_tellStone_226 : decode cX1_tellStone 226 = .ok (.invokevirtual 139, 3) := by decide +kernel
theorem dX1_tellStone_229 : decode cX1_tellStone 229 = .ok (.ifCond .eq 15, 3) := by decide +kernel
theorem dX1_tellStone_232 : decode cX1_tellStone 232 = .ok (.aload_n 0, 1) := by decide +kernel
theorem dX1_tellStone_233 : decode cX1_tellStone 233 = .ok (.getfield 21, 3) := by decide +kernel
theorem dX1_tellStone_236 : decode cX1_tellStone 236 = .ok (.getfield 142, 3) := by decide +kernel
theorem dX1_tellStone_239 : decode cX1_tellStone 239 = .ok (.iload_n 1, 1) := by decide +kernel
theorem dX1_tellStone_240 : decode cX1_tellStone 240 = .ok (.iaload, 1) := by decide +kernel
theorem dX1_tellStone_241 : decode cX1_tellStone 241 = .ok (.goto 5, 3) := by decide +kernel
theorem dX1_tellStone_244 : decode cX1_tellStone 244 = .ok (.ldc 162, 2) := by decide +kernel
theorem dX1_tellStone_246 : decode cX1_tellStone 246 = .ok (.ireturn, 1) := by decide +kernel
theorem dX1_tellStone_247 : decode cX1_tellStone 247 = .ok (.aload_n 0, 1) := by decide +kernel
theorem dX1_tellStone_248 : decode cX1_tellStone 248 = .ok (.getfield 21, 3) := by decide +kernel
theorem dX1_tellStone_251 : decode cX1_tellStone 251 = .ok (.getfield 163, 3) := by decide +kernel
theorem dX1_tellStone_254 : decode cX1_tellStone 254 = .ok (.iload_n 1, 1) := by decide +kernel
theorem dX1_tellStone_255 : decode cX1_tellStone 255 = .ok (.iaload, 1) := by decide +kernel
theorem dX1_tellStone_256 : decode cX1_tellStone 256 = .ok (.ireturn, 1) := by decide +kernel
theorem dX1_tellStone_257 : decode cX1_tellStone 257 = .ok (.ldc 77, 2) := by decide +kernel
theorem dX1_tellStone_259 : decode cX1_tellStone 259 = .ok (.ireturn, 1) := by decide +kernel
set_option maxRecDepth 20000 in
theorem ggX1_tellDealer_X5_setWhere : GoodIn wsX1_tellDealer wsX5_setWhere := goodIn_r _ [9, 10, 54, 55, 56, 57, 58, 59, 60, 61, 62, 63] (by decide +kernel) (by decide +kernel)
set_option maxRecDepth 20000 in
theorem gX1_tellDealer_X5_setWhere : GoodIn wsX1_tellDealer (wsV RX1 126 RX5 yX5_setWhere wsX5_setWhere) := goodIn_app (goodIn_of _ (by decide +kernel)) ggX1_tellDealer_X5_setWhere
set_option maxRecDepth 20000 in
theorem ggX1_tellDealer_X1_worthOf : GoodIn wsX1_tellDealer wsX1_worthOf := goodIn_r _ [15, 3, 16, 17, 18, 14, 19, 20, 21, 22, 23, 8, 24, 25, 26, 27, 28, 29, 30, 31, 32, 33, 34, 45, 46, 47, 48, 49, 50, 51, 52, 53, 54, 55, 56, 57, 58, 59, 60, 61, 62, 63, 64, 65, 66, 67] (by decide +kernel) (by decide +kernel)
set_option maxRecDepth 20000 in
theorem gX1_tellDealer_X1_worthOf : GoodIn wsX1_tellDealer (wsV RX1 166 RX1 yX1_worthOf wsX1_worthOf) := goodIn_app (goodIn_of _ (by decide +kernel)) ggX1_tellDealer_X1_worthOf
set_option maxRecDepth 20000 in
theorem ggX1_tellDealer_X5_sumAsked : GoodIn wsX1_tellDealer wsX5_sumAsked := goodIn_r _ [38, 10, 39, 40, 41, 42, 8, 43, 44, 54, 55, 56, 57, 58, 59, 60, 61, 62, 63] (by decide +kernel) (by decide +kernel)
set_option maxRecDepth 20000 in
theorem gX1_tellDealer_X5_sumAsked : GoodIn wsX1_tellDealer (wsV RX1 169 RX5 yX5_sumAsked wsX5_sumAsked) := goodIn_app (goodIn_of _ (by decide +kernel)) ggX1_tellDealer_X5_sumAsked
theorem dX1_tellDealer_0 : decode cX1_tellDealer 0 = .ok (.iload_n 2, 1) := by decide +kernel
theorem dX1_tellDealer_1 : decode cX1_tellDealer 1 = .ok (.tableswitch 119 0 5 #[39, 49, 65, 81, 87, 103], 39) := by decide +kernel
theorem dX1_tellDealer_40 : decode cX1_tellDealer 40 = .ok (.aload_n 0, 1) := by decide +kernel
theorem dX1_tellDealer_41 : decode cX1_tellDealer 41 = .ok (.getfield 32, 3) := by decide +kernel
theorem dX1_tellDealer_44 : decode cX1_tellDealer 44 = .ok (.iload_n 1, 1) := by decide +kernel
theorem dX1_tellDealer_45 : decode cX1_tellDealer 45 = .ok (.iaload, 1) := by decide +kernel
theorem dX1_tellDealer_46 : decode cX1_tellDealer 46 = .ok (.ldc 145, 2) := by decide +kernel
theorem dX1_tellDealer_48 : decode cX1_tellDealer 48 = .ok (.iadd, 1) := by decide +kernel
theorem dX1_tellDealer_49 : decode cX1_tellDealer 49 = .ok (.ireturn, 1) := by decide +kernel
theorem dX1_tellDealer_50 : decode cX1_tellDealer 50 = .ok (.aload_n 0, 1) := by decide +kernel
theorem dX1_tellDealer_51 : decode cX1_tellDealer 51 = .ok (.getfield 21, 3) := by decide +kernel
theorem dX1_tellDealer_54 : decode cX1_tellDealer 54 = .ok (.aload_n 0, 1) := by decide +kernel
theorem dX1_tellDealer_55 : decode cX1_tellDealer 55 = .ok (.getfield 21, 3) := by decide +kernel
theorem dX1_tellDealer_58 : decode cX1_tellDealer 58 = .ok (.getfield 123, 3) := by decide +kernel
theorem dX1_tellDealer_61 : decode cX1_tellDealer 61 = .ok (.iload_n 1, 1) := by decide +kernel
theorem dX1_tellDealer_62 : decode cX1_tellDealer 62 = .ok (.invokevirtual 126, 3) := by decide +kernel
theorem dX1_tellDealer_65 : decode cX1_tellDealer 65 = .ok (.ireturn, 1) := by decide +kernel
theorem dX1_tellDealer_66 : decode cX1_tellDealer 66 = .ok (.aload_n 0, 1) := by decide +kernel
theorem dX1_tellDealer_67 : decode cX1_tellDealer 67 = .ok (.getfield 21, 3) := by decide +kernel
theorem dX1_tellDealer_70 : decode cX1_tellDealer 70 = .ok (.aload_n 0, 1) := by decide +kernel
theorem dX1_tellDealer_71 : decode cX1_tellDealer 71 = .ok (.getfield 21, 3) := by decide +kernel
theorem dX1_tellDealer_74 : decode cX1_tellDealer 74 = .ok (.getfield 105, 3) := by decide +kernel
theorem dX1_tellDealer_77 : decode cX1_tellDealer 77 = .ok (.iload_n 1, 1) := by decide +kernel
theorem dX1_tellDealer_78 : decode cX1_tellDealer 78 = .ok (.invokevirtual 126, 3) := by decide +kernel
theorem dX1_tellDealer_81 : decode cX1_tellDealer 81 = .ok (.ireturn, 1) := by decide +kernel
theorem dX1_tellDealer_82 : decode cX1_tellDealer 82 = .ok (.aload_n 0, 1) := by decide +kernel
theorem dX1_tellDealer_83 : decode cX1_tellDealer 83 = .ok (.iload_n 1, 1) := by decide +kernel
theorem dX1_tellDealer_84 : decode cX1_tellDealer 84 = .ok (.invokevirtual 166, 3) := by decide +kernel
theorem dX1_tellDealer_87 : decode cX1_tellDealer 87 = .ok (.ireturn, 1) := by decide +kernel
theorem dX1_tellDealer_88 : decode cX1_tellDealer 88 = .ok (.aload_n 0, 1) := by decide +kernel
theorem dX1_tellDealer_89 : decode cX1_tellDealer 89 = .ok (.getfield 21, 3) := by decide +kernel
theorem dX1_tellDealer_92 : decode cX1_tellDealer 92 = .ok (.aload_n 0, 1) := by decide +kernel
theorem dX1_tellDealer_93 : decode cX1_tellDealer 93 = .ok (.getfield 21, 3) := by decide +kernel
theorem dX1_tellDealer_96 : decode cX1_tellDealer 96 = .ok (.getfield 105, 3) := by decide +kernel
theorem dX1_tellDealer_99 : decode cX1_tellDealer 99 = .ok (.iload_n 1, 1) := by decide +kernel
theorem dX1_tellDealer_100 : decode cX1_tellDealer 100 = .ok (.invokevirtual 169, 3) := by decide +kernel
theorem dX1_tellDealer_103 : decode cX1_tellDealer 103 = .ok (.ireturn, 1) := by decide +kernel
theorem dX1_tellDealer_104 : decode cX1_tellDealer 104 = .ok (.aload_n 0, 1) := by decide +kernel
theorem dX1_tellDealer_105 : decode cX1_tellDealer 105 = .ok (.getfield 21, 3) := by decide +kernel
theorem dX1_tellDealer_108 : decode cX1_tellDealer 108 = .ok (.aload_n 0, 1) := by decide +kernel
theorem dX1_tellDealer_109 : decode cX1_tellDealer 109 = .ok (.getfield 21, 3) := by decide +kernel
theorem dX1_tellDealer_112 : decode cX1_tellDealer 112 = .ok (.getfield 123, 3) := by decide +kernel
theorem dX1_tellDealer_115 : decode cX1_tellDealer 115 = .ok (.iload_n 1, 1) := by decide +kernel
theorem dX1_tellDealer_116 : decode cX1_tellDealer 116 = .ok (.invokevirtual 169, 3) := by decide +kernel
theorem dX1_tellDealer_119 : decode cX1_tellDealer 119 = .ok (.ireturn, 1) := by decide +kernel
theorem dX1_tellDealer_120 : decode cX1_tellDealer 120 = .ok (.ldc 77, 2) := by decide +kernel
theorem dX1_tellDealer_122 : decode cX1_tellDealer 122 = .ok (.ireturn, 1) := by decide +kernel
set_option maxRecDepth 20000 in
theorem ggX1_tellMemo_X5_setWhere : GoodIn wsX1_tellMemo wsX5_setWhere := goodIn_r _ [13, 14, 35, 36, 37, 38, 39, 40, 41, 42, 43, 44] (by decide +kernel) (by decide +kernel)
set_option maxRecDepth 20000 in
theorem gX1_tellMemo_X5_setWhere : GoodIn wsX1_tellMemo (wsV RX1 126 RX5 yX5_setWhere wsX5_setWhere) := goodIn_app (goodIn_of _ (by decide +kernel)) ggX1_tellMemo_X5_setWhere
set_option maxRecDepth 20000 in
theorem ggX1_tellMemo_X1_isOpen : GoodIn wsX1_tellMemo wsX1_isOpen := goodIn_r _ [19, 2, 9, 10, 11, 12, 13, 14, 20, 21, 22, 23, 24, 25, 26, 27, 28, 35, 36, 37, 38, 39, 40, 41, 42, 43, 44] (by decide +kernel) (by decide +kernel)
set_option maxRecDepth 20000 in
theorem gX1_tellMemo_X1_isOpen : GoodIn wsX1_tellMemo (wsV RX1 187 RX1 yX1_isOpen wsX1_isOpen) := goodIn_app (goodIn_of _ (by decide +kernel)) ggX1_tellMemo_X1_isOpen
theorem dX1_tellMemo_0 : decode cX1_tellMemo 0 = .ok (.iload_n 2, 1) := by decide +kernel
theorem dX1_tellMemo_1 : decode cX1_tellMemo 1 = .ok (.tableswitch 146 0 7 #[47, 57, 67, 77, 93, 103, 113, 127], 47) := by decide +kernel
theorem dX1_tellMemo_48 : decode cX1_tellMemo 48 = .ok (.aload_n 0, 1) := by decide +kernel
theorem dX1_tellMemo_49 : decode cX1_tellMemo 49 = .ok (.getfield 28, 3) := by decide +kernel
theorem dX1_tellMemo_52 : decode cX1_tellMemo 52 = .ok (.getfield 172, 3) := by decide +kernel
theorem dX1_tellMemo_55 : decode cX1_tellMemo 55 = .ok (.iload_n 1, 1) := by decide +kernel
theorem dX1_tellMemo_56 : decode cX1_tellMemo 56 = .ok (.iaload, 1) := by decide +kernel
theorem dX1_tellMemo_57 : decode cX1_tellMemo 57 = .ok (.ireturn, 1) := by decide +kernel
theorem dX1_tellMemo_58 : decode cX1_tellMemo 58 = .ok (.aload_n 0, 1) := by decide +kernel
theorem dX1_tellMemo_59 : decode cX1_tellMemo 59 = .ok (.getfield 28, 3) := by decide +kernel
theorem dX1_tellMemo_62 : decode cX1_tellMemo 62 = .ok (.getfield 175, 3) := by decide +kernel
theorem dX1_tellMemo_65 : decode cX1_tellMemo 65 = .ok (.iload_n 1, 1) := by decide +kernel
theorem dX1_tellMemo_66 : decode cX1_tellMemo 66 = .ok (.iaload, 1) := by decide +kernel
theorem dX1_tellMemo_67 : decode cX1_tellMemo 67 = .ok (.ireturn, 1) := by decide +kernel
theorem dX1_tellMemo_68 : decode cX1_tellMemo 68 = .ok (.aload_n 0, 1) := by decide +kernel
theorem dX1_tellMemo_69 : decode cX1_tellMemo 69 = .ok (.getfield 28, 3) := by decide +kernel
theorem dX1_tellMemo_72 : decode cX1_tellMemo 72 = .ok (.getfield 178, 3) := by decide +kernel
theorem dX1_tellMemo_75 : decode cX1_tellMemo 75 = .ok (.iload_n 1, 1) := by decide +kernel
theorem dX1_tellMemo_76 : decode cX1_tellMemo 76 = .ok (.iaload, 1) := by decide +kernel
theorem dX1_tellMemo_77 : decode cX1_tellMemo 77 = .ok (.ireturn, 1) := by decide +kernel
theorem dX1_tellMemo_78 : decode cX1_tellMemo 78 = .ok (.aload_n 0, 1) := by decide +kernel
theorem dX1_tellMemo_79 : decode cX1_tellMemo 79 = .ok (.getfield 21, 3) := by decide +kernel
theorem dX1_tellMemo_82 : decode cX1_tellMemo 82 = .ok (.aload_n 0, 1) := by decide +kernel
theorem dX1_tellMemo_83 : decode cX1_tellMemo 83 = .ok (.getfield 21, 3) := by decide +kernel
theorem dX1_tellMemo_86 : decode cX1_tellMemo 86 = .ok (.getfield 108, 3) := by decide +kernel
theorem dX1_tellMemo_89 : decode cX1_tellMemo 89 = .ok (.iload_n 1, 1) := by decide +kernel
theorem dX1_tellMemo_90 : decode cX1_tellMemo 90 = .ok (.invokevirtual 126, 3) := by decide +kernel
theorem dX1_tellMemo_93 : decode cX1_tellMemo 93 = .ok (.ireturn, 1) := by decide +kernel
theorem dX1_tellMemo_94 : decode cX1_tellMemo 94 = .ok (.aload_n 0, 1) := by decide +kernel
theorem dX1_tellMemo_95 : decode cX1_tellMemo 95 = .ok (.getfield 28, 3) := by decide +kernel
theorem dX1_tellMemo_98 : decode cX1_tellMemo 98 = .ok (.getfield 181, 3) := by decide +kernel
theorem dX1_tellMemo_101 : decode cX1_tellMemo 101 = .ok (.iload_n 1, 1) := by decide +kernel
theorem dX1_tellMemo_102 : decode cX1_tellMemo 102 = .ok (.iaload, 1) := by decide +kernel
theorem dX1_tellMemo_103 : decode cX1_tellMemo 103 = .ok (.ireturn, 1) := by decide +kernel
theorem dX1_tellMemo_104 : decode cX1_tellMemo 104 = .ok (.aload_n 0, 1) := by decide +kernel
theorem dX1_tellMemo_105 : decode cX1_tellMemo 105 = .ok (.getfield 28, 3) := by decide +kernel
theorem dX1_tellMemo_108 : decode cX1_tellMemo 108 = .ok (.getfield 184, 3) := by decide +kernel
theorem dX1_tellMemo_111 : decode cX1_tellMemo 111 = .ok (.iload_n 1, 1) := by decide +kernel
theorem dX1_tellMemo_112 : decode cX1_tellMemo 112 = .ok (.iaload, 1) := by decide +kernel
theorem dX1_tellMemo_113 : decode cX1_tellMemo 113 = .ok (.ireturn, 1) := by decide +kernel
theorem dX1_tellMemo_114 : decode cX1_tellMemo 114 = .ok (.aload_n 0, 1) := by decide +kernel
theorem dX1_tellMemo_115 : decode cX1_tellMemo 115 = .ok (.iload_n 1, 1) := by decide +kernel
theorem dX1_tellMemo_116 : decode cX1_tellMemo 116 = .ok (.invokevirtual 187, 3) := by decide +kernel
theorem dX1_tellMemo_119 : decode cX1_tellMemo 119 = .ok (.ifCond .eq 7, 3) := by decide +kernel
theorem dX1_tellMemo_122 : decode cX1_tellMemo 122 = .ok (.iconst 1, 1) := by decide +kernel
theorem dX1_tellMemo_123 : decode cX1_tellMemo 123 = .ok (.goto 4, 3) := by decide +kernel
theorem dX1_tellMemo_126 : decode cX1_tellMemo 126 = .ok (.iconst 0, 1) := by decide +kernel
theorem dX1_tellMemo_127 : decode cX1_tellMemo 127 = .ok (.ireturn, 1) := by decide +kernel
theorem dX1_tellMemo_128 : decode cX1_tellMemo 128 = .ok (.iconst 0, 1) := by decide +kernel
theorem dX1_tellMemo_129 : decode cX1_tellMemo 129 = .ok (.aload_n 0, 1) := by decide +kernel
theorem dX1_tellMemo_130 : decode cX1_tellMemo 130 = .ok (.getfield 28, 3) := by decide +kernel
theorem dX1_tellMemo_133 : decode cX1_tellMemo 133 = .ok (.getfield 178, 3) := by decide +kernel
theorem dX1_tellMemo_136 : decode cX1_tellMemo 136 = .ok (.iload_n 1, 1) := by decide +kernel
theorem dX1_tellMemo_137 : decode cX1_tellMemo 137 = .ok (.iaload, 1) := by decide +kernel
theorem dX1_tellMemo_138 : decode cX1_tellMemo 138 = .ok (.aload_n 0, 1) := by decide +kernel
theorem dX1_tellMemo_139 : decode cX1_tellMemo 139 = .ok (.getfield 40, 3) := by decide +kernel
theorem dX1_tellMemo_142 : decode cX1_tellMemo 142 = .ok (.isub, 1) := by decide +kernel
theorem dX1_tellMemo_143 : decode cX1_tellMemo 143 = .ok (.invokestatic 190, 3) := by decide +kernel
theorem dX1_tellMemo_146 : decode cX1_tellMemo 146 = .ok (.ireturn, 1) := by decide +kernel
theorem dX1_tellMemo_147 : decode cX1_tellMemo 147 = .ok (.ldc 77, 2) := by decide +kernel
theorem dX1_tellMemo_149 : decode cX1_tellMemo 149 = .ok (.ireturn, 1) := by decide +kernel
set_option maxRecDepth 20000 in
theorem ggX1_tellNumber_X5_countSold : GoodIn wsX1_tellNumber wsX5_countSold := goodIn_r _ [15, 16, 17, 18, 19, 14, 20, 21, 68, 69, 70, 71, 72, 73, 74, 75, 76, 77] (by decide +kernel) (by decide +kernel)
set_option maxRecDepth 20000 in
theorem gX1_tellNumber_X5_countSold : GoodIn wsX1_tellNumber (wsV RX1 196 RX5 yX5_countSold wsX5_countSold) := goodIn_app (goodIn_of _ (by decide +kernel)) ggX1_tellNumber_X5_countSold
set_option maxRecDepth 20000 in
theorem ggX1_tellNumber_X5_countOut : GoodIn wsX1_tellNumber wsX5_countOut := goodIn_r _ [25, 16, 26, 27, 28, 14, 29, 30, 68, 69, 70, 71, 72, 73, 74, 75, 76, 77] (by decide +kernel) (by decide +kernel)
set_option maxRecDepth 20000 in
theorem gX1_tellNumber_X5_countOut : GoodIn wsX1_tellNumber (wsV RX1 199 RX5 yX5_countOut wsX5_countOut) := goodIn_app (goodIn_of _ (by decide +kernel)) ggX1_tellNumber_X5_countOut
set_option maxRecDepth 20000 in
theorem ggX1_tellNumber_X1_countOpen : GoodIn wsX1_tellNumber wsX1_countOpen := goodIn_r _ [35, 3, 36, 37, 38, 34, 39, 2, 40, 41, 42, 14, 43, 16, 59, 60, 61, 62, 63, 64, 65, 66, 67, 78, 79, 80, 81, 82, 83, 68, 69, 70, 71, 72, 73, 74, 75, 76, 77] (by decide +kernel) (by decide +kernel)
set_option maxRecDepth 20000 in
theorem gX1_tellNumber_X1_countOpen : GoodIn wsX1_tellNumber (wsV RX1 203 RX1 yX1_countOpen wsX1_countOpen) := goodIn_app (goodIn_of _ (by decide +kernel)) ggX1_tellNumber_X1_countOpen
set_option maxRecDepth 20000 in
theorem ggX1_tellNumber_X3_entries : GoodIn wsX1_tellNumber wsX3_entries := goodIn_r _ [48, 49, 84, 85, 86, 87] (by decide +kernel) (by decide +kernel)
set_option maxRecDepth 20000 in
theorem gX1_tellNumber_X3_entries : GoodIn wsX1_tellNumber (wsV RX1 206 RX3 yX3_entries wsX3_entries) := goodIn_app (goodIn_of _ (by decide +kernel)) ggX1_tellNumber_X3_entries
set_option maxRecDepth 20000 in
theorem ggX1_tellNumber_X1_sumOfBalances : GoodIn wsX1_tellNumber wsX1_sumOfBalances := goodIn_r _ [53, 1, 54, 59, 60, 61, 62, 63, 64, 65, 66, 67] (by decide +kernel) (by decide +kernel)
set_option maxRecDepth 20000 in
theorem gX1_tellNumber_X1_sumOfBalances : GoodIn wsX1_tellNumber (wsV RX1 209 RX1 yX1_sumOfBalances wsX1_sumOfBalances) := goodIn_app (goodIn_of _ (by decide +kernel)) ggX1_tellNumber_X1_sumOfBalances
set_option maxRecDepth 20000 in
theorem ggX1_tellNumber_X5_sumSold : GoodIn wsX1_tellNumber wsX5_sumSold := goodIn_r _ [58, 16, 21, 68, 69, 70, 71, 72, 73, 74, 75, 76, 77] (by decide +kernel) (by decide +kernel)
set_option maxRecDepth 20000 in
theorem gX1_tellNumber_X5_sumSold : GoodIn wsX1_tellNumber (wsV RX1 212 RX5 yX5_sumSold wsX5_sumSold) := goodIn_app (goodIn_of _ (by decide +kernel)) ggX1_tellNumber_X5_sumSold
theorem dX1_tellNumber_0 : decode cX1_tellNumber 0 = .ok (.iload_n 1, 1) := by decide +kernel
theorem dX1_tellNumber_1 : decode cX1_tellNumber 1 = .ok (.tableswitch 165 0 15 #[79, 84, 92, 100, 108, 116, 121, 129, 134, 142, 150, 165, 165, 165, 155, 160], 79) := by decide +kernel
theorem dX1_tellNumber_80 : decode cX1_tellNumber 80 = .ok (.aload_n 0, 1) := by decide +kernel
theorem dX1_tellNumber_81 : decode cX1_tellNumber 81 = .ok (.getfield 36, 3) := by decide +kernel
theorem dX1_tellNumber_84 : decode cX1_tellNumber 84 = .ok (.ireturn, 1) := by decide +kernel
theorem dX1_tellNumber_85 : decode cX1_tellNumber 85 = .ok (.aload_n 0, 1) := by decide +kernel
theorem dX1_tellNumber_86 : decode cX1_tellNumber 86 = .ok (.getfield 21, 3) := by decide +kernel
theorem dX1_tellNumber_89 : decode cX1_tellNumber 89 = .ok (.getfield 98, 3) := by decide +kernel
theorem dX1_tellNumber_92 : decode cX1_tellNumber 92 = .ok (.ireturn, 1) := by decide +kernel
theorem dX1_tellNumber_93 : decode cX1_tellNumber 93 = .ok (.aload_n 0, 1) := by decide +kernel
theorem dX1_tellNumber_94 : decode cX1_tellNumber 94 = .ok (.getfield 21, 3) := by decide +kernel
theorem dX1_tellNumber_97 : decode cX1_tellNumber 97 = .ok (.invokevirtual 196, 3) := by decide +kernel
theorem dX1_tellNumber_100 : decode cX1_tellNumber 100 = .ok (.ireturn, 1) := by decide +kernel
theorem dX1_tellNumber_101 : decode cX1_tellNumber 101 = .ok (.aload_n 0, 1) := by decide +kernel
theorem dX1_tellNumber_102 : decode cX1_tellNumber 102 = .ok (.getfield 21, 3) := by decide +kernel
theorem dX1_tellNumber_105 : decode cX1_tellNumber 105 = .ok (.invokevirtual 199, 3) := by decide +kernel
theorem dX1_tellNumber_108 : decode cX1_tellNumber 108 = .ok (.ireturn, 1) := by decide +kernel
theorem dX1_tellNumber_109 : decode cX1_tellNumber 109 = .ok (.aload_n 0, 1) := by decide +kernel
theorem dX1_tellNumber_110 : decode cX1_tellNumber 110 = .ok (.getfield 28, 3) := by decide +kernel
theorem dX1_tellNumber_113 : decode cX1_tellNumber 113 = .ok (.getfield 202, 3) := by decide +kernel
theorem dX1_tellNumber_116 : decode cX1_tellNumber 116 = .ok (.ireturn, 1) := by decide +kernel
theorem dX1_tellNumber_117 : decode cX1_tellNumber 117 = .ok (.aload_n 0, 1) := by decide +kernel
theorem dX1_tellNumber_118 : decode cX1_tellNumber 118 = .ok (.invokevirtual 203, 3) := by decide +kernel
theorem dX1_tellNumber_121 : decode cX1_tellNumber 121 = .ok (.ireturn, 1) := by decide +kernel
theorem dX1_tellNumber_122 : decode cX1_tellNumber 122 = .ok (.aload_n 0, 1) := by decide +kernel
theorem dX1_tellNumber_123 : decode cX1_tellNumber 123 = .ok (.getfield 12, 3) := by decide +kernel
theorem dX1_tellNumber_126 : decode cX1_tellNumber 126 = .ok (.invokevirtual 206, 3) := by decide +kernel
theorem dX1_tellNumber_129 : decode cX1_tellNumber 129 = .ok (.ireturn, 1) := by decide +kernel
theorem dX1_tellNumber_130 : decode cX1_tellNumber 130 = .ok (.aload_n 0, 1) := by decide +kernel
theorem dX1_tellNumber_131 : decode cX1_tellNumber 131 = .ok (.getfield 40, 3) := by decide +kernel
theorem dX1_tellNumber_134 : decode cX1_tellNumber 134 = .ok (.ireturn, 1) := by decide +kernel
theorem dX1_tellNumber_135 : decode cX1_tellNumber 135 = .ok (.aload_n 0, 1) := by decide +kernel
theorem dX1_tellNumber_136 : decode cX1_tellNumber 136 = .ok (.invokevirtual 209, 3) := by decide +kernel
theorem dX1_tellNumber_139 : decode cX1_tellNumber 139 = .ok (.ldc 145, 2) := by decide +kernel
theorem dX1_tellNumber_141 : decode cX1_tellNumber 141 = .ok (.iadd, 1) := by decide +kernel
theorem dX1_tellNumber_142 : decode cX1_tellNumber 142 = .ok (.ireturn, 1) := by decide +kernel
theorem dX1_tellNumber_143 : decode cX1_tellNumber 143 = .ok (.aload_n 0, 1) := by decide +kernel
theorem dX1_tellNumber_144 : decode cX1_tellNumber 144 = .ok (.getfield 21, 3) := by decide +kernel
theorem dX1_tellNumber_147 : decode cX1_tellNumber 147 = .ok (.invokevirtual 212, 3) := by decide +kernel
theorem dX1_tellNumber_150 : decode cX1_tellNumber 150 = .ok (.ireturn, 1) := by decide +kernel
theorem dX1_tellNumber_151 : decode cX1_tellNumber 151 = .ok (.aload_n 0, 1) := by decide +kernel
theorem dX1_tellNumber_152 : decode cX1_tellNumber 152 = .ok (.getfield 49, 3) := by decide +kernel
theorem dX1_tellNumber_155 : decode cX1_tellNumber 155 = .ok (.ireturn, 1) := by decide +kernel
theorem dX1_tellNumber_156 : decode cX1_tellNumber 156 = .ok (.aload_n 0, 1) := by decide +kernel
theorem dX1_tellNumber_157 : decode cX1_tellNumber 157 = .ok (.getfield 43, 3) := by decide +kernel
theorem dX1_tellNumber_160 : decode cX1_tellNumber 160 = .ok (.ireturn, 1) := by decide +kernel
theorem dX1_tellNumber_161 : decode cX1_tellNumber 161 = .ok (.aload_n 0, 1) := by decide +kernel
theorem dX1_tellNumber_162 : decode cX1_tellNumber 162 = .ok (.getfield 46, 3) := by decide +kernel
theorem dX1_tellNumber_165 : decode cX1_tellNumber 165 = .ok (.ireturn, 1) := by decide +kernel
theorem dX1_tellNumber_166 : decode cX1_tellNumber 166 = .ok (.ldc 77, 2) := by decide +kernel
theorem dX1_tellNumber_168 : decode cX1_tellNumber 168 = .ok (.ireturn, 1) := by decide +kernel
set_option maxRecDepth 20000 in
theorem ggX1_priceOf_X5_sieveOf : GoodIn wsX1_priceOf wsX5_sieveOf := goodIn_r _ [7, 8, 27, 28, 29, 30, 31, 32, 33, 34, 35, 36] (by decide +kernel) (by decide +kernel)
set_option maxRecDepth 20000 in
theorem gX1_priceOf_X5_sieveOf : GoodIn wsX1_priceOf (wsV RX1 159 RX5 yX5_sieveOf wsX5_sieveOf) := goodIn_app (goodIn_of _ (by decide +kernel)) ggX1_priceOf_X5_sieveOf
set_option maxRecDepth 20000 in
theorem ggX1_priceOf_X3_rateFor : GoodIn wsX1_priceOf wsX3_rateFor := goodIn_r _ [13, 14, 15, 16, 17, 37, 38, 39, 40] (by decide +kernel) (by decide +kernel)
set_option maxRecDepth 20000 in
theorem gX1_priceOf_X3_rateFor : GoodIn wsX1_priceOf (wsV RX1 215 RX3 yX3_rateFor wsX3_rateFor) := goodIn_app (goodIn_of _ (by decide +kernel)) ggX1_priceOf_X3_rateFor
theorem dX1_priceOf_0 : decode cX1_priceOf 0 = .ok (.aload_n 0, 1) := by decide +kernel
theorem dX1_priceOf_1 : decode cX1_priceOf 1 = .ok (.getfield 12, 3) := by decide +kernel
theorem dX1_priceOf_4 : decode cX1_priceOf 4 = .ok (.aload_n 0, 1) := by decide +kernel
theorem dX1_priceOf_5 : decode cX1_priceOf 5 = .ok (.getfield 21, 3) := by decide +kernel
theorem dX1_priceOf_8 : decode cX1_priceOf 8 = .ok (.iload_n 1, 1) := by decide +kernel
theorem dX1_priceOf_9 : decode cX1_priceOf 9 = .ok (.invokevirtual 159, 3) := by decide +kernel
theorem dX1_priceOf_12 : decode cX1_priceOf 12 = .ok (.aload_n 0, 1) := by decide +kernel
theorem dX1_priceOf_13 : decode cX1_priceOf 13 = .ok (.getfield 21, 3) := by decide +kernel
theorem dX1_priceOf_16 : decode cX1_priceOf 16 = .ok (.getfield 146, 3) := by decide +kernel
theorem dX1_priceOf_19 : decode cX1_priceOf 19 = .ok (.iload_n 1, 1) := by decide +kernel
theorem dX1_priceOf_20 : decode cX1_priceOf 20 = .ok (.iaload, 1) := by decide +kernel
theorem dX1_priceOf_21 : decode cX1_priceOf 21 = .ok (.aload_n 0, 1) := by decide +kernel
theorem dX1_priceOf_22 : decode cX1_priceOf 22 = .ok (.getfield 21, 3) := by decide +kernel
theorem dX1_priceOf_25 : decode cX1_priceOf 25 = .ok (.getfield 149, 3) := by decide +kernel
theorem dX1_priceOf_28 : decode cX1_priceOf 28 = .ok (.iload_n 1, 1) := by decide +kernel
theorem dX1_priceOf_29 : decode cX1_priceOf 29 = .ok (.iaload, 1) := by decide +kernel
theorem dX1_priceOf_30 : decode cX1_priceOf 30 = .ok (.invokevirtual 215, 3) := by decide +kernel
theorem dX1_priceOf_33 : decode cX1_priceOf 33 = .ok (.istore_n 2, 1) := by decide +kernel
theorem dX1_priceOf_34 : decode cX1_priceOf 34 = .ok (.iload_n 2, 1) := by decide +kernel
theorem dX1_priceOf_35 : decode cX1_priceOf 35 = .ok (.ifCond .ne 7, 3) := by decide +kernel
theorem dX1_priceOf_38 : decode cX1_priceOf 38 = .ok (.iconst (-1), 1) := by decide +kernel
theorem dX1_priceOf_39 : decode cX1_priceOf 39 = .ok (.goto 17, 3) := by decide +kernel
theorem dX1_priceOf_42 : decode cX1_priceOf 42 = .ok (.aload_n 0, 1) := by decide +kernel
theorem dX1_priceOf_43 : decode cX1_priceOf 43 = .ok (.getfield 21, 3) := by decide +kernel
theorem dX1_priceOf_46 : decode cX1_priceOf 46 = .ok (.getfield 156, 3) := by decide +kernel
theorem dX1_priceOf_49 : decode cX1_priceOf 49 = .ok (.iload_n 1, 1) := by decide +kernel
theorem dX1_priceOf_50 : decode cX1_priceOf 50 = .ok (.iaload, 1) := by decide +kernel
theorem dX1_priceOf_51 : decode cX1_priceOf 51 = .ok (.iload_n 2, 1) := by decide +kernel
theorem dX1_priceOf_52 : decode cX1_priceOf 52 = .ok (.imul, 1) := by decide +kernel
theorem dX1_priceOf_53 : decode cX1_priceOf 53 = .ok (.bipush 100, 2) := by decide +kernel
theorem dX1_priceOf_55 : decode cX1_priceOf 55 = .ok (.idiv, 1) := by decide +kernel
theorem dX1_priceOf_56 : decode cX1_priceOf 56 = .ok (.ireturn, 1) := by decide +kernel
set_option maxRecDepth 20000 in
theorem ggX1_canLend_X1_priceOf : GoodIn wsX1_canLend wsX1_priceOf := goodIn_r _ [6, 7, 1, 8, 9, 10, 11, 12, 13, 14, 15, 16, 17, 18, 19, 20, 21, 22, 23, 24, 25, 26, 27, 28, 29, 30, 31, 32, 33, 34, 35, 36, 37, 38, 39, 40, 41, 42, 43, 44, 45] (by decide +kernel) (by decide +kernel)
set_option maxRecDepth 20000 in
theorem gX1_canLend_X1_priceOf : GoodIn wsX1_canLend (wsV RX1 113 RX1 yX1_priceOf wsX1_priceOf) := goodIn_app (goodIn_of _ (by decide +kernel)) ggX1_canLend_X1_priceOf
theorem dX1_canLend_0 : decode cX1_canLend 0 = .ok (.iconst 0, 1) := by decide +kernel
theorem dX1_canLend_1 : decode cX1_canLend 1 = .ok (.istore_n 3, 1) := by decide +kernel
theorem dX1_canLend_2 : decode cX1_canLend 2 = .ok (.iload_n 3, 1) := by decide +kernel
theorem dX1_canLend_3 : decode cX1_canLend 3 = .ok (.aload_n 0, 1) := by decide +kernel
theorem dX1_canLend_4 : decode cX1_canLend 4 = .ok (.getfield 21, 3) := by decide +kernel
theorem dX1_canLend_7 : decode cX1_canLend 7 = .ok (.getfield 98, 3) := by decide +kernel
theorem dX1_canLend_10 : decode cX1_canLend 10 = .ok (.if_icmp .ge 55, 3) := by decide +kernel
theorem dX1_canLend_13 : decode cX1_canLend 13 = .ok (.iload_n 2, 1) := by decide +kernel
theorem dX1_canLend_14 : decode cX1_canLend 14 = .ok (.iload_n 3, 1) := by decide +kernel
theorem dX1_canLend_15 : decode cX1_canLend 15 = .ok (.ishr, 1) := by decide +kernel
theorem dX1_canLend_16 : decode cX1_canLend 16 = .ok (.iconst 1, 1) := by decide +kernel
theorem dX1_canLend_17 : decode cX1_canLend 17 = .ok (.iand, 1) := by decide +kernel
theorem dX1_canLend_18 : decode cX1_canLend 18 = .ok (.iconst 1, 1) := by decide +kernel
theorem dX1_canLend_19 : decode cX1_canLend 19 = .ok (.if_icmp .ne 40, 3) := by decide +kernel
theorem dX1_canLend_22 : decode cX1_canLend 22 = .ok (.aload_n 0, 1) := by decide +kernel
theorem dX1_canLend_23 : decode cX1_canLend 23 = .ok (.getfield 21, 3) := by decide +kernel
theorem dX1_canLend_26 : decode cX1_canLend 26 = .ok (.getfield 123, 3) := by decide +kernel
theorem dX1_canLend_29 : decode cX1_canLend 29 = .ok (.iload_n 3, 1) := by decide +kernel
theorem dX1_canLend_30 : decode cX1_canLend 30 = .ok (.iaload, 1) := by decide +kernel
theorem dX1_canLend_31 : decode cX1_canLend 31 = .ok (.iload_n 1, 1) := by decide +kernel
theorem dX1_canLend_32 : decode cX1_canLend 32 = .ok (.if_icmp .ne 25, 3) := by decide +kernel
theorem dX1_canLend_35 : decode cX1_canLend 35 = .ok (.aload_n 0, 1) := by decide +kernel
theorem dX1_canLend_36 : decode cX1_canLend 36 = .ok (.getfield 21, 3) := by decide +kernel
theorem dX1_canLend_39 : decode cX1_canLend 39 = .ok (.getfield 105, 3) := by decide +kernel
theorem dX1_canLend_42 : decode cX1_canLend 42 = .ok (.iload_n 3, 1) := by decide +kernel
theorem dX1_canLend_43 : decode cX1_canLend 43 = .ok (.iaload, 1) := by decide +kernel
theorem dX1_canLend_44 : decode cX1_canLend 44 = .ok (.iload_n 1, 1) := by decide +kernel
theorem dX1_canLend_45 : decode cX1_canLend 45 = .ok (.if_icmp .ne 12, 3) := by decide +kernel
theorem dX1_canLend_48 : decode cX1_canLend 48 = .ok (.aload_n 0, 1) := by decide +kernel
theorem dX1_canLend_49 : decode cX1_canLend 49 = .ok (.iload_n 3, 1) := by decide +kernel
theorem dX1_canLend_50 : decode cX1_canLend 50 = .ok (.invokevirtual 113, 3) := by decide +kernel
theorem dX1_canLend_53 : decode cX1_canLend 53 = .ok (.iconst (-1), 1) := by decide +kernel
theorem dX1_canLend_54 : decode cX1_canLend 54 = .ok (.if_icmp .ne 5, 3) := by decide +kernel
theorem dX1_canLend_57 : decode cX1_canLend 57 = .ok (.iconst 0, 1) := by decide +kernel
theorem dX1_canLend_58 : decode cX1_canLend 58 = .ok (.ireturn, 1) := by decide +kernel
theorem dX1_canLend_59 : decode cX1_canLend 59 = .ok (.iinc 3 1, 3) := by decide +kernel
theorem dX1_canLend_62 : decode cX1_canLend 62 = .ok (.goto (-60), 3) := by decide +kernel
theorem dX1_canLend_65 : decode cX1_canLend 65 = .ok (.iconst 1, 1) := by decide +kernel
theorem dX1_canLend_66 : decode cX1_canLend 66 = .ok (.ireturn, 1) := by decide +kernel
set_option maxRecDepth 20000 in
theorem ggX1_keepFor_X1_hasDealer : GoodIn wsX1_keepFor wsX1_hasDealer := goodIn_r _ [8, 9, 16, 17, 18, 19, 20, 21, 22, 23, 24] (by decide +kernel) (by decide +kernel)
set_option maxRecDepth 20000 in
theorem gX1_keepFor_X1_hasDealer : GoodIn wsX1_keepFor (wsV RX1 69 RX1 yX1_hasDealer wsX1_hasDealer) := goodIn_app (goodIn_of _ (by decide +kernel)) ggX1_keepFor_X1_hasDealer
set_option maxRecDepth 20000 in
theorem ggX1_keepFor_X2_has : GoodIn wsX1_keepFor wsX2_has := goodIn_r _ [14, 15, 35, 36, 37, 38, 39, 40] (by decide +kernel) (by decide +kernel)
set_option maxRecDepth 20000 in
theorem gX1_keepFor_X2_has : GoodIn wsX1_keepFor (wsV RX1 218 RX2 yX2_has wsX2_has) := goodIn_app (goodIn_of _ (by decide +kernel)) ggX1_keepFor_X2_has
theorem dX1_keepFor_0 : decode cX1_keepFor 0 = .ok (.aload_n 0, 1) := by decide +kernel
theorem dX1_keepFor_1 : decode cX1_keepFor 1 = .ok (.getfield 21, 3) := by decide +kernel
theorem dX1_keepFor_4 : decode cX1_keepFor 4 = .ok (.getfield 123, 3) := by decide +kernel
theorem dX1_keepFor_7 : decode cX1_keepFor 7 = .ok (.iload_n 1, 1) := by decide +kernel
theorem dX1_keepFor_8 : decode cX1_keepFor 8 = .ok (.iaload, 1) := by decide +kernel
theorem dX1_keepFor_9 : decode cX1_keepFor 9 = .ok (.istore_n 3, 1) := by decide +kernel
theorem dX1_keepFor_10 : decode cX1_keepFor 10 = .ok (.aload_n 0, 1) := by decide +kernel
theorem dX1_keepFor_11 : decode cX1_keepFor 11 = .ok (.getfield 21, 3) := by decide +kernel
theorem dX1_keepFor_14 : decode cX1_keepFor 14 = .ok (.getfield 105, 3) := by decide +kernel
theorem dX1_keepFor_17 : decode cX1_keepFor 17 = .ok (.iload_n 1, 1) := by decide +kernel
theorem dX1_keepFor_18 : decode cX1_keepFor 18 = .ok (.iaload, 1) := by decide +kernel
theorem dX1_keepFor_19 : decode cX1_keepFor 19 = .ok (.istore 4, 2) := by decide +kernel
theorem dX1_keepFor_21 : decode cX1_keepFor 21 = .ok (.aload_n 0, 1) := by decide +kernel
theorem dX1_keepFor_22 : decode cX1_keepFor 22 = .ok (.getfield 21, 3) := by decide +kernel
theorem dX1_keepFor_25 : decode cX1_keepFor 25 = .ok (.getfield 108, 3) := by decide +kernel
theorem dX1_keepFor_28 : decode cX1_keepFor 28 = .ok (.iload_n 1, 1) := by decide +kernel
theorem dX1_keepFor_29 : decode cX1_keepFor 29 = .ok (.iaload, 1) := by decide +kernel
theorem dX1_keepFor_30 : decode cX1_keepFor 30 = .ok (.istore 5, 2) := by decide +kernel
theorem dX1_keepFor_32 : decode cX1_keepFor 32 = .ok (.aload_n 0, 1) := by decide +kernel
theorem dX1_keepFor_33 : decode cX1_keepFor 33 = .ok (.iload_n 3, 1) := by decide +kernel
theorem dX1_keepFor_34 : decode cX1_keepFor 34 = .ok (.invokevirtual 69, 3) := by decide +kernel
theorem dX1_keepFor_37 : decode cX1_keepFor 37 = .ok (.ifCond .eq 24, 3) := by decide +kernel
theorem dX1_keepFor_40 : decode cX1_keepFor 40 = .ok (.aload_n 0, 1) := by decide +kernel
theorem dX1_keepFor_41 : decode cX1_keepFor 41 = .ok (.iload 4, 2) := by decide +kernel
theorem dX1_keepFor_43 : decode cX1_keepFor 43 = .ok (.invokevirtual 69, 3) := by decide +kernel
theorem dX1_keepFor_46 : decode cX1_keepFor 46 = .ok (.ifCond .eq 15, 3) := by decide +kernel
theorem dX1_keepFor_49 : decode cX1_keepFor 49 = .ok (.aload_n 0, 1) := by decide +kernel
theorem dX1_keepFor_50 : decode cX1_keepFor 50 = .ok (.getfield 28, 3) := by decide +kernel
theorem dX1_keepFor_53 : decode cX1_keepFor 53 = .ok (.iload 5, 2) := by decide +kernel
theorem dX1_keepFor_55 : decode cX1_keepFor 55 = .ok (.invokevirtual 218, 3) := by decide +kernel
theorem dX1_keepFor_58 : decode cX1_keepFor 58 = .ok (.ifCond .ne 4, 3) := by decide +kernel
theorem dX1_keepFor_61 : decode cX1_keepFor 61 = .ok (.return_, 1) := by decide +kernel
theorem dX1_keepFor_62 : decode cX1_keepFor 62 = .ok (.aload_n 0, 1) := by decide +kernel
theorem dX1_keepFor_63 : decode cX1_keepFor 63 = .ok (.getfield 32, 3) := by decide +kernel
theorem dX1_keepFor_66 : decode cX1_keepFor 66 = .ok (.iload 4, 2) := by decide +kernel
theorem dX1_keepFor_68 : decode cX1_keepFor 68 = .ok (.dup2, 1) := by decide +kernel
theorem dX1_keepFor_69 : decode cX1_keepFor 69 = .ok (.iaload, 1) := by decide +kernel
theorem dX1_keepFor_70 : decode cX1_keepFor 70 = .ok (.iload_n 2, 1) := by decide +kernel
theorem dX1_keepFor_71 : decode cX1_keepFor 71 = .ok (.isub, 1) := by decide +kernel
theorem dX1_keepFor_72 : decode cX1_keepFor 72 = .ok (.iastore, 1) := by decide +kernel
theorem dX1_keepFor_73 : decode cX1_keepFor 73 = .ok (.aload_n 0, 1) := by decide +kernel
theorem dX1_keepFor_74 : decode cX1_keepFor 74 = .ok (.getfield 32, 3) := by decide +kernel
theorem dX1_keepFor_77 : decode cX1_keepFor 77 = .ok (.iload_n 3, 1) := by decide +kernel
theorem dX1_keepFor_78 : decode cX1_keepFor 78 = .ok (.dup2, 1) := by decide +kernel
theorem dX1_keepFor_79 : decode cX1_keepFor 79 = .ok (.iaload, 1) := by decide +kernel
theorem dX1_keepFor_80 : decode cX1_keepFor 80 = .ok (.iload_n 2, 1) := by decide +kernel
theorem dX1_keepFor_81 : decode cX1_keepFor 81 = .ok (.iadd, 1) := by decide +kernel
theorem dX1_keepFor_82 : decode cX1_keepFor 82 = .ok (.iastore, 1) := by decide +kernel
theorem dX1_keepFor_83 : decode cX1_keepFor 83 = .ok (.aload_n 0, 1) := by decide +kernel
theorem dX1_keepFor_84 : decode cX1_keepFor 84 = .ok (.getfield 28, 3) := by decide +kernel
theorem dX1_keepFor_87 : decode cX1_keepFor 87 = .ok (.getfield 184, 3) := by decide +kernel
theorem dX1_keepFor_90 : decode cX1_keepFor 90 = .ok (.iload 5, 2) := by decide +kernel
theorem dX1_keepFor_92 : decode cX1_keepFor 92 = .ok (.dup2, 1) := by decide +kernel
theorem dX1_keepFor_93 : decode cX1_keepFor 93 = .ok (.iaload, 1) := by decide +kernel
theorem dX1_keepFor_94 : decode cX1_keepFor 94 = .ok (.iconst 1, 1) := by decide +kernel
theorem dX1_keepFor_95 : decode cX1_keepFor 95 = .ok (.iadd, 1) := by decide +kernel
theorem dX1_keepFor_96 : decode cX1_keepFor 96 = .ok (.iastore, 1) := by decide +kernel
theorem dX1_keepFor_97 : decode cX1_keepFor 97 = .ok (.aload_n 0, 1) := by decide +kernel
theorem dX1_keepFor_98 : decode cX1_keepFor 98 = .ok (.getfield 21, 3) := by decide +kernel
theorem dX1_keepFor_101 : decode cX1_keepFor 101 = .ok (.getfield 123, 3) := by decide +kernel
theorem dX1_keepFor_104 : decode cX1_keepFor 104 = .ok (.iload_n 1, 1) := by decide +kernel
theorem dX1_keepFor_105 : decode cX1_keepFor 105 = .ok (.iload 4, 2) := by decide +kernel
theorem dX1_keepFor_107 : decode cX1_keepFor 107 = .ok (.iastore, 1) := by decide +kernel
theorem dX1_keepFor_108 : decode cX1_keepFor 108 = .ok (.aload_n 0, 1) := by decide +kernel
theorem dX1_keepFor_109 : decode cX1_keepFor 109 = .ok (.getfield 21, 3) := by decide +kernel
theorem dX1_keepFor_112 : decode cX1_keepFor 112 = .ok (.getfield 108, 3) := by decide +kernel
theorem dX1_keepFor_115 : decode cX1_keepFor 115 = .ok (.iload_n 1, 1) := by decide +kernel
theorem dX1_keepFor_116 : decode cX1_keepFor 116 = .ok (.iconst (-1), 1) := by decide +kernel
theorem dX1_keepFor_117 : decode cX1_keepFor 117 = .ok (.iastore, 1) := by decide +kernel
theorem dX1_keepFor_118 : decode cX1_keepFor 118 = .ok (.aload_n 0, 1) := by decide +kernel
theorem dX1_keepFor_119 : decode cX1_keepFor 119 = .ok (.getfield 21, 3) := by decide +kernel
theorem dX1_keepFor_122 : decode cX1_keepFor 122 = .ok (.getfield 163, 3) := by decide +kernel
theorem dX1_keepFor_125 : decode cX1_keepFor 125 = .ok (.iload_n 1, 1) := by decide +kernel
theorem dX1_keepFor_126 : decode cX1_keepFor 126 = .ok (.dup2, 1) := by decide +kernel
theorem dX1_keepFor_127 : decode cX1_keepFor 127 = .ok (.iaload, 1) := by decide +kernel
theorem dX1_keepFor_128 : decode cX1_keepFor 128 = .ok (.iconst 1, 1) := by decide +kernel
theorem dX1_keepFor_129 : decode cX1_keepFor 129 = .ok (.iadd, 1) := by decide +kernel
theorem dX1_keepFor_130 : decode cX1_keepFor 130 = .ok (.iastore, 1) := by decide +kernel
theorem dX1_keepFor_131 : decode cX1_keepFor 131 = .ok (.return_, 1) := by decide +kernel
set_option maxRecDepth 20000 in
theorem ggX1_keepLateOnes_X1_keepFor : GoodIn wsX1_keepLateOnes wsX1_keepFor := goodIn_r _ [10, 4, 1, 11, 12, 13, 14, 9, 15, 16, 17, 18, 19, 20, 21, 22, 23, 24, 25, 26, 27, 28, 29, 30, 31, 38, 39, 40, 41, 42, 43, 44, 45, 46, 47, 32, 33, 34, 35, 36, 37] (by decide +kernel) (by decide +kernel)
set_option maxRecDepth 20000 in
theorem gX1_keepLateOnes_X1_keepFor : GoodIn wsX1_keepLateOnes (wsV RX1 135 RX1 yX1_keepFor wsX1_keepFor) := goodIn_app (goodIn_of _ (by decide +kernel)) ggX1_keepLateOnes_X1_keepFor
theorem dX1_keepLateOnes_0 : decode cX1_keepLateOnes 0 = .ok (.iconst 0, 1) := by decide +kernel
theorem dX1_keepLateOnes_1 : decode cX1_keepLateOnes 1 = .ok (.istore_n 1, 1) := by decide +kernel
theorem dX1_keepLateOnes_2 : decode cX1_keepLateOnes 2 = .ok (.iconst 0, 1) := by decide +kernel
theorem dX1_keepLateOnes_3 : decode cX1_keepLateOnes 3 = .ok (.istore_n 2, 1) := by decide +kernel
theorem dX1_keepLateOnes_4 : decode cX1_keepLateOnes 4 = .ok (.iload_n 2, 1) := by decide +kernel
theorem dX1_keepLateOnes_5 : decode cX1_keepLateOnes 5 = .ok (.aload_n 0, 1) := by decide +kernel
theorem dX1_keepLateOnes_6 : decode cX1_keepLateOnes 6 = .ok (.getfield 28, 3) := by decide +kernel
theorem dX1_keepLateOnes_9 : decode cX1_keepLateOnes 9 = .ok (.getfield 202, 3) := by decide +kernel
theorem dX1_keepLateOnes_12 : decode cX1_keepLateOnes 12 = .ok (.if_icmp .ge 100, 3) := by decide +kernel
theorem dX1_keepLateOnes_15 : decode cX1_keepLateOnes 15 = .ok (.aload_n 0, 1) := by decide +kernel
theorem dX1_keepLateOnes_16 : decode cX1_keepLateOnes 16 = .ok (.getfield 40, 3) := by decide +kernel
theorem dX1_keepLateOnes_19 : decode cX1_keepLateOnes 19 = .ok (.aload_n 0, 1) := by decide +kernel
theorem dX1_keepLateOnes_20 : decode cX1_keepLateOnes 20 = .ok (.getfield 28, 3) := by decide +kernel
theorem dX1_keepLateOnes_23 : decode cX1_keepLateOnes 23 = .ok (.getfield 178, 3) := by decide +kernel
theorem dX1_keepLateOnes_26 : decode cX1_keepLateOnes 26 = .ok (.iload_n 2, 1) := by decide +kernel
theorem dX1_keepLateOnes_27 : decode cX1_keepLateOnes 27 = .ok (.iaload, 1) := by decide +kernel
theorem dX1_keepLateOnes_28 : decode cX1_keepLateOnes 28 = .ok (.isub, 1) := by decide +kernel
theorem dX1_keepLateOnes_29 : decode cX1_keepLateOnes 29 = .ok (.aload_n 0, 1) := by decide +kernel
theorem dX1_keepLateOnes_30 : decode cX1_keepLateOnes 30 = .ok (.getfield 43, 3) := by decide +kernel
theorem dX1_keepLateOnes_33 : decode cX1_keepLateOnes 33 = .ok (.if_icmp .gt 6, 3) := by decide +kernel
theorem dX1_keepLateOnes_36 : decode cX1_keepLateOnes 36 = .ok (.goto 70, 3) := by decide +kernel
theorem dX1_keepLateOnes_39 : decode cX1_keepLateOnes 39 = .ok (.iconst 0, 1) := by decide +kernel
theorem dX1_keepLateOnes_40 : decode cX1_keepLateOnes 40 = .ok (.istore_n 3, 1) := by decide +kernel
theorem dX1_keepLateOnes_41 : decode cX1_keepLateOnes 41 = .ok (.iload_n 3, 1) := by decide +kernel
theorem dX1_keepLateOnes_42 : decode cX1_keepLateOnes 42 = .ok (.aload_n 0, 1) := by decide +kernel
theorem dX1_keepLateOnes_43 : decode cX1_keepLateOnes 43 = .ok (.getfield 21, 3) := by decide +kernel
theorem dX1_keepLateOnes_46 : decode cX1_keepLateOnes 46 = .ok (.getfield 98, 3) := by decide +kernel
theorem dX1_keepLateOnes_49 : decode cX1_keepLateOnes 49 = .ok (.if_icmp .ge 57, 3) := by decide +kernel
theorem dX1_keepLateOnes_52 : decode cX1_keepLateOnes 52 = .ok (.aload_n 0, 1) := by decide +kernel
theorem dX1_keepLateOnes_53 : decode cX1_keepLateOnes 53 = .ok (.getfield 21, 3) := by decide +kernel
theorem dX1_keepLateOnes_56 : decode cX1_keepLateOnes 56 = .ok (.getfield 108, 3) := by decide +kernel
theorem dX1_keepLateOnes_59 : decode cX1_keepLateOnes 59 = .ok (.iload_n 3, 1) := by decide +kernel
theorem dX1_keepLateOnes_60 : decode cX1_keepLateOnes 60 = .ok (.iaload, 1) := by decide +kernel
theorem dX1_keepLateOnes_61 : decode cX1_keepLateOnes 61 = .ok (.iload_n 2, 1) := by decide +kernel
theorem dX1_keepLateOnes_62 : decode cX1_keepLateOnes 62 = .ok (.if_icmp .ne 38, 3) := by decide +kernel
theorem dX1_keepLateOnes_65 : decode cX1_keepLateOnes 65 = .ok (.aload_n 0, 1) := by decide +kernel
theorem dX1_keepLateOnes_66 : decode cX1_keepLateOnes 66 = .ok (.iload_n 3, 1) := by decide +kernel
theorem dX1_keepLateOnes_67 : decode cX1_keepLateOnes 67 = .ok (.aload_n 0, 1) := by decide +kernel
theorem dX1_keepLateOnes_68 : decode cX1_keepLateOnes 68 = .ok (.getfield 21, 3) := by decide +kernel
theorem dX1_keepLateOnes_71 : decode cX1_keepLateOnes 71 = .ok (.getfield 110, 3) := by decide +kernel
theorem dX1_keepLateOnes_74 : decode cX1_keepLateOnes 74 = .ok (.iload_n 3, 1) := by decide +kernel
end
section
theorem dX1_keepLateOnes_75 : decode cX1_keepLateOnes 75 = .ok (.iaload, 1) := by decide +kernel
theorem dX1_keepLateOnes_76 : decode cX1_keepLateOnes 76 = .ok (.aload_n 0, 1) := by decide +kernel
theorem dX1_keepLateOnes_77 : decode cX1_keepLateOnes 77 = .ok (.getfield 21, 3) := by decide +kernel
theorem dX1_keepLateOnes_80 : decode cX1_keepLateOnes 80 = .ok (.getfield 110, 3) := by decide +kernel
theorem dX1_keepLateOnes_83 : decode cX1_keepLateOnes 83 = .ok (.iload_n 3, 1) := by decide +kernel
theorem dX1_keepLateOnes_84 : decode cX1_keepLateOnes 84 = .ok (.iaload, 1) := by decide +kernel
theorem dX1_keepLateOnes_85 : decode cX1_keepLateOnes 85 = .ok (.aload_n 0, 1) := by decide +kernel
theorem dX1_keepLateOnes_86 : decode cX1_keepLateOnes 86 = .ok (.getfield 46, 3) := by decide +kernel
theorem dX1_keepLateOnes_89 : decode cX1_keepLateOnes 89 = .ok (.imul, 1) := by decide +kernel
theorem dX1_keepLateOnes_90 : decode cX1_keepLateOnes 90 = .ok (.bipush 100, 2) := by decide +kernel
theorem dX1_keepLateOnes_92 : decode cX1_keepLateOnes 92 = .ok (.idiv, 1) := by decide +kernel
theorem dX1_keepLateOnes_93 : decode cX1_keepLateOnes 93 = .ok (.iadd, 1) := by decide +kernel
theorem dX1_keepLateOnes_94 : decode cX1_keepLateOnes 94 = .ok (.invokevirtual 135, 3) := by decide +kernel
theorem dX1_keepLateOnes_97 : decode cX1_keepLateOnes 97 = .ok (.iinc 1 1, 3) := by decide +kernel
theorem dX1_keepLateOnes_100 : decode cX1_keepLateOnes 100 = .ok (.iinc 3 1, 3) := by decide +kernel
theorem dX1_keepLateOnes_103 : decode cX1_keepLateOnes 103 = .ok (.goto (-62), 3) := by decide +kernel
theorem dX1_keepLateOnes_106 : decode cX1_keepLateOnes 106 = .ok (.iinc 2 1, 3) := by decide +kernel
theorem dX1_keepLateOnes_109 : decode cX1_keepLateOnes 109 = .ok (.goto (-105), 3) := by decide +kernel
theorem dX1_keepLateOnes_112 : decode cX1_keepLateOnes 112 = .ok (.iload_n 1, 1) := by decide +kernel
theorem dX1_keepLateOnes_113 : decode cX1_keepLateOnes 113 = .ok (.ireturn, 1) := by decide +kernel
set_option maxRecDepth 20000 in
theorem ggX1_worthOf_X1_priceOf : GoodIn wsX1_worthOf wsX1_priceOf := goodIn_r _ [6, 7, 1, 8, 9, 10, 11, 12, 13, 14, 15, 16, 17, 18, 19, 20, 21, 22, 23, 24, 25, 26, 27, 28, 29, 30, 31, 32, 33, 34, 35, 36, 37, 38, 39, 40, 41, 42, 43, 44, 45] (by decide +kernel) (by decide +kernel)
set_option maxRecDepth 20000 in
theorem gX1_worthOf_X1_priceOf : GoodIn wsX1_worthOf (wsV RX1 113 RX1 yX1_priceOf wsX1_priceOf) := goodIn_app (goodIn_of _ (by decide +kernel)) ggX1_worthOf_X1_priceOf
theorem dX1_worthOf_0 : decode cX1_worthOf 0 = .ok (.iconst 0, 1) := by decide +kernel
theorem dX1_worthOf_1 : decode cX1_worthOf 1 = .ok (.istore_n 2, 1) := by decide +kernel
theorem dX1_worthOf_2 : decode cX1_worthOf 2 = .ok (.iconst 0, 1) := by decide +kernel
theorem dX1_worthOf_3 : decode cX1_worthOf 3 = .ok (.istore_n 3, 1) := by decide +kernel
theorem dX1_worthOf_4 : decode cX1_worthOf 4 = .ok (.iload_n 3, 1) := by decide +kernel
theorem dX1_worthOf_5 : decode cX1_worthOf 5 = .ok (.aload_n 0, 1) := by decide +kernel
theorem dX1_worthOf_6 : decode cX1_worthOf 6 = .ok (.getfield 21, 3) := by decide +kernel
theorem dX1_worthOf_9 : decode cX1_worthOf 9 = .ok (.getfield 98, 3) := by decide +kernel
theorem dX1_worthOf_12 : decode cX1_worthOf 12 = .ok (.if_icmp .ge 40, 3) := by decide +kernel
theorem dX1_worthOf_15 : decode cX1_worthOf 15 = .ok (.aload_n 0, 1) := by decide +kernel
theorem dX1_worthOf_16 : decode cX1_worthOf 16 = .ok (.iload_n 3, 1) := by decide +kernel
theorem dX1_worthOf_17 : decode cX1_worthOf 17 = .ok (.invokevirtual 113, 3) := by decide +kernel
theorem dX1_worthOf_20 : decode cX1_worthOf 20 = .ok (.istore 4, 2) := by decide +kernel
theorem dX1_worthOf_22 : decode cX1_worthOf 22 = .ok (.aload_n 0, 1) := by decide +kernel
theorem dX1_worthOf_23 : decode cX1_worthOf 23 = .ok (.getfield 21, 3) := by decide +kernel
theorem dX1_worthOf_26 : decode cX1_worthOf 26 = .ok (.getfield 123, 3) := by decide +kernel
theorem dX1_worthOf_29 : decode cX1_worthOf 29 = .ok (.iload_n 3, 1) := by decide +kernel
theorem dX1_worthOf_30 : decode cX1_worthOf 30 = .ok (.iaload, 1) := by decide +kernel
theorem dX1_worthOf_31 : decode cX1_worthOf 31 = .ok (.iload_n 1, 1) := by decide +kernel
theorem dX1_worthOf_32 : decode cX1_worthOf 32 = .ok (.if_icmp .ne 14, 3) := by decide +kernel
theorem dX1_worthOf_35 : decode cX1_worthOf 35 = .ok (.iload 4, 2) := by decide +kernel
theorem dX1_worthOf_37 : decode cX1_worthOf 37 = .ok (.iconst (-1), 1) := by decide +kernel
theorem dX1_worthOf_38 : decode cX1_worthOf 38 = .ok (.if_icmp .eq 8, 3) := by decide +kernel
theorem dX1_worthOf_41 : decode cX1_worthOf 41 = .ok (.iload_n 2, 1) := by decide +kernel
theorem dX1_worthOf_42 : decode cX1_worthOf 42 = .ok (.iload 4, 2) := by decide +kernel
theorem dX1_worthOf_44 : decode cX1_worthOf 44 = .ok (.iadd, 1) := by decide +kernel
theorem dX1_worthOf_45 : decode cX1_worthOf 45 = .ok (.istore_n 2, 1) := by decide +kernel
theorem dX1_worthOf_46 : decode cX1_worthOf 46 = .ok (.iinc 3 1, 3) := by decide +kernel
theorem dX1_worthOf_49 : decode cX1_worthOf 49 = .ok (.goto (-45), 3) := by decide +kernel
theorem dX1_worthOf_52 : decode cX1_worthOf 52 = .ok (.iload_n 2, 1) := by decide +kernel
theorem dX1_worthOf_53 : decode cX1_worthOf 53 = .ok (.ireturn, 1) := by decide +kernel
set_option maxRecDepth 20000 in
theorem ggX1_isOpen_X5_setWhere : GoodIn wsX1_isOpen wsX5_setWhere := goodIn_r _ [6, 7, 17, 18, 19, 20, 21, 22, 23, 24, 25, 26] (by decide +kernel) (by decide +kernel)
set_option maxRecDepth 20000 in
theorem gX1_isOpen_X5_setWhere : GoodIn wsX1_isOpen (wsV RX1 126 RX5 yX5_setWhere wsX5_setWhere) := goodIn_app (goodIn_of _ (by decide +kernel)) ggX1_isOpen_X5_setWhere
theorem dX1_isOpen_0 : decode cX1_isOpen 0 = .ok (.aload_n 0, 1) := by decide +kernel
theorem dX1_isOpen_1 : decode cX1_isOpen 1 = .ok (.getfield 21, 3) := by decide +kernel
theorem dX1_isOpen_4 : decode cX1_isOpen 4 = .ok (.aload_n 0, 1) := by decide +kernel
theorem dX1_isOpen_5 : decode cX1_isOpen 5 = .ok (.getfield 21, 3) := by decide +kernel
theorem dX1_isOpen_8 : decode cX1_isOpen 8 = .ok (.getfield 108, 3) := by decide +kernel
theorem dX1_isOpen_11 : decode cX1_isOpen 11 = .ok (.iload_n 1, 1) := by decide +kernel
theorem dX1_isOpen_12 : decode cX1_isOpen 12 = .ok (.invokevirtual 126, 3) := by decide +kernel
theorem dX1_isOpen_15 : decode cX1_isOpen 15 = .ok (.ifCond .eq 7, 3) := by decide +kernel
theorem dX1_isOpen_18 : decode cX1_isOpen 18 = .ok (.iconst 1, 1) := by decide +kernel
theorem dX1_isOpen_19 : decode cX1_isOpen 19 = .ok (.goto 4, 3) := by decide +kernel
theorem dX1_isOpen_22 : decode cX1_isOpen 22 = .ok (.iconst 0, 1) := by decide +kernel
theorem dX1_isOpen_23 : decode cX1_isOpen 23 = .ok (.ireturn, 1) := by decide +kernel
set_option maxRecDepth 20000 in
theorem ggX1_countOpen_X1_isOpen : GoodIn wsX1_countOpen wsX1_isOpen := goodIn_r _ [6, 7, 8, 9, 10, 11, 12, 13, 14, 15, 16, 17, 18, 19, 20, 21, 22, 29, 30, 31, 32, 33, 34, 35, 36, 37, 38] (by decide +kernel) (by decide +kernel)
set_option maxRecDepth 20000 in
theorem gX1_countOpen_X1_isOpen : GoodIn wsX1_countOpen (wsV RX1 187 RX1 yX1_isOpen wsX1_isOpen) := goodIn_app (goodIn_of _ (by decide +kernel)) ggX1_countOpen_X1_isOpen
theorem dX1_countOpen_0 : decode cX1_countOpen 0 = .ok (.iconst 0, 1) := by decide +kernel
theorem dX1_countOpen_1 : decode cX1_countOpen 1 = .ok (.istore_n 1, 1) := by decide +kernel
theorem dX1_countOpen_2 : decode cX1_countOpen 2 = .ok (.iconst 0, 1) := by decide +kernel
theorem dX1_countOpen_3 : decode cX1_countOpen 3 = .ok (.istore_n 2, 1) := by decide +kernel
theorem dX1_countOpen_4 : decode cX1_countOpen 4 = .ok (.iload_n 2, 1) := by decide +kernel
theorem dX1_countOpen_5 : decode cX1_countOpen 5 = .ok (.aload_n 0, 1) := by decide +kernel
theorem dX1_countOpen_6 : decode cX1_countOpen 6 = .ok (.getfield 28, 3) := by decide +kernel
theorem dX1_countOpen_9 : decode cX1_countOpen 9 = .ok (.getfield 202, 3) := by decide +kernel
theorem dX1_countOpen_12 : decode cX1_countOpen 12 = .ok (.if_icmp .ge 20, 3) := by decide +kernel
theorem dX1_countOpen_15 : decode cX1_countOpen 15 = .ok (.aload_n 0, 1) := by decide +kernel
theorem dX1_countOpen_16 : decode cX1_countOpen 16 = .ok (.iload_n 2, 1) := by decide +kernel
theorem dX1_countOpen_17 : decode cX1_countOpen 17 = .ok (.invokevirtual 187, 3) := by decide +kernel
theorem dX1_countOpen_20 : decode cX1_countOpen 20 = .ok (.ifCond .eq 6, 3) := by decide +kernel
theorem dX1_countOpen_23 : decode cX1_countOpen 23 = .ok (.iinc 1 1, 3) := by decide +kernel
theorem dX1_countOpen_26 : decode cX1_countOpen 26 = .ok (.iinc 2 1, 3) := by decide +kernel
theorem dX1_countOpen_29 : decode cX1_countOpen 29 = .ok (.goto (-25), 3) := by decide +kernel
theorem dX1_countOpen_32 : decode cX1_countOpen 32 = .ok (.iload_n 1, 1) := by decide +kernel
theorem dX1_countOpen_33 : decode cX1_countOpen 33 = .ok (.ireturn, 1) := by decide +kernel
theorem dX1_sumOfBalances_0 : decode cX1_sumOfBalances 0 = .ok (.iconst 0, 1) := by decide +kernel
theorem dX1_sumOfBalances_1 : decode cX1_sumOfBalances 1 = .ok (.istore_n 1, 1) := by decide +kernel
theorem dX1_sumOfBalances_2 : decode cX1_sumOfBalances 2 = .ok (.iconst 0, 1) := by decide +kernel
theorem dX1_sumOfBalances_3 : decode cX1_sumOfBalances 3 = .ok (.istore_n 2, 1) := by decide +kernel
theorem dX1_sumOfBalances_4 : decode cX1_sumOfBalances 4 = .ok (.iload_n 2, 1) := by decide +kernel
theorem dX1_sumOfBalances_5 : decode cX1_sumOfBalances 5 = .ok (.aload_n 0, 1) := by decide +kernel
theorem dX1_sumOfBalances_6 : decode cX1_sumOfBalances 6 = .ok (.getfield 36, 3) := by decide +kernel
theorem dX1_sumOfBalances_9 : decode cX1_sumOfBalances 9 = .ok (.if_icmp .ge 18, 3) := by decide +kernel
theorem dX1_sumOfBalances_12 : decode cX1_sumOfBalances 12 = .ok (.iload_n 1, 1) := by decide +kernel
theorem dX1_sumOfBalances_13 : decode cX1_sumOfBalances 13 = .ok (.aload_n 0, 1) := by decide +kernel
theorem dX1_sumOfBalances_14 : decode cX1_sumOfBalances 14 = .ok (.getfield 32, 3) := by decide +kernel
theorem dX1_sumOfBalances_17 : decode cX1_sumOfBalances 17 = .ok (.iload_n 2, 1) := by decide +kernel
theorem dX1_sumOfBalances_18 : decode cX1_sumOfBalances 18 = .ok (.iaload, 1) := by decide +kernel
theorem dX1_sumOfBalances_19 : decode cX1_sumOfBalances 19 = .ok (.iadd, 1) := by decide +kernel
theorem dX1_sumOfBalances_20 : decode cX1_sumOfBalances 20 = .ok (.istore_n 1, 1) := by decide +kernel
theorem dX1_sumOfBalances_21 : decode cX1_sumOfBalances 21 = .ok (.iinc 2 1, 3) := by decide +kernel
theorem dX1_sumOfBalances_24 : decode cX1_sumOfBalances 24 = .ok (.goto (-20), 3) := by decide +kernel
theorem dX1_sumOfBalances_27 : decode cX1_sumOfBalances 27 = .ok (.iload_n 1, 1) := by decide +kernel
theorem dX1_sumOfBalances_28 : decode cX1_sumOfBalances 28 = .ok (.ireturn, 1) := by decide +kernel
theorem dX2_init_0 : decode cX2_init 0 = .ok (.aload_n 0, 1) := by decide +kernel
theorem dX2_init_1 : decode cX2_init 1 = .ok (.invokespecial 3, 3) := by decide +kernel
theorem dX2_init_4 : decode cX2_init 4 = .ok (.aload_n 0, 1) := by decide +kernel
theorem dX2_init_5 : decode cX2_init 5 = .ok (.iconst 0, 1) := by decide +kernel
theorem dX2_init_6 : decode cX2_init 6 = .ok (.putfield 9, 3) := by decide +kernel
theorem dX2_init_9 : decode cX2_init 9 = .ok (.aload_n 0, 1) := by decide +kernel
theorem dX2_init_10 : decode cX2_init 10 = .ok (.bipush 10, 2) := by decide +kernel
theorem dX2_init_12 : decode cX2_init 12 = .ok (.newarray .int, 2) := by decide +kernel
theorem dX2_init_14 : decode cX2_init 14 = .ok (.putfield 15, 3) := by decide +kernel
theorem dX2_init_17 : decode cX2_init 17 = .ok (.aload_n 0, 1) := by decide +kernel
theorem dX2_init_18 : decode cX2_init 18 = .ok (.bipush 10, 2) := by decide +kernel
theorem dX2_init_20 : decode cX2_init 20 = .ok (.newarray .int, 2) := by decide +kernel
theorem dX2_init_22 : decode cX2_init 22 = .ok (.putfield 19, 3) := by decide +kernel
theorem dX2_init_25 : decode cX2_init 25 = .ok (.aload_n 0, 1) := by decide +kernel
theorem dX2_init_26 : decode cX2_init 26 = .ok (.bipush 10, 2) := by decide +kernel
theorem dX2_init_28 : decode cX2_init 28 = .ok (.newarray .int, 2) := by decide +kernel
theorem dX2_init_30 : decode cX2_init 30 = .ok (.putfield 22, 3) := by decide +kernel
theorem dX2_init_33 : decode cX2_init 33 = .ok (.aload_n 0, 1) := by decide +kernel
theorem dX2_init_34 : decode cX2_init 34 = .ok (.bipush 10, 2) := by decide +kernel
theorem dX2_init_36 : decode cX2_init 36 = .ok (.newarray .int, 2) := by decide +kernel
theorem dX2_init_38 : decode cX2_init 38 = .ok (.putfield 25, 3) := by decide +kernel
theorem dX2_init_41 : decode cX2_init 41 = .ok (.aload_n 0, 1) := by decide +kernel
theorem dX2_init_42 : decode cX2_init 42 = .ok (.bipush 10, 2) := by decide +kernel
theorem dX2_init_44 : decode cX2_init 44 = .ok (.newarray .int, 2) := by decide +kernel
theorem dX2_init_46 : decode cX2_init 46 = .ok (.putfield 28, 3) := by decide +kernel
theorem dX2_init_49 : decode cX2_init 49 = .ok (.return_, 1) := by decide +kernel
theorem dX2_has_0 : decode cX2_has 0 = .ok (.iload_n 1, 1) := by decide +kernel
theorem dX2_has_1 : decode cX2_has 1 = .ok (.ifCond .lt 21, 3) := by decide +kernel
theorem dX2_has_4 : decode cX2_has 4 = .ok (.iload_n 1, 1) := by decide +kernel
theorem dX2_has_5 : decode cX2_has 5 = .ok (.aload_n 0, 1) := by decide +kernel
theorem dX2_has_6 : decode cX2_has 6 = .ok (.getfield 9, 3) := by decide +kernel
theorem dX2_has_9 : decode cX2_has 9 = .ok (.if_icmp .ge 13, 3) := by decide +kernel
theorem dX2_has_12 : decode cX2_has 12 = .ok (.iload_n 1, 1) := by decide +kernel
theorem dX2_has_13 : decode cX2_has 13 = .ok (.bipush 10, 2) := by decide +kernel
theorem dX2_has_15 : decode cX2_has 15 = .ok (.if_icmp .ge 7, 3) := by decide +kernel
theorem dX2_has_18 : decode cX2_has 18 = .ok (.iconst 1, 1) := by decide +kernel
theorem dX2_has_19 : decode cX2_has 19 = .ok (.goto 4, 3) := by decide +kernel
theorem dX2_has_22 : decode cX2_has 22 = .ok (.iconst 0, 1) := by decide +kernel
theorem dX2_has_23 : decode cX2_has 23 = .ok (.ireturn, 1) := by decide +kernel
theorem dX2_add_0 : decode cX2_add 0 = .ok (.aload_n 0, 1) := by decide +kernel
theorem dX2_add_1 : decode cX2_add 1 = .ok (.getfield 9, 3) := by decide +kernel
theorem dX2_add_4 : decode cX2_add 4 = .ok (.ifCond .lt 12, 3) := by decide +kernel
theorem dX2_add_7 : decode cX2_add 7 = .ok (.aload_n 0, 1) := by decide +kernel
theorem dX2_add_8 : decode cX2_add 8 = .ok (.getfield 9, 3) := by decide +kernel
theorem dX2_add_11 : decode cX2_add 11 = .ok (.bipush 10, 2) := by decide +kernel
theorem dX2_add_13 : decode cX2_add 13 = .ok (.if_icmp .lt 5, 3) := by decide +kernel
theorem dX2_add_16 : decode cX2_add 16 = .ok (.iconst (-1), 1) := by decide +kernel
theorem dX2_add_17 : decode cX2_add 17 = .ok (.ireturn, 1) := by decide +kernel
theorem dX2_add_18 : decode cX2_add 18 = .ok (.aload_n 0, 1) := by decide +kernel
theorem dX2_add_19 : decode cX2_add 19 = .ok (.getfield 9, 3) := by decide +kernel
theorem dX2_add_22 : decode cX2_add 22 = .ok (.istore 5, 2) := by decide +kernel
theorem dX2_add_24 : decode cX2_add 24 = .ok (.aload_n 0, 1) := by decide +kernel
theorem dX2_add_25 : decode cX2_add 25 = .ok (.getfield 15, 3) := by decide +kernel
theorem dX2_add_28 : decode cX2_add 28 = .ok (.iload 5, 2) := by decide +kernel
theorem dX2_add_30 : decode cX2_add 30 = .ok (.iload_n 1, 1) := by decide +kernel
theorem dX2_add_31 : decode cX2_add 31 = .ok (.iastore, 1) := by decide +kernel
theorem dX2_add_32 : decode cX2_add 32 = .ok (.aload_n 0, 1) := by decide +kernel
theorem dX2_add_33 : decode cX2_add 33 = .ok (.getfield 19, 3) := by decide +kernel
theorem dX2_add_36 : decode cX2_add 36 = .ok (.iload 5, 2) := by decide +kernel
theorem dX2_add_38 : decode cX2_add 38 = .ok (.iload_n 2, 1) := by decide +kernel
theorem dX2_add_39 : decode cX2_add 39 = .ok (.iastore, 1) := by decide +kernel
theorem dX2_add_40 : decode cX2_add 40 = .ok (.aload_n 0, 1) := by decide +kernel
theorem dX2_add_41 : decode cX2_add 41 = .ok (.getfield 22, 3) := by decide +kernel
theorem dX2_add_44 : decode cX2_add 44 = .ok (.iload 5, 2) := by decide +kernel
theorem dX2_add_46 : decode cX2_add 46 = .ok (.iload_n 3, 1) := by decide +kernel
theorem dX2_add_47 : decode cX2_add 47 = .ok (.iastore, 1) := by decide +kernel
theorem dX2_add_48 : decode cX2_add 48 = .ok (.aload_n 0, 1) := by decide +kernel
theorem dX2_add_49 : decode cX2_add 49 = .ok (.getfield 25, 3) := by decide +kernel
theorem dX2_add_52 : decode cX2_add 52 = .ok (.iload 5, 2) := by decide +kernel
theorem dX2_add_54 : decode cX2_add 54 = .ok (.iload 4, 2) := by decide +kernel
theorem dX2_add_56 : decode cX2_add 56 = .ok (.iastore, 1) := by decide +kernel
theorem dX2_add_57 : decode cX2_add 57 = .ok (.aload_n 0, 1) := by decide +kernel
theorem dX2_add_58 : decode cX2_add 58 = .ok (.getfield 28, 3) := by decide +kernel
theorem dX2_add_61 : decode cX2_add 61 = .ok (.iload 5, 2) := by decide +kernel
theorem dX2_add_63 : decode cX2_add 63 = .ok (.iconst 0, 1) := by decide +kernel
theorem dX2_add_64 : decode cX2_add 64 = .ok (.iastore, 1) := by decide +kernel
theorem dX2_add_65 : decode cX2_add 65 = .ok (.aload_n 0, 1) := by decide +kernel
theorem dX2_add_66 : decode cX2_add 66 = .ok (.dup, 1) := by decide +kernel
theorem dX2_add_67 : decode cX2_add 67 = .ok (.getfield 9, 3) := by decide +kernel
theorem dX2_add_70 : decode cX2_add 70 = .ok (.iconst 1, 1) := by decide +kernel
theorem dX2_add_71 : decode cX2_add 71 = .ok (.iadd, 1) := by decide +kernel
theorem dX2_add_72 : decode cX2_add 72 = .ok (.putfield 9, 3) := by decide +kernel
theorem dX2_add_75 : decode cX2_add 75 = .ok (.iload 5, 2) := by decide +kernel
theorem dX2_add_77 : decode cX2_add 77 = .ok (.ireturn, 1) := by decide +kernel
theorem dX2_copyFrom_0 : decode cX2_copyFrom 0 = .ok (.aload_n 0, 1) := by decide +kernel
theorem dX2_copyFrom_1 : decode cX2_copyFrom 1 = .ok (.aload_n 1, 1) := by decide +kernel
theorem dX2_copyFrom_2 : decode cX2_copyFrom 2 = .ok (.getfield 9, 3) := by decide +kernel
theorem dX2_copyFrom_5 : decode cX2_copyFrom 5 = .ok (.putfield 9, 3) := by decide +kernel
theorem dX2_copyFrom_8 : decode cX2_copyFrom 8 = .ok (.aload_n 1, 1) := by decide +kernel
theorem dX2_copyFrom_9 : decode cX2_copyFrom 9 = .ok (.getfield 15, 3) := by decide +kernel
theorem dX2_copyFrom_12 : decode cX2_copyFrom 12 = .ok (.iconst 0, 1) := by decide +kernel
theorem dX2_copyFrom_13 : decode cX2_copyFrom 13 = .ok (.aload_n 0, 1) := by decide +kernel
theorem dX2_copyFrom_14 : decode cX2_copyFrom 14 = .ok (.getfield 15, 3) := by decide +kernel
theorem dX2_copyFrom_17 : decode cX2_copyFrom 17 = .ok (.iconst 0, 1) := by decide +kernel
theorem dX2_copyFrom_18 : decode cX2_copyFrom 18 = .ok (.bipush 10, 2) := by decide +kernel
theorem dX2_copyFrom_20 : decode cX2_copyFrom 20 = .ok (.invokestatic 31, 3) := by decide +kernel
theorem dX2_copyFrom_23 : decode cX2_copyFrom 23 = .ok (.aload_n 1, 1) := by decide +kernel
theorem dX2_copyFrom_24 : decode cX2_copyFrom 24 = .ok (.getfield 19, 3) := by decide +kernel
theorem dX2_copyFrom_27 : decode cX2_copyFrom 27 = .ok (.iconst 0, 1) := by decide +kernel
theorem dX2_copyFrom_28 : decode cX2_copyFrom 28 = .ok (.aload_n 0, 1) := by decide +kernel
theorem dX2_copyFrom_29 : decode cX2_copyFrom 29 = .ok (.getfield 19, 3) := by decide +kernel
theorem dX2_copyFrom_32 : decode cX2_copyFrom 32 = .ok (.iconst 0, 1) := by decide +kernel
theorem dX2_copyFrom_33 : decode cX2_copyFrom 33 = .ok (.bipush 10, 2) := by decide +kernel
theorem dX2_copyFrom_35 : decode cX2_copyFrom 35 = .ok (.invokestatic 31, 3) := by decide +kernel
theorem dX2_copyFrom_38 : decode cX2_copyFrom 38 = .ok (.aload_n 1, 1) := by decide +kernel
theorem dX2_copyFrom_39 : decode cX2_copyFrom 39 = .ok (.getfield 22, 3) := by decide +kernel
theorem dX2_copyFrom_42 : decode cX2_copyFrom 42 = .ok (.iconst 0, 1) := by decide +kernel
theorem dX2_copyFrom_43 : decode cX2_copyFrom 43 = .ok (.aload_n 0, 1) := by decide +kernel
theorem dX2_copyFrom_44 : decode cX2_copyFrom 44 = .ok (.getfield 22, 3) := by decide +kernel
theorem dX2_copyFrom_47 : decode cX2_copyFrom 47 = .ok (.iconst 0, 1) := by decide +kernel
theorem dX2_copyFrom_48 : decode cX2_copyFrom 48 = .ok (.bipush 10, 2) := by decide +kernel
theorem dX2_copyFrom_50 : decode cX2_copyFrom 50 = .ok (.invokestatic 31, 3) := by decide +kernel
theorem dX2_copyFrom_53 : decode cX2_copyFrom 53 = .ok (.aload_n 1, 1) := by decide +kernel
theorem dX2_copyFrom_54 : decode cX2_copyFrom 54 = .ok (.getfield 25, 3) := by decide +kernel
theorem dX2_copyFrom_57 : decode cX2_copyFrom 57 = .ok (.iconst 0, 1) := by decide +kernel
theorem dX2_copyFrom_58 : decode cX2_copyFrom 58 = .ok (.aload_n 0, 1) := by decide +kernel
theorem dX2_copyFrom_59 : decode cX2_copyFrom 59 = .ok (.getfield 25, 3) := by decide +kernel
theorem dX2_copyFrom_62 : decode cX2_copyFrom 62 = .ok (.iconst 0, 1) := by decide +kernel
theorem dX2_copyFrom_63 : decode cX2_copyFrom 63 = .ok (.bipush 10, 2) := by decide +kernel
theorem dX2_copyFrom_65 : decode cX2_copyFrom 65 = .ok (.invokestatic 31, 3) := by decide +kernel
theorem dX2_copyFrom_68 : decode cX2_copyFrom 68 = .ok (.aload_n 1, 1) := by decide +kernel
theorem dX2_copyFrom_69 : decode cX2_copyFrom 69 = .ok (.getfield 28, 3) := by decide +kernel
theorem dX2_copyFrom_72 : decode cX2_copyFrom 72 = .ok (.iconst 0, 1) := by decide +kernel
theorem dX2_copyFrom_73 : decode cX2_copyFrom 73 = .ok (.aload_n 0, 1) := by decide +kernel
theorem dX2_copyFrom_74 : decode cX2_copyFrom 74 = .ok (.getfield 28, 3) := by decide +kernel
theorem dX2_copyFrom_77 : decode cX2_copyFrom 77 = .ok (.iconst 0, 1) := by decide +kernel
theorem dX2_copyFrom_78 : decode cX2_copyFrom 78 = .ok (.bipush 10, 2) := by decide +kernel
theorem dX2_copyFrom_80 : decode cX2_copyFrom 80 = .ok (.invokestatic 31, 3) := by decide +kernel
theorem dX2_copyFrom_83 : decode cX2_copyFrom 83 = .ok (.return_, 1) := by decide +kernel
theorem dX3_init_0 : decode cX3_init 0 = .ok (.aload_n 0, 1) := by decide +kernel
theorem dX3_init_1 : decode cX3_init 1 = .ok (.invokespecial 1, 3) := by decide +kernel
theorem dX3_init_4 : decode cX3_init 4 = .ok (.aload_n 0, 1) := by decide +kernel
theorem dX3_init_5 : decode cX3_init 5 = .ok (.bipush 24, 2) := by decide +kernel
theorem dX3_init_7 : decode cX3_init 7 = .ok (.newarray .int, 2) := by decide +kernel
theorem dX3_init_9 : decode cX3_init 9 = .ok (.putfield 9, 3) := by decide +kernel
theorem dX3_init_12 : decode cX3_init 12 = .ok (.aload_n 0, 1) := by decide +kernel
theorem dX3_init_13 : decode cX3_init 13 = .ok (.bipush 24, 2) := by decide +kernel
theorem dX3_init_15 : decode cX3_init 15 = .ok (.newarray .int, 2) := by decide +kernel
theorem dX3_init_17 : decode cX3_init 17 = .ok (.putfield 13, 3) := by decide +kernel
theorem dX3_init_20 : decode cX3_init 20 = .ok (.aload_n 0, 1) := by decide +kernel
theorem dX3_init_21 : decode cX3_init 21 = .ok (.bipush 24, 2) := by decide +kernel
theorem dX3_init_23 : decode cX3_init 23 = .ok (.newarray .int, 2) := by decide +kernel
theorem dX3_init_25 : decode cX3_init 25 = .ok (.putfield 16, 3) := by decide +kernel
theorem dX3_init_28 : decode cX3_init 28 = .ok (.aload_n 0, 1) := by decide +kernel
theorem dX3_init_29 : decode cX3_init 29 = .ok (.bipush 24, 2) := by decide +kernel
theorem dX3_init_31 : decode cX3_init 31 = .ok (.newarray .int, 2) := by decide +kernel
theorem dX3_init_33 : decode cX3_init 33 = .ok (.putfield 19, 3) := by decide +kernel
theorem dX3_init_36 : decode cX3_init 36 = .ok (.return_, 1) := by decide +kernel
theorem dX3_entries_0 : decode cX3_entries 0 = .ok (.iconst 0, 1) := by decide +kernel
theorem dX3_entries_1 : decode cX3_entries 1 = .ok (.istore_n 1, 1) := by decide +kernel
theorem dX3_entries_2 : decode cX3_entries 2 = .ok (.iconst 0, 1) := by decide +kernel
theorem dX3_entries_3 : decode cX3_entries 3 = .ok (.istore_n 2, 1) := by decide +kernel
theorem dX3_entries_4 : decode cX3_entries 4 = .ok (.iload_n 2, 1) := by decide +kernel
theorem dX3_entries_5 : decode cX3_entries 5 = .ok (.bipush 24, 2) := by decide +kernel
theorem dX3_entries_7 : decode cX3_entries 7 = .ok (.if_icmp .ge 21, 3) := by decide +kernel
theorem dX3_entries_10 : decode cX3_entries 10 = .ok (.aload_n 0, 1) := by decide +kernel
theorem dX3_entries_11 : decode cX3_entries 11 = .ok (.getfield 19, 3) := by decide +kernel
theorem dX3_entries_14 : decode cX3_entries 14 = .ok (.iload_n 2, 1) := by decide +kernel
theorem dX3_entries_15 : decode cX3_entries 15 = .ok (.iaload, 1) := by decide +kernel
theorem dX3_entries_16 : decode cX3_entries 16 = .ok (.ifCond .eq 6, 3) := by decide +kernel
theorem dX3_entries_19 : decode cX3_entries 19 = .ok (.iinc 1 1, 3) := by decide +kernel
theorem dX3_entries_22 : decode cX3_entries 22 = .ok (.iinc 2 1, 3) := by decide +kernel
theorem dX3_entries_25 : decode cX3_entries 25 = .ok (.goto (-21), 3) := by decide +kernel
theorem dX3_entries_28 : decode cX3_entries 28 = .ok (.iload_n 1, 1) := by decide +kernel
theorem dX3_entries_29 : decode cX3_entries 29 = .ok (.ireturn, 1) := by decide +kernel
set_option maxRecDepth 20000 in
theorem ggX3_ownRate_X3_isEntryOf : GoodIn wsX3_ownRate wsX3_isEntryOf := goodIn_r _ [6, 1, 7, 8, 9, 10, 11, 12, 13] (by decide +kernel) (by decide +kernel)
set_option maxRecDepth 20000 in
theorem gX3_ownRate_X3_isEntryOf : GoodIn wsX3_ownRate (wsV RX3 22 RX3 yX3_isEntryOf wsX3_isEntryOf) := goodIn_app (goodIn_of _ (by decide +kernel)) ggX3_ownRate_X3_isEntryOf
theorem dX3_ownRate_0 : decode cX3_ownRate 0 = .ok (.iconst 0, 1) := by decide +kernel
theorem dX3_ownRate_1 : decode cX3_ownRate 1 = .ok (.istore 4, 2) := by decide +kernel
theorem dX3_ownRate_3 : decode cX3_ownRate 3 = .ok (.iload 4, 2) := by decide +kernel
theorem dX3_ownRate_5 : decode cX3_ownRate 5 = .ok (.bipush 24, 2) := by decide +kernel
theorem dX3_ownRate_7 : decode cX3_ownRate 7 = .ok (.if_icmp .ge 29, 3) := by decide +kernel
theorem dX3_ownRate_10 : decode cX3_ownRate 10 = .ok (.aload_n 0, 1) := by decide +kernel
theorem dX3_ownRate_11 : decode cX3_ownRate 11 = .ok (.iload 4, 2) := by decide +kernel
theorem dX3_ownRate_13 : decode cX3_ownRate 13 = .ok (.iload_n 1, 1) := by decide +kernel
theorem dX3_ownRate_14 : decode cX3_ownRate 14 = .ok (.iload_n 2, 1) := by decide +kernel
theorem dX3_ownRate_15 : decode cX3_ownRate 15 = .ok (.iload_n 3, 1) := by decide +kernel
theorem dX3_ownRate_16 : decode cX3_ownRate 16 = .ok (.invokevirtual 22, 3) := by decide +kernel
theorem dX3_ownRate_19 : decode cX3_ownRate 19 = .ok (.ifCond .eq 11, 3) := by decide +kernel
theorem dX3_ownRate_22 : decode cX3_ownRate 22 = .ok (.aload_n 0, 1) := by decide +kernel
theorem dX3_ownRate_23 : decode cX3_ownRate 23 = .ok (.getfield 19, 3) := by decide +kernel
theorem dX3_ownRate_26 : decode cX3_ownRate 26 = .ok (.iload 4, 2) := by decide +kernel
theorem dX3_ownRate_28 : decode cX3_ownRate 28 = .ok (.iaload, 1) := by decide +kernel
theorem dX3_ownRate_29 : decode cX3_ownRate 29 = .ok (.ireturn, 1) := by decide +kernel
theorem dX3_ownRate_30 : decode cX3_ownRate 30 = .ok (.iinc 4 1, 3) := by decide +kernel
theorem dX3_ownRate_33 : decode cX3_ownRate 33 = .ok (.goto (-30), 3) := by decide +kernel
theorem dX3_ownRate_36 : decode cX3_ownRate 36 = .ok (.iconst 0, 1) := by decide +kernel
theorem dX3_ownRate_37 : decode cX3_ownRate 37 = .ok (.ireturn, 1) := by decide +kernel
theorem dX3_rateFor_0 : decode cX3_rateFor 0 = .ok (.iconst 0, 1) := by decide +kernel
theorem dX3_rateFor_1 : decode cX3_rateFor 1 = .ok (.istore 4, 2) := by decide +kernel
theorem dX3_rateFor_3 : decode cX3_rateFor 3 = .ok (.iconst 0, 1) := by decide +kernel
theorem dX3_rateFor_4 : decode cX3_rateFor 4 = .ok (.istore 5, 2) := by decide +kernel
theorem dX3_rateFor_6 : decode cX3_rateFor 6 = .ok (.iload 5, 2) := by decide +kernel
theorem dX3_rateFor_8 : decode cX3_rateFor 8 = .ok (.bipush 24, 2) := by decide +kernel
theorem dX3_rateFor_10 : decode cX3_rateFor 10 = .ok (.if_icmp .ge 106, 3) := by decide +kernel
theorem dX3_rateFor_13 : decode cX3_rateFor 13 = .ok (.aload_n 0, 1) := by decide +kernel
theorem dX3_rateFor_14 : decode cX3_rateFor 14 = .ok (.getfield 19, 3) := by decide +kernel
theorem dX3_rateFor_17 : decode cX3_rateFor 17 = .ok (.iload 5, 2) := by decide +kernel
theorem dX3_rateFor_19 : decode cX3_rateFor 19 = .ok (.iaload, 1) := by decide +kernel
theorem dX3_rateFor_20 : decode cX3_rateFor 20 = .ok (.ifCond .eq 90, 3) := by decide +kernel
theorem dX3_rateFor_23 : decode cX3_rateFor 23 = .ok (.aload_n 0, 1) := by decide +kernel
theorem dX3_rateFor_24 : decode cX3_rateFor 24 = .ok (.getfield 9, 3) := by decide +kernel
theorem dX3_rateFor_27 : decode cX3_rateFor 27 = .ok (.iload 5, 2) := by decide +kernel
theorem dX3_rateFor_29 : decode cX3_rateFor 29 = .ok (.iaload, 1) := by decide +kernel
theorem dX3_rateFor_30 : decode cX3_rateFor 30 = .ok (.iload_n 1, 1) := by decide +kernel
theorem dX3_rateFor_31 : decode cX3_rateFor 31 = .ok (.if_icmp .ne 79, 3) := by decide +kernel
theorem dX3_rateFor_34 : decode cX3_rateFor 34 = .ok (.aload_n 0, 1) := by decide +kernel
theorem dX3_rateFor_35 : decode cX3_rateFor 35 = .ok (.getfield 13, 3) := by decide +kernel
theorem dX3_rateFor_38 : decode cX3_rateFor 38 = .ok (.iload 5, 2) := by decide +kernel
theorem dX3_rateFor_40 : decode cX3_rateFor 40 = .ok (.iaload, 1) := by decide +kernel
theorem dX3_rateFor_41 : decode cX3_rateFor 41 = .ok (.iload_n 2, 1) := by decide +kernel
theorem dX3_rateFor_42 : decode cX3_rateFor 42 = .ok (.if_icmp .lt 68, 3) := by decide +kernel
theorem dX3_rateFor_45 : decode cX3_rateFor 45 = .ok (.aload_n 0, 1) := by decide +kernel
theorem dX3_rateFor_46 : decode cX3_rateFor 46 = .ok (.getfield 16, 3) := by decide +kernel
theorem dX3_rateFor_49 : decode cX3_rateFor 49 = .ok (.iload 5, 2) := by decide +kernel
theorem dX3_rateFor_51 : decode cX3_rateFor 51 = .ok (.iaload, 1) := by decide +kernel
theorem dX3_rateFor_52 : decode cX3_rateFor 52 = .ok (.iload_n 3, 1) := by decide +kernel
theorem dX3_rateFor_53 : decode cX3_rateFor 53 = .ok (.if_icmp .ge 6, 3) := by decide +kernel
theorem dX3_rateFor_56 : decode cX3_rateFor 56 = .ok (.goto 54, 3) := by decide +kernel
theorem dX3_rateFor_59 : decode cX3_rateFor 59 = .ok (.aload_n 0, 1) := by decide +kernel
theorem dX3_rateFor_60 : decode cX3_rateFor 60 = .ok (.getfield 13, 3) := by decide +kernel
theorem dX3_rateFor_63 : decode cX3_rateFor 63 = .ok (.iload 5, 2) := by decide +kernel
theorem dX3_rateFor_65 : decode cX3_rateFor 65 = .ok (.iaload, 1) := by decide +kernel
theorem dX3_rateFor_66 : decode cX3_rateFor 66 = .ok (.iload_n 2, 1) := by decide +kernel
theorem dX3_rateFor_67 : decode cX3_rateFor 67 = .ok (.if_icmp .ne 22, 3) := by decide +kernel
theorem dX3_rateFor_70 : decode cX3_rateFor 70 = .ok (.aload_n 0, 1) := by decide +kernel
theorem dX3_rateFor_71 : decode cX3_rateFor 71 = .ok (.getfield 16, 3) := by decide +kernel
theorem dX3_rateFor_74 : decode cX3_rateFor 74 = .ok (.iload 5, 2) := by decide +kernel
theorem dX3_rateFor_76 : decode cX3_rateFor 76 = .ok (.iaload, 1) := by decide +kernel
theorem dX3_rateFor_77 : decode cX3_rateFor 77 = .ok (.iload_n 3, 1) := by decide +kernel
theorem dX3_rateFor_78 : decode cX3_rateFor 78 = .ok (.if_icmp .ne 11, 3) := by decide +kernel
theorem dX3_rateFor_81 : decode cX3_rateFor 81 = .ok (.aload_n 0, 1) := by decide +kernel
theorem dX3_rateFor_82 : decode cX3_rateFor 82 = .ok (.getfield 19, 3) := by decide +kernel
theorem dX3_rateFor_85 : decode cX3_rateFor 85 = .ok (.iload 5, 2) := by decide +kernel
theorem dX3_rateFor_87 : decode cX3_rateFor 87 = .ok (.iaload, 1) := by decide +kernel
theorem dX3_rateFor_88 : decode cX3_rateFor 88 = .ok (.ireturn, 1) := by decide +kernel
theorem dX3_rateFor_89 : decode cX3_rateFor 89 = .ok (.aload_n 0, 1) := by decide +kernel
theorem dX3_rateFor_90 : decode cX3_rateFor 90 = .ok (.getfield 19, 3) := by decide +kernel
theorem dX3_rateFor_93 : decode cX3_rateFor 93 = .ok (.iload 5, 2) := by decide +kernel
theorem dX3_rateFor_95 : decode cX3_rateFor 95 = .ok (.iaload, 1) := by decide +kernel
theorem dX3_rateFor_96 : decode cX3_rateFor 96 = .ok (.iload 4, 2) := by decide +kernel
theorem dX3_rateFor_98 : decode cX3_rateFor 98 = .ok (.if_icmp .le 12, 3) := by decide +kernel
theorem dX3_rateFor_101 : decode cX3_rateFor 101 = .ok (.aload_n 0, 1) := by decide +kernel
theorem dX3_rateFor_102 : decode cX3_rateFor 102 = .ok (.getfield 19, 3) := by decide +kernel
theorem dX3_rateFor_105 : decode cX3_rateFor 105 = .ok (.iload 5, 2) := by decide +kernel
theorem dX3_rateFor_107 : decode cX3_rateFor 107 = .ok (.iaload, 1) := by decide +kernel
theorem dX3_rateFor_108 : decode cX3_rateFor 108 = .ok (.istore 4, 2) := by decide +kernel
theorem dX3_rateFor_110 : decode cX3_rateFor 110 = .ok (.iinc 5 1, 3) := by decide +kernel
theorem dX3_rateFor_113 : decode cX3_rateFor 113 = .ok (.goto (-107), 3) := by decide +kernel
theorem dX3_rateFor_116 : decode cX3_rateFor 116 = .ok (.iload 4, 2) := by decide +kernel
theorem dX3_rateFor_118 : decode cX3_rateFor 118 = .ok (.ireturn, 1) := by decide +kernel
set_option maxRecDepth 20000 in
theorem ggX3_change_X3_isEntryOf : GoodIn wsX3_change wsX3_isEntryOf := goodIn_r _ [6, 1, 7, 8, 9, 10, 11, 12, 13] (by decide +kernel) (by decide +kernel)
set_option maxRecDepth 20000 in
theorem gX3_change_X3_isEntryOf : GoodIn wsX3_change (wsV RX3 22 RX3 yX3_isEntryOf wsX3_isEntryOf) := goodIn_app (goodIn_of _ (by decide +kernel)) ggX3_change_X3_isEntryOf
theorem dX3_change_0 : decode cX3_change 0 = .ok (.iconst 0, 1) := by decide +kernel
theorem dX3_change_1 : decode cX3_change 1 = .ok (.istore 5, 2) := by decide +kernel
theorem dX3_change_3 : decode cX3_change 3 = .ok (.iload 5, 2) := by decide +kernel
theorem dX3_change_5 : decode cX3_change 5 = .ok (.bipush 24, 2) := by decide +kernel
theorem dX3_change_7 : decode cX3_change 7 = .ok (.if_icmp .ge 30, 3) := by decide +kernel
theorem dX3_change_10 : decode cX3_change 10 = .ok (.aload_n 0, 1) := by decide +kernel
theorem dX3_change_11 : decode cX3_change 11 = .ok (.iload 5, 2) := by decide +kernel
theorem dX3_change_13 : decode cX3_change 13 = .ok (.iload_n 1, 1) := by decide +kernel
theorem dX3_change_14 : decode cX3_change 14 = .ok (.iload_n 2, 1) := by decide +kernel
theorem dX3_change_15 : decode cX3_change 15 = .ok (.iload_n 3, 1) := by decide +kernel
theorem dX3_change_16 : decode cX3_change 16 = .ok (.invokevirtual 22, 3) := by decide +kernel
theorem dX3_change_19 : decode cX3_change 19 = .ok (.ifCond .eq 12, 3) := by decide +kernel
theorem dX3_change_22 : decode cX3_change 22 = .ok (.aload_n 0, 1) := by decide +kernel
theorem dX3_change_23 : decode cX3_change 23 = .ok (.getfield 19, 3) := by decide +kernel
theorem dX3_change_26 : decode cX3_change 26 = .ok (.iload 5, 2) := by decide +kernel
theorem dX3_change_28 : decode cX3_change 28 = .ok (.iload 4, 2) := by decide +kernel
theorem dX3_change_30 : decode cX3_change 30 = .ok (.iastore, 1) := by decide +kernel
theorem dX3_change_31 : decode cX3_change 31 = .ok (.iinc 5 1, 3) := by decide +kernel
theorem dX3_change_34 : decode cX3_change 34 = .ok (.goto (-31), 3) := by decide +kernel
theorem dX3_change_37 : decode cX3_change 37 = .ok (.return_, 1) := by decide +kernel
theorem dX3_add_0 : decode cX3_add 0 = .ok (.iconst 0, 1) := by decide +kernel
theorem dX3_add_1 : decode cX3_add 1 = .ok (.istore 5, 2) := by decide +kernel
theorem dX3_add_3 : decode cX3_add 3 = .ok (.iload 5, 2) := by decide +kernel
theorem dX3_add_5 : decode cX3_add 5 = .ok (.bipush 24, 2) := by decide +kernel
theorem dX3_add_7 : decode cX3_add 7 = .ok (.if_icmp .ge 54, 3) := by decide +kernel
theorem dX3_add_10 : decode cX3_add 10 = .ok (.aload_n 0, 1) := by decide +kernel
theorem dX3_add_11 : decode cX3_add 11 = .ok (.getfield 19, 3) := by decide +kernel
theorem dX3_add_14 : decode cX3_add 14 = .ok (.iload 5, 2) := by decide +kernel
theorem dX3_add_16 : decode cX3_add 16 = .ok (.iaload, 1) := by decide +kernel
theorem dX3_add_17 : decode cX3_add 17 = .ok (.ifCond .ne 38, 3) := by decide +kernel
theorem dX3_add_20 : decode cX3_add 20 = .ok (.aload_n 0, 1) := by decide +kernel
theorem dX3_add_21 : decode cX3_add 21 = .ok (.getfield 9, 3) := by decide +kernel
theorem dX3_add_24 : decode cX3_add 24 = .ok (.iload 5, 2) := by decide +kernel
theorem dX3_add_26 : decode cX3_add 26 = .ok (.iload_n 1, 1) := by decide +kernel
theorem dX3_add_27 : decode cX3_add 27 = .ok (.iastore, 1) := by decide +kernel
theorem dX3_add_28 : decode cX3_add 28 = .ok (.aload_n 0, 1) := by decide +kernel
theorem dX3_add_29 : decode cX3_add 29 = .ok (.getfield 13, 3) := by decide +kernel
theorem dX3_add_32 : decode cX3_add 32 = .ok (.iload 5, 2) := by decide +kernel
theorem dX3_add_34 : decode cX3_add 34 = .ok (.iload_n 2, 1) := by decide +kernel
theorem dX3_add_35 : decode cX3_add 35 = .ok (.iastore, 1) := by decide +kernel
theorem dX3_add_36 : decode cX3_add 36 = .ok (.aload_n 0, 1) := by decide +kernel
theorem dX3_add_37 : decode cX3_add 37 = .ok (.getfield 16, 3) := by decide +kernel
theorem dX3_add_40 : decode cX3_add 40 = .ok (.iload 5, 2) := by decide +kernel
theorem dX3_add_42 : decode cX3_add 42 = .ok (.iload_n 3, 1) := by decide +kernel
theorem dX3_add_43 : decode cX3_add 43 = .ok (.iastore, 1) := by decide +kernel
theorem dX3_add_44 : decode cX3_add 44 = .ok (.aload_n 0, 1) := by decide +kernel
theorem dX3_add_45 : decode cX3_add 45 = .ok (.getfield 19, 3) := by decide +kernel
theorem dX3_add_48 : decode cX3_add 48 = .ok (.iload 5, 2) := by decide +kernel
theorem dX3_add_50 : decode cX3_add 50 = .ok (.iload 4, 2) := by decide +kernel
theorem dX3_add_52 : decode cX3_add 52 = .ok (.iastore, 1) := by decide +kernel
theorem dX3_add_53 : decode cX3_add 53 = .ok (.iconst 1, 1) := by decide +kernel
theorem dX3_add_54 : decode cX3_add 54 = .ok (.ireturn, 1) := by decide +kernel
theorem dX3_add_55 : decode cX3_add 55 = .ok (.iinc 5 1, 3) := by decide +kernel
theorem dX3_add_58 : decode cX3_add 58 = .ok (.goto (-55), 3) := by decide +kernel
theorem dX3_add_61 : decode cX3_add 61 = .ok (.iconst 0, 1) := by decide +kernel
theorem dX3_add_62 : decode cX3_add 62 = .ok (.ireturn, 1) := by decide +kernel
theorem dX3_copyFrom_0 : decode cX3_copyFrom 0 = .ok (.aload_n 1, 1) := by decide +kernel
theorem dX3_copyFrom_1 : decode cX3_copyFrom 1 = .ok (.getfield 9, 3) := by decide +kernel
theorem dX3_copyFrom_4 : decode cX3_copyFrom 4 = .ok (.iconst 0, 1) := by decide +kernel
theorem dX3_copyFrom_5 : decode cX3_copyFrom 5 = .ok (.aload_n 0, 1) := by decide +kernel
theorem dX3_copyFrom_6 : decode cX3_copyFrom 6 = .ok (.getfield 9, 3) := by decide +kernel
theorem dX3_copyFrom_9 : decode cX3_copyFrom 9 = .ok (.iconst 0, 1) := by decide +kernel
theorem dX3_copyFrom_10 : decode cX3_copyFrom 10 = .ok (.bipush 24, 2) := by decide +kernel
theorem dX3_copyFrom_12 : decode cX3_copyFrom 12 = .ok (.invokestatic 26, 3) := by decide +kernel
theorem dX3_copyFrom_15 : decode cX3_copyFrom 15 = .ok (.aload_n 1, 1) := by decide +kernel
theorem dX3_copyFrom_16 : decode cX3_copyFrom 16 = .ok (.getfield 13, 3) := by decide +kernel
theorem dX3_copyFrom_19 : decode cX3_copyFrom 19 = .ok (.iconst 0, 1) := by decide +kernel
theorem dX3_copyFrom_20 : decode cX3_copyFrom 20 = .ok (.aload_n 0, 1) := by decide +kernel
theorem dX3_copyFrom_21 : decode cX3_copyFrom 21 = .ok (.getfield 13, 3) := by decide +kernel
theorem dX3_copyFrom_24 : decode cX3_copyFrom 24 = .ok (.iconst 0, 1) := by decide +kernel
theorem dX3_copyFrom_25 : decode cX3_copyFrom 25 = .ok (.bipush 24, 2) := by decide +kernel
theorem dX3_copyFrom_27 : decode cX3_copyFrom 27 = .ok (.invokestatic 26, 3) := by decide +kernel
theorem dX3_copyFrom_30 : decode cX3_copyFrom 30 = .ok (.aload_n 1, 1) := by decide +kernel
theorem dX3_copyFrom_31 : decode cX3_copyFrom 31 = .ok (.getfield 16, 3) := by decide +kernel
theorem dX3_copyFrom_34 : decode cX3_copyFrom 34 = .ok (.iconst 0, 1) := by decide +kernel
theorem dX3_copyFrom_35 : decode cX3_copyFrom 35 = .ok (.aload_n 0, 1) := by decide +kernel
theorem dX3_copyFrom_36 : decode cX3_copyFrom 36 = .ok (.getfield 16, 3) := by decide +kernel
theorem dX3_copyFrom_39 : decode cX3_copyFrom 39 = .ok (.iconst 0, 1) := by decide +kernel
theorem dX3_copyFrom_40 : decode cX3_copyFrom 40 = .ok (.bipush 24, 2) := by decide +kernel
theorem dX3_copyFrom_42 : decode cX3_copyFrom 42 = .ok (.invokestatic 26, 3) := by decide +kernel
theorem dX3_copyFrom_45 : decode cX3_copyFrom 45 = .ok (.aload_n 1, 1) := by decide +kernel
theorem dX3_copyFrom_46 : decode cX3_copyFrom 46 = .ok (.getfield 19, 3) := by decide +kernel
theorem dX3_copyFrom_49 : decode cX3_copyFrom 49 = .ok (.iconst 0, 1) := by decide +kernel
theorem dX3_copyFrom_50 : decode cX3_copyFrom 50 = .ok (.aload_n 0, 1) := by decide +kernel
theorem dX3_copyFrom_51 : decode cX3_copyFrom 51 = .ok (.getfield 19, 3) := by decide +kernel
theorem dX3_copyFrom_54 : decode cX3_copyFrom 54 = .ok (.iconst 0, 1) := by decide +kernel
theorem dX3_copyFrom_55 : decode cX3_copyFrom 55 = .ok (.bipush 24, 2) := by decide +kernel
theorem dX3_copyFrom_57 : decode cX3_copyFrom 57 = .ok (.invokestatic 26, 3) := by decide +kernel
theorem dX3_copyFrom_60 : decode cX3_copyFrom 60 = .ok (.return_, 1) := by decide +kernel
theorem dX3_isEntryOf_0 : decode cX3_isEntryOf 0 = .ok (.aload_n 0, 1) := by decide +kernel
theorem dX3_isEntryOf_1 : decode cX3_isEntryOf 1 = .ok (.getfield 19, 3) := by decide +kernel
theorem dX3_isEntryOf_4 : decode cX3_isEntryOf 4 = .ok (.iload_n 1, 1) := by decide +kernel
theorem dX3_isEntryOf_5 : decode cX3_isEntryOf 5 = .ok (.iaload, 1) := by decide +kernel
theorem dX3_isEntryOf_6 : decode cX3_isEntryOf 6 = .ok (.ifCond .eq 38, 3) := by decide +kernel
theorem dX3_isEntryOf_9 : decode cX3_isEntryOf 9 = .ok (.aload_n 0, 1) := by decide +kernel
theorem dX3_isEntryOf_10 : decode cX3_isEntryOf 10 = .ok (.getfield 9, 3) := by decide +kernel
theorem dX3_isEntryOf_13 : decode cX3_isEntryOf 13 = .ok (.iload_n 1, 1) := by decide +kernel
theorem dX3_isEntryOf_14 : decode cX3_isEntryOf 14 = .ok (.iaload, 1) := by decide +kernel
theorem dX3_isEntryOf_15 : decode cX3_isEntryOf 15 = .ok (.iload_n 2, 1) := by decide +kernel
theorem dX3_isEntryOf_16 : decode cX3_isEntryOf 16 = .ok (.if_icmp .ne 28, 3) := by decide +kernel
theorem dX3_isEntryOf_19 : decode cX3_isEntryOf 19 = .ok (.aload_n 0, 1) := by decide +kernel
theorem dX3_isEntryOf_20 : decode cX3_isEntryOf 20 = .ok (.getfield 13, 3) := by decide +kernel
theorem dX3_isEntryOf_23 : decode cX3_isEntryOf 23 = .ok (.iload_n 1, 1) := by decide +kernel
theorem dX3_isEntryOf_24 : decode cX3_isEntryOf 24 = .ok (.iaload, 1) := by decide +kernel
theorem dX3_isEntryOf_25 : decode cX3_isEntryOf 25 = .ok (.iload_n 3, 1) := by decide +kernel
theorem dX3_isEntryOf_26 : decode cX3_isEntryOf 26 = .ok (.if_icmp .ne 18, 3) := by decide +kernel
theorem dX3_isEntryOf_29 : decode cX3_isEntryOf 29 = .ok (.aload_n 0, 1) := by decide +kernel
theorem dX3_isEntryOf_30 : decode cX3_isEntryOf 30 = .ok (.getfield 16, 3) := by decide +kernel
theorem dX3_isEntryOf_33 : decode cX3_isEntryOf 33 = .ok (.iload_n 1, 1) := by decide +kernel
theorem dX3_isEntryOf_34 : decode cX3_isEntryOf 34 = .ok (.iaload, 1) := by decide +kernel
theorem dX3_isEntryOf_35 : decode cX3_isEntryOf 35 = .ok (.iload 4, 2) := by decide +kernel
theorem dX3_isEntryOf_37 : decode cX3_isEntryOf 37 = .ok (.if_icmp .ne 7, 3) := by decide +kernel
theorem dX3_isEntryOf_40 : decode cX3_isEntryOf 40 = .ok (.iconst 1, 1) := by decide +kernel
theorem dX3_isEntryOf_41 : decode cX3_isEntryOf 41 = .ok (.goto 4, 3) := by decide +kernel
theorem dX3_isEntryOf_44 : decode cX3_isEntryOf 44 = .ok (.iconst 0, 1) := by decide +kernel
theorem dX3_isEntryOf_45 : decode cX3_isEntryOf 45 = .ok (.ireturn, 1) := by decide +kernel
theorem dX4_init_0 : decode cX4_init 0 = .ok (.aload_n 0, 1) := by decide +kernel
theorem dX4_init_1 : decode cX4_init 1 = .ok (.invokespecial 3, 3) := by decide +kernel
theorem dX4_init_4 : decode cX4_init 4 = .ok (.aload_n 0, 1) := by decide +kernel
theorem dX4_init_5 : decode cX4_init 5 = .ok (.bipush 60, 2) := by decide +kernel
theorem dX4_init_7 : decode cX4_init 7 = .ok (.newarray .char, 2) := by decide +kernel
theorem dX4_init_9 : decode cX4_init 9 = .ok (.putfield 11, 3) := by decide +kernel
theorem dX4_init_12 : decode cX4_init 12 = .ok (.aload_n 0, 1) := by decide +kernel
theorem dX4_init_13 : decode cX4_init 13 = .ok (.iconst 0, 1) := by decide +kernel
theorem dX4_init_14 : decode cX4_init 14 = .ok (.putfield 15, 3) := by decide +kernel
theorem dX4_init_17 : decode cX4_init 17 = .ok (.aload_n 0, 1) := by decide +kernel
theorem dX4_init_18 : decode cX4_init 18 = .ok (.iconst 0, 1) := by decide +kernel
theorem dX4_init_19 : decode cX4_init 19 = .ok (.putfield 19, 3) := by decide +kernel
theorem dX4_init_22 : decode cX4_init 22 = .ok (.aload_n 0, 1) := by decide +kernel
theorem dX4_init_23 : decode cX4_init 23 = .ok (.iconst 4, 1) := by decide +kernel
theorem dX4_init_24 : decode cX4_init 24 = .ok (.newarray .int, 2) := by decide +kernel
theorem dX4_init_26 : decode cX4_init 26 = .ok (.putfield 22, 3) := by decide +kernel
theorem dX4_init_29 : decode cX4_init 29 = .ok (.aload_n 0, 1) := by decide +kernel
theorem dX4_init_30 : decode cX4_init 30 = .ok (.iconst 0, 1) := by decide +kernel
theorem dX4_init_31 : decode cX4_init 31 = .ok (.putfield 26, 3) := by decide +kernel
theorem dX4_init_34 : decode cX4_init 34 = .ok (.aload_n 0, 1) := by decide +kernel
theorem dX4_init_35 : decode cX4_init 35 = .ok (.iconst (-1), 1) := by decide +kernel
theorem dX4_init_36 : decode cX4_init 36 = .ok (.putfield 29, 3) := by decide +kernel
theorem dX4_init_39 : decode cX4_init 39 = .ok (.aload_n 0, 1) := by decide +kernel
theorem dX4_init_40 : decode cX4_init 40 = .ok (.iconst 0, 1) := by decide +kernel
theorem dX4_init_41 : decode cX4_init 41 = .ok (.putfield 32, 3) := by decide +kernel
theorem dX4_init_44 : decode cX4_init 44 = .ok (.aload_n 0, 1) := by decide +kernel
theorem dX4_init_45 : decode cX4_init 45 = .ok (.iconst 0, 1) := by decide +kernel
theorem dX4_init_46 : decode cX4_init 46 = .ok (.putfield 35, 3) := by decide +kernel
theorem dX4_init_49 : decode cX4_init 49 = .ok (.return_, 1) := by decide +kernel
theorem dX4_append_0 : decode cX4_append 0 = .ok (.aload_n 0, 1) := by decide +kernel
theorem dX4_append_1 : decode cX4_append 1 = .ok (.getfield 15, 3) := by decide +kernel
theorem dX4_append_4 : decode cX4_append 4 = .ok (.ifCond .lt 12, 3) := by decide +kernel
theorem dX4_append_7 : decode cX4_append 7 = .ok (.aload_n 0, 1) := by decide +kernel
theorem dX4_append_8 : decode cX4_append 8 = .ok (.getfield 15, 3) := by decide +kernel
theorem dX4_append_11 : decode cX4_append 11 = .ok (.bipush 60, 2) := by decide +kernel
theorem dX4_append_13 : decode cX4_append 13 = .ok (.if_icmp .lt 6, 3) := by decide +kernel
theorem dX4_append_16 : decode cX4_append 16 = .ok (.ldc 38, 2) := by decide +kernel
theorem dX4_append_18 : decode cX4_append 18 = .ok (.ireturn, 1) := by decide +kernel
theorem dX4_append_19 : decode cX4_append 19 = .ok (.aload_n 0, 1) := by decide +kernel
theorem dX4_append_20 : decode cX4_append 20 = .ok (.getfield 11, 3) := by decide +kernel
theorem dX4_append_23 : decode cX4_append 23 = .ok (.aload_n 0, 1) := by decide +kernel
theorem dX4_append_24 : decode cX4_append 24 = .ok (.getfield 15, 3) := by decide +kernel
theorem dX4_append_27 : decode cX4_append 27 = .ok (.iload_n 1, 1) := by decide +kernel
theorem dX4_append_28 : decode cX4_append 28 = .ok (.castore, 1) := by decide +kernel
theorem dX4_append_29 : decode cX4_append 29 = .ok (.aload_n 0, 1) := by decide +kernel
theorem dX4_append_30 : decode cX4_append 30 = .ok (.dup, 1) := by decide +kernel
theorem dX4_append_31 : decode cX4_append 31 = .ok (.getfield 15, 3) := by decide +kernel
theorem dX4_append_34 : decode cX4_append 34 = .ok (.iconst 1, 1) := by decide +kernel
theorem dX4_append_35 : decode cX4_append 35 = .ok (.iadd, 1) := by decide +kernel
theorem dX4_append_36 : decode cX4_append 36 = .ok (.putfield 15, 3) := by decide +kernel
theorem dX4_append_39 : decode cX4_append 39 = .ok (.aload_n 0, 1) := by decide +kernel
theorem dX4_append_40 : decode cX4_append 40 = .ok (.getfield 15, 3) := by decide +kernel
theorem dX4_append_43 : decode cX4_append 43 = .ok (.ireturn, 1) := by decide +kernel
theorem dX4_hasFault_0 : decode cX4_hasFault 0 = .ok (.aload_n 0, 1) := by decide +kernel
theorem dX4_hasFault_1 : decode cX4_hasFault 1 = .ok (.getfield 29, 3) := by decide +kernel
theorem dX4_hasFault_4 : decode cX4_hasFault 4 = .ok (.iconst (-1), 1) := by decide +kernel
theorem dX4_hasFault_5 : decode cX4_hasFault 5 = .ok (.if_icmp .eq 7, 3) := by decide +kernel
theorem dX4_hasFault_8 : decode cX4_hasFault 8 = .ok (.iconst 1, 1) := by decide +kernel
theorem dX4_hasFault_9 : decode cX4_hasFault 9 = .ok (.goto 4, 3) := by decide +kernel
theorem dX4_hasFault_12 : decode cX4_hasFault 12 = .ok (.iconst 0, 1) := by decide +kernel
theorem dX4_hasFault_13 : decode cX4_hasFault 13 = .ok (.ireturn, 1) := by decide +kernel
theorem dX4_tellFault_0 : decode cX4_tellFault 0 = .ok (.aload_n 0, 1) := by decide +kernel
theorem dX4_tellFault_1 : decode cX4_tellFault 1 = .ok (.getfield 29, 3) := by decide +kernel
theorem dX4_tellFault_4 : decode cX4_tellFault 4 = .ok (.iconst (-1), 1) := by decide +kernel
theorem dX4_tellFault_5 : decode cX4_tellFault 5 = .ok (.if_icmp .ne 6, 3) := by decide +kernel
theorem dX4_tellFault_8 : decode cX4_tellFault 8 = .ok (.ldc 39, 2) := by decide +kernel
theorem dX4_tellFault_10 : decode cX4_tellFault 10 = .ok (.ireturn, 1) := by decide +kernel
theorem dX4_tellFault_11 : decode cX4_tellFault 11 = .ok (.iload_n 1, 1) := by decide +kernel
theorem dX4_tellFault_12 : decode cX4_tellFault 12 = .ok (.ifCond .ne 10, 3) := by decide +kernel
theorem dX4_tellFault_15 : decode cX4_tellFault 15 = .ok (.aload_n 0, 1) := by decide +kernel
theorem dX4_tellFault_16 : decode cX4_tellFault 16 = .ok (.getfield 29, 3) := by decide +kernel
theorem dX4_tellFault_19 : decode cX4_tellFault 19 = .ok (.goto 19, 3) := by decide +kernel
theorem dX4_tellFault_22 : decode cX4_tellFault 22 = .ok (.iload_n 1, 1) := by decide +kernel
theorem dX4_tellFault_23 : decode cX4_tellFault 23 = .ok (.iconst 1, 1) := by decide +kernel
theorem dX4_tellFault_24 : decode cX4_tellFault 24 = .ok (.if_icmp .ne 10, 3) := by decide +kernel
theorem dX4_tellFault_27 : decode cX4_tellFault 27 = .ok (.aload_n 0, 1) := by decide +kernel
theorem dX4_tellFault_28 : decode cX4_tellFault 28 = .ok (.getfield 32, 3) := by decide +kernel
theorem dX4_tellFault_31 : decode cX4_tellFault 31 = .ok (.goto 7, 3) := by decide +kernel
theorem dX4_tellFault_34 : decode cX4_tellFault 34 = .ok (.aload_n 0, 1) := by decide +kernel
theorem dX4_tellFault_35 : decode cX4_tellFault 35 = .ok (.getfield 35, 3) := by decide +kernel
theorem dX4_tellFault_38 : decode cX4_tellFault 38 = .ok (.ireturn, 1) := by decide +kernel
set_option maxRecDepth 20000 in
theorem ggX4_runOn_X4_readCommand : GoodIn wsX4_runOn wsX4_readCommand := goodIn_r _ [9, 10, 11, 12, 8, 13, 14, 15, 16, 17, 18, 19, 20, 21, 22, 23, 24, 25, 26, 27, 28, 29, 30, 31, 32, 33, 2, 34, 35, 36, 37, 38, 39, 40, 41, 42, 43, 44, 45, 46, 47, 48, 49, 50, 51, 52, 53, 54, 55, 56, 57, 58, 59, 60, 61, 62, 63, 64, 65, 66, 67, 68, 69, 70, 71, 72, 73, 74, 75, 76, 77, 78, 79, 4, 80, 81, 82, 83, 84, 85, 86, 87, 88, 89, 90, 242, 243, 244, 245, 246, 247, 248, 249] (by decide +kernel) (by decide +kernel)
set_option maxRecDepth 20000 in
theorem gX4_runOn_X4_readCommand : GoodIn wsX4_runOn (wsV RX4 40 RX4 yX4_readCommand wsX4_readCommand) := goodIn_app (goodIn_of _ (by decide +kernel)) ggX4_runOn_X4_readCommand
set_option maxRecDepth 20000 in
theorem ggX4_runOn_X4_putFault : GoodIn wsX4_runOn wsX4_putFault := goodIn_r _ [94, 1, 95, 96, 242, 243, 244, 245, 246, 247, 248, 249] (by decide +kernel) (by decide +kernel)
set_option maxRecDepth 20000 in
theorem gX4_runOn_X4_putFault : GoodIn wsX4_runOn (wsV RX4 44 RX4 yX4_putFault wsX4_putFault) := goodIn_app (goodIn_of _ (by decide +kernel)) ggX4_runOn_X4_putFault
set_option maxRecDepth 20000 in
theorem ggX4_runOn_X4_perform : GoodIn wsX4_runOn wsX4_perform := goodIn_r _ [100, 79, 10, 101, 102, 103, 104, 105, 106, 107, 108, 109, 110, 111, 112, 113, 114, 115, 116, 117, 118, 119, 120, 121, 122, 123, 124, 125, 126, 127, 128, 129, 130, 131, 132, 133, 134, 135, 136, 137, 138, 139, 140, 141, 142, 143, 144, 145, 146, 147, 148, 149, 150, 151, 152, 153, 154, 155, 156, 157, 158, 159, 160, 161, 162, 163, 164, 165, 166, 167, 168, 169, 170, 171, 172, 173, 174, 175, 176, 177, 178, 179, 180, 181, 182, 183, 184, 185, 186, 187, 188, 189, 190, 191, 192, 193, 194, 195, 196, 197, 198, 199, 200, 201, 202, 203, 204, 205, 206, 207, 208, 209, 210, 211, 212, 213, 214, 215, 216, 217, 218, 219, 220, 221, 222, 223, 224, 225, 226, 227, 228, 229, 230, 231, 232, 233, 234, 235, 236, 237, 238, 239, 240, 241, 242, 243, 244, 245, 246, 247, 248, 249, 250, 251, 252, 253, 254, 255, 256, 257, 258, 259, 260, 261, 262, 263, 264, 265, 266, 267, 268, 269, 270, 271, 272, 273, 274, 275, 276, 277, 278] (by decide +kernel) (by decide +kernel)
set_option maxRecDepth 20000 in
theorem gX4_runOn_X4_perform : GoodIn wsX4_runOn (wsV RX4 48 RX4 yX4_perform wsX4_perform) := goodIn_app (goodIn_of _ (by decide +kernel)) ggX4_runOn_X4_perform
theorem dX4_runOn_0 : decode cX4_runOn 0 = .ok (.aload_n 0, 1) := by decide +kernel
theorem dX4_runOn_1 : decode cX4_runOn 1 = .ok (.iconst (-1), 1) := by decide +kernel
theorem dX4_runOn_2 : decode cX4_runOn 2 = .ok (.putfield 29, 3) := by decide +kernel
theorem dX4_runOn_5 : decode cX4_runOn 5 = .ok (.iconst 0, 1) := by decide +kernel
theorem dX4_runOn_6 : decode cX4_runOn 6 = .ok (.istore_n 2, 1) := by decide +kernel
theorem dX4_runOn_7 : decode cX4_runOn 7 = .ok (.iconst 0, 1) := by decide +kernel
theorem dX4_runOn_8 : decode cX4_runOn 8 = .ok (.istore_n 3, 1) := by decide +kernel
theorem dX4_runOn_9 : decode cX4_runOn 9 = .ok (.iload_n 2, 1) := by decide +kernel
theorem dX4_runOn_10 : decode cX4_runOn 10 = .ok (.aload_n 0, 1) := by decide +kernel
theorem dX4_runOn_11 : decode cX4_runOn 11 = .ok (.getfield 15, 3) := by decide +kernel
theorem dX4_runOn_14 : decode cX4_runOn 14 = .ok (.if_icmp .ge 60, 3) := by decide +kernel
theorem dX4_runOn_17 : decode cX4_runOn 17 = .ok (.iload_n 3, 1) := by decide +kernel
theorem dX4_runOn_18 : decode cX4_runOn 18 = .ok (.bipush 60, 2) := by decide +kernel
theorem dX4_runOn_20 : decode cX4_runOn 20 = .ok (.if_icmp .ge 54, 3) := by decide +kernel
theorem dX4_runOn_23 : decode cX4_runOn 23 = .ok (.aload_n 0, 1) := by decide +kernel
theorem dX4_runOn_24 : decode cX4_runOn 24 = .ok (.iload_n 2, 1) := by decide +kernel
theorem dX4_runOn_25 : decode cX4_runOn 25 = .ok (.invokevirtual 40, 3) := by decide +kernel
theorem dX4_runOn_28 : decode cX4_runOn 28 = .ok (.ifCond .ne 13, 3) := by decide +kernel
theorem dX4_runOn_31 : decode cX4_runOn 31 = .ok (.aload_n 0, 1) := by decide +kernel
theorem dX4_runOn_32 : decode cX4_runOn 32 = .ok (.iload_n 2, 1) := by decide +kernel
theorem dX4_runOn_33 : decode cX4_runOn 33 = .ok (.iconst 1, 1) := by decide +kernel
theorem dX4_runOn_34 : decode cX4_runOn 34 = .ok (.ldc 39, 2) := by decide +kernel
theorem dX4_runOn_36 : decode cX4_runOn 36 = .ok (.invokevirtual 44, 3) := by decide +kernel
theorem dX4_runOn_39 : decode cX4_runOn 39 = .ok (.iload_n 3, 1) := by decide +kernel
theorem dX4_runOn_40 : decode cX4_runOn 40 = .ok (.ireturn, 1) := by decide +kernel
theorem dX4_runOn_41 : decode cX4_runOn 41 = .ok (.aload_n 0, 1) := by decide +kernel
theorem dX4_runOn_42 : decode cX4_runOn 42 = .ok (.aload_n 1, 1) := by decide +kernel
theorem dX4_runOn_43 : decode cX4_runOn 43 = .ok (.invokevirtual 48, 3) := by decide +kernel
theorem dX4_runOn_46 : decode cX4_runOn 46 = .ok (.istore 4, 2) := by decide +kernel
theorem dX4_runOn_48 : decode cX4_runOn 48 = .ok (.iload 4, 2) := by decide +kernel
theorem dX4_runOn_50 : decode cX4_runOn 50 = .ok (.ifCond .ge 13, 3) := by decide +kernel
theorem dX4_runOn_53 : decode cX4_runOn 53 = .ok (.aload_n 0, 1) := by decide +kernel
theorem dX4_runOn_54 : decode cX4_runOn 54 = .ok (.iload_n 2, 1) := by decide +kernel
theorem dX4_runOn_55 : decode cX4_runOn 55 = .ok (.iconst 2, 1) := by decide +kernel
theorem dX4_runOn_56 : decode cX4_runOn 56 = .ok (.iload 4, 2) := by decide +kernel
theorem dX4_runOn_58 : decode cX4_runOn 58 = .ok (.invokevirtual 44, 3) := by decide +kernel
theorem dX4_runOn_61 : decode cX4_runOn 61 = .ok (.iload_n 3, 1) := by decide +kernel
theorem dX4_runOn_62 : decode cX4_runOn 62 = .ok (.ireturn, 1) := by decide +kernel
theorem dX4_runOn_63 : decode cX4_runOn 63 = .ok (.aload_n 0, 1) := by decide +kernel
theorem dX4_runOn_64 : decode cX4_runOn 64 = .ok (.getfield 26, 3) := by decide +kernel
theorem dX4_runOn_67 : decode cX4_runOn 67 = .ok (.istore_n 2, 1) := by decide +kernel
theorem dX4_runOn_68 : decode cX4_runOn 68 = .ok (.iinc 3 1, 3) := by decide +kernel
theorem dX4_runOn_71 : decode cX4_runOn 71 = .ok (.goto (-62), 3) := by decide +kernel
theorem dX4_runOn_74 : decode cX4_runOn 74 = .ok (.iload_n 3, 1) := by decide +kernel
theorem dX4_runOn_75 : decode cX4_runOn 75 = .ok (.ireturn, 1) := by decide +kernel
theorem dX4_putFault_0 : decode cX4_putFault 0 = .ok (.aload_n 0, 1) := by decide +kernel
theorem dX4_putFault_1 : decode cX4_putFault 1 = .ok (.iload_n 1, 1) := by decide +kernel
theorem dX4_putFault_2 : decode cX4_putFault 2 = .ok (.putfield 29, 3) := by decide +kernel
theorem dX4_putFault_5 : decode cX4_putFault 5 = .ok (.aload_n 0, 1) := by decide +kernel
theorem dX4_putFault_6 : decode cX4_putFault 6 = .ok (.iload_n 2, 1) := by decide +kernel
theorem dX4_putFault_7 : decode cX4_putFault 7 = .ok (.putfield 32, 3) := by decide +kernel
theorem dX4_putFault_10 : decode cX4_putFault 10 = .ok (.aload_n 0, 1) := by decide +kernel
theorem dX4_putFault_11 : decode cX4_putFault 11 = .ok (.iload_n 3, 1) := by decide +kernel
theorem dX4_putFault_12 : decode cX4_putFault 12 = .ok (.putfield 35, 3) := by decide +kernel
theorem dX4_putFault_15 : decode cX4_putFault 15 = .ok (.return_, 1) := by decide +kernel
set_option maxRecDepth 20000 in
theorem ggX4_perform_X5_has : GoodIn wsX4_perform wsX5_has := goodIn_r _ [7, 8, 161, 162, 163, 164, 165, 166, 167, 168, 169, 170] (by decide +kernel) (by decide +kernel)
set_option maxRecDepth 20000 in
theorem gX4_perform_X5_has : GoodIn wsX4_perform (wsV RX4 58 RX5 yX5_has wsX5_has) := goodIn_app (goodIn_of _ (by decide +kernel)) ggX4_perform_X5_has
set_option maxRecDepth 20000 in
theorem ggX4_perform_X1_lendStones : GoodIn wsX4_perform wsX1_lendStones := goodIn_r _ [13, 14, 15, 16, 17, 18, 19, 20, 21, 22, 12, 23, 24, 25, 26, 27, 28, 29, 30, 31, 32, 33, 34, 35, 36, 6, 37, 38, 39, 40, 41, 42, 43, 44, 45, 46, 47, 48, 49, 50, 51, 52, 53, 54, 55, 56, 57, 58, 152, 153, 154, 155, 156, 157, 158, 159, 160, 161, 162, 163, 164, 165, 166, 167, 168, 169, 170, 171, 172, 173, 174, 175, 176, 177, 178, 179, 180] (by decide +kernel) (by decide +kernel)
set_option maxRecDepth 20000 in
theorem gX4_perform_X1_lendStones : GoodIn wsX4_perform (wsV RX4 63 RX1 yX1_lendStones wsX1_lendStones) := goodIn_app (goodIn_of _ (by decide +kernel)) ggX4_perform_X1_lendStones
set_option maxRecDepth 20000 in
theorem ggX4_perform_X1_giveBack : GoodIn wsX4_perform wsX1_giveBack := goodIn_r _ [62, 14, 15, 16, 63, 4, 5, 6, 7, 8, 64, 65, 66, 67, 68, 69, 70, 71, 72, 73, 74, 75, 76, 77, 78, 79, 152, 153, 154, 155, 156, 157, 158, 159, 160, 161, 162, 163, 164, 165, 166, 167, 168, 169, 170] (by decide +kernel) (by decide +kernel)
set_option maxRecDepth 20000 in
theorem gX4_perform_X1_giveBack : GoodIn wsX4_perform (wsV RX4 67 RX1 yX1_giveBack wsX1_giveBack) := goodIn_app (goodIn_of _ (by decide +kernel)) ggX4_perform_X1_giveBack
set_option maxRecDepth 20000 in
theorem ggX4_perform_X1_keepStone : GoodIn wsX4_perform wsX1_keepStone := goodIn_r _ [83, 14, 15, 16, 63, 4, 5, 6, 7, 8, 64, 65, 66, 67, 68, 84, 85, 86, 12, 87, 17, 88, 20, 21, 22, 23, 24, 89, 90, 91, 51, 92, 53, 152, 153, 154, 155, 156, 157, 158, 159, 160, 161, 162, 163, 164, 165, 166, 167, 168, 169, 170, 175, 176, 177, 178, 179, 180] (by decide +kernel) (by decide +kernel)
set_option maxRecDepth 20000 in
theorem gX4_perform_X1_keepStone : GoodIn wsX4_perform (wsV RX4 71 RX1 yX1_keepStone wsX1_keepStone) := goodIn_app (goodIn_of _ (by decide +kernel)) ggX4_perform_X1_keepStone
set_option maxRecDepth 20000 in
theorem ggX4_perform_X1_sellStone : GoodIn wsX4_perform wsX1_sellStone := goodIn_r _ [96, 14, 15, 16, 88, 97, 63, 4, 5, 6, 7, 8, 64, 65, 66, 67, 68, 98, 99, 100, 101, 102, 20, 21, 22, 12, 23, 24, 152, 153, 154, 155, 156, 157, 158, 159, 160, 161, 162, 163, 164, 165, 166, 167, 168, 169, 170] (by decide +kernel) (by decide +kernel)
set_option maxRecDepth 20000 in
theorem gX4_perform_X1_sellStone : GoodIn wsX4_perform (wsV RX4 74 RX1 yX1_sellStone wsX1_sellStone) := goodIn_app (goodIn_of _ (by decide +kernel)) ggX4_perform_X1_sellStone
set_option maxRecDepth 20000 in
theorem ggX4_perform_X1_regrade : GoodIn wsX4_perform wsX1_regrade := goodIn_r _ [106, 14, 15, 16, 63, 4, 5, 6, 7, 8, 107, 108, 109, 98, 99, 100, 101, 102, 29, 30, 31, 12, 32, 33, 34, 35, 36, 37, 38, 39, 40, 41, 42, 43, 44, 45, 46, 47, 64, 65, 66, 67, 68, 152, 153, 154, 155, 156, 157, 158, 159, 160, 161, 162, 163, 164, 165, 166, 167, 168, 169, 170, 171, 172, 173, 174] (by decide +kernel) (by decide +kernel)
set_option maxRecDepth 20000 in
theorem gX4_perform_X1_regrade : GoodIn wsX4_perform (wsV RX4 78 RX1 yX1_regrade wsX1_regrade) := goodIn_app (goodIn_of _ (by decide +kernel)) ggX4_perform_X1_regrade
set_option maxRecDepth 20000 in
theorem ggX4_perform_X1_putRate : GoodIn wsX4_perform wsX1_putRate := goodIn_r _ [113, 15, 33, 19, 114, 108, 115, 116, 107, 109, 117, 118, 119, 42, 120, 44, 121, 122, 123, 124, 45, 46, 47, 125, 126, 127, 128, 129, 130, 131, 132, 152, 153, 154, 155, 156, 157, 158, 159, 160, 171, 172, 173, 174] (by decide +kernel) (by decide +kernel)
set_option maxRecDepth 20000 in
theorem gX4_perform_X1_putRate : GoodIn wsX4_perform (wsV RX4 82 RX1 yX1_putRate wsX1_putRate) := goodIn_app (goodIn_of _ (by decide +kernel)) ggX4_perform_X1_putRate
set_option maxRecDepth 20000 in
theorem ggX4_perform_X1_passDays : GoodIn wsX4_perform wsX1_passDays := goodIn_r _ [136, 15, 18, 19, 137, 138, 139, 140, 12, 141, 17, 142, 14, 143, 84, 85, 86, 87, 88, 20, 21, 22, 23, 24, 89, 90, 91, 51, 92, 53, 152, 153, 154, 155, 156, 157, 158, 159, 160, 175, 176, 177, 178, 179, 180, 161, 162, 163, 164, 165, 166, 167, 168, 169, 170] (by decide +kernel) (by decide +kernel)
set_option maxRecDepth 20000 in
theorem gX4_perform_X1_passDays : GoodIn wsX4_perform (wsV RX4 85 RX1 yX1_passDays wsX1_passDays) := goodIn_app (goodIn_of _ (by decide +kernel)) ggX4_perform_X1_passDays
theorem dX4_perform_0 : decode cX4_perform 0 = .ok (.aload_n 0, 1) := by decide +kernel
theorem dX4_perform_1 : decode cX4_perform 1 = .ok (.getfield 22, 3) := by decide +kernel
theorem dX4_perform_4 : decode cX4_perform 4 = .ok (.iconst 0, 1) := by decide +kernel
theorem dX4_perform_5 : decode cX4_perform 5 = .ok (.iaload, 1) := by decide +kernel
theorem dX4_perform_6 : decode cX4_perform 6 = .ok (.istore_n 2, 1) := by decide +kernel
theorem dX4_perform_7 : decode cX4_perform 7 = .ok (.aload_n 0, 1) := by decide +kernel
theorem dX4_perform_8 : decode cX4_perform 8 = .ok (.getfield 22, 3) := by decide +kernel
theorem dX4_perform_11 : decode cX4_perform 11 = .ok (.iconst 1, 1) := by decide +kernel
theorem dX4_perform_12 : decode cX4_perform 12 = .ok (.iaload, 1) := by decide +kernel
theorem dX4_perform_13 : decode cX4_perform 13 = .ok (.istore_n 3, 1) := by decide +kernel
theorem dX4_perform_14 : decode cX4_perform 14 = .ok (.aload_n 0, 1) := by decide +kernel
theorem dX4_perform_15 : decode cX4_perform 15 = .ok (.getfield 22, 3) := by decide +kernel
theorem dX4_perform_18 : decode cX4_perform 18 = .ok (.iconst 2, 1) := by decide +kernel
theorem dX4_perform_19 : decode cX4_perform 19 = .ok (.iaload, 1) := by decide +kernel
theorem dX4_perform_20 : decode cX4_perform 20 = .ok (.istore 4, 2) := by decide +kernel
theorem dX4_perform_22 : decode cX4_perform 22 = .ok (.aload_n 0, 1) := by decide +kernel
theorem dX4_perform_23 : decode cX4_perform 23 = .ok (.getfield 22, 3) := by decide +kernel
theorem dX4_perform_26 : decode cX4_perform 26 = .ok (.iconst 3, 1) := by decide +kernel
theorem dX4_perform_27 : decode cX4_perform 27 = .ok (.iaload, 1) := by decide +kernel
theorem dX4_perform_28 : decode cX4_perform 28 = .ok (.istore 5, 2) := by decide +kernel
theorem dX4_perform_30 : decode cX4_perform 30 = .ok (.aload_n 0, 1) := by decide +kernel
theorem dX4_perform_31 : decode cX4_perform 31 = .ok (.getfield 19, 3) := by decide +kernel
theorem dX4_perform_34 : decode cX4_perform 34 = .ok (.tableswitch 114 0 6 #[42, 75, 81, 87, 94, 103, 114], 42) := by decide +kernel
theorem dX4_perform_76 : decode cX4_perform 76 = .ok (.aload_n 1, 1) := by decide +kernel
theorem dX4_perform_77 : decode cX4_perform 77 = .ok (.getfield 52, 3) := by decide +kernel
theorem dX4_perform_80 : decode cX4_perform 80 = .ok (.iload 5, 2) := by decide +kernel
theorem dX4_perform_82 : decode cX4_perform 82 = .ok (.invokevirtual 58, 3) := by decide +kernel
theorem dX4_perform_85 : decode cX4_perform 85 = .ok (.ifCond .eq 10, 3) := by decide +kernel
theorem dX4_perform_88 : decode cX4_perform 88 = .ok (.iconst 1, 1) := by decide +kernel
theorem dX4_perform_89 : decode cX4_perform 89 = .ok (.iload 5, 2) := by decide +kernel
theorem dX4_perform_91 : decode cX4_perform 91 = .ok (.ishl, 1) := by decide +kernel
theorem dX4_perform_92 : decode cX4_perform 92 = .ok (.goto 4, 3) := by decide +kernel
theorem dX4_perform_95 : decode cX4_perform 95 = .ok (.iconst 0, 1) := by decide +kernel
theorem dX4_perform_96 : decode cX4_perform 96 = .ok (.istore 6, 2) := by decide +kernel
theorem dX4_perform_98 : decode cX4_perform 98 = .ok (.aload_n 1, 1) := by decide +kernel
end
section
theorem dX4_perform_99 : decode cX4_perform 99 = .ok (.iload_n 2, 1) := by decide +kernel
theorem dX4_perform_100 : decode cX4_perform 100 = .ok (.iload_n 3, 1) := by decide +kernel
theorem dX4_perform_101 : decode cX4_perform 101 = .ok (.iload 4, 2) := by decide +kernel
theorem dX4_perform_103 : decode cX4_perform 103 = .ok (.iload 6, 2) := by decide +kernel
theorem dX4_perform_105 : decode cX4_perform 105 = .ok (.invokevirtual 63, 3) := by decide +kernel
theorem dX4_perform_108 : decode cX4_perform 108 = .ok (.ireturn, 1) := by decide +kernel
theorem dX4_perform_109 : decode cX4_perform 109 = .ok (.aload_n 1, 1) := by decide +kernel
theorem dX4_perform_110 : decode cX4_perform 110 = .ok (.iload_n 2, 1) := by decide +kernel
theorem dX4_perform_111 : decode cX4_perform 111 = .ok (.invokevirtual 67, 3) := by decide +kernel
theorem dX4_perform_114 : decode cX4_perform 114 = .ok (.ireturn, 1) := by decide +kernel
theorem dX4_perform_115 : decode cX4_perform 115 = .ok (.aload_n 1, 1) := by decide +kernel
theorem dX4_perform_116 : decode cX4_perform 116 = .ok (.iload_n 2, 1) := by decide +kernel
theorem dX4_perform_117 : decode cX4_perform 117 = .ok (.invokevirtual 71, 3) := by decide +kernel
theorem dX4_perform_120 : decode cX4_perform 120 = .ok (.ireturn, 1) := by decide +kernel
theorem dX4_perform_121 : decode cX4_perform 121 = .ok (.aload_n 1, 1) := by decide +kernel
theorem dX4_perform_122 : decode cX4_perform 122 = .ok (.iload_n 2, 1) := by decide +kernel
theorem dX4_perform_123 : decode cX4_perform 123 = .ok (.iload_n 3, 1) := by decide +kernel
theorem dX4_perform_124 : decode cX4_perform 124 = .ok (.invokevirtual 74, 3) := by decide +kernel
theorem dX4_perform_127 : decode cX4_perform 127 = .ok (.ireturn, 1) := by decide +kernel
theorem dX4_perform_128 : decode cX4_perform 128 = .ok (.aload_n 1, 1) := by decide +kernel
theorem dX4_perform_129 : decode cX4_perform 129 = .ok (.iload_n 2, 1) := by decide +kernel
theorem dX4_perform_130 : decode cX4_perform 130 = .ok (.iload_n 3, 1) := by decide +kernel
theorem dX4_perform_131 : decode cX4_perform 131 = .ok (.iload 4, 2) := by decide +kernel
theorem dX4_perform_133 : decode cX4_perform 133 = .ok (.invokevirtual 78, 3) := by decide +kernel
theorem dX4_perform_136 : decode cX4_perform 136 = .ok (.ireturn, 1) := by decide +kernel
theorem dX4_perform_137 : decode cX4_perform 137 = .ok (.aload_n 1, 1) := by decide +kernel
theorem dX4_perform_138 : decode cX4_perform 138 = .ok (.iload_n 2, 1) := by decide +kernel
theorem dX4_perform_139 : decode cX4_perform 139 = .ok (.iload_n 3, 1) := by decide +kernel
theorem dX4_perform_140 : decode cX4_perform 140 = .ok (.iload 4, 2) := by decide +kernel
theorem dX4_perform_142 : decode cX4_perform 142 = .ok (.iload 5, 2) := by decide +kernel
theorem dX4_perform_144 : decode cX4_perform 144 = .ok (.invokevirtual 82, 3) := by decide +kernel
theorem dX4_perform_147 : decode cX4_perform 147 = .ok (.ireturn, 1) := by decide +kernel
theorem dX4_perform_148 : decode cX4_perform 148 = .ok (.aload_n 1, 1) := by decide +kernel
theorem dX4_perform_149 : decode cX4_perform 149 = .ok (.iload_n 2, 1) := by decide +kernel
theorem dX4_perform_150 : decode cX4_perform 150 = .ok (.invokevirtual 85, 3) := by decide +kernel
theorem dX4_perform_153 : decode cX4_perform 153 = .ok (.ireturn, 1) := by decide +kernel
set_option maxRecDepth 20000 in
theorem ggX4_readCommand_X4_wordOf : GoodIn wsX4_readCommand wsX4_wordOf := goodIn_r _ [5] (by decide +kernel) (by decide +kernel)
set_option maxRecDepth 20000 in
theorem gX4_readCommand_X4_wordOf : GoodIn wsX4_readCommand (va_wsS RX4 88 yX4_wordOf wsX4_wordOf) := goodIn_app (goodIn_of _ (by decide +kernel)) ggX4_readCommand_X4_wordOf
set_option maxRecDepth 20000 in
theorem ggX4_readCommand_X4_isWordAt : GoodIn wsX4_readCommand wsX4_isWordAt := goodIn_r _ [9, 10, 11, 12, 13, 14, 15, 16, 17, 18, 19, 20, 21, 22, 23, 24, 4, 25, 26, 27, 28, 29, 30, 31, 32, 33, 34, 35, 36, 37, 38, 39, 40, 41, 42, 43, 44, 45, 46, 47, 48, 49, 50, 51, 52, 53, 54, 55, 56, 57, 58, 59, 60, 61, 62, 63, 64, 85, 86, 87, 88, 89, 90, 91, 92] (by decide +kernel) (by decide +kernel)
set_option maxRecDepth 20000 in
theorem gX4_readCommand_X4_isWordAt : GoodIn wsX4_readCommand (wsV RX4 92 RX4 yX4_isWordAt wsX4_isWordAt) := goodIn_app (goodIn_of _ (by decide +kernel)) ggX4_readCommand_X4_isWordAt
set_option maxRecDepth 20000 in
theorem ggX4_readCommand_J0_length_8abf5 : GoodIn wsX4_readCommand wsJ0_length_8abf5 := goodIn_r _ [14, 15, 16, 17, 18, 13, 19, 20, 21] (by decide +kernel) (by decide +kernel)
set_option maxRecDepth 20000 in
theorem gX4_readCommand_J0_length_8abf5 : GoodIn wsX4_readCommand (wsV RX4 96 RJ0 yJ0_length_8abf5 wsJ0_length_8abf5) := goodIn_app (goodIn_of _ (by decide +kernel)) ggX4_readCommand_J0_length_8abf5
set_option maxRecDepth 20000 in
theorem ggX4_readCommand_X4_howManyNumbers : GoodIn wsX4_readCommand wsX4_howManyNumbers := goodIn_r _ [67] (by decide +kernel) (by decide +kernel)
set_option maxRecDepth 20000 in
theorem gX4_readCommand_X4_howManyNumbers : GoodIn wsX4_readCommand (va_wsS RX4 101 yX4_howManyNumbers wsX4_howManyNumbers) := goodIn_app (goodIn_of _ (by decide +kernel)) ggX4_readCommand_X4_howManyNumbers
set_option maxRecDepth 20000 in
theorem ggX4_readCommand_X4_readNumbers : GoodIn wsX4_readCommand wsX4_readNumbers := goodIn_r _ [71, 72, 73, 74, 75, 76, 4, 77, 22, 23, 24, 25, 26, 27, 78, 79, 80, 81, 82, 83, 84, 85, 86, 87, 88, 89, 90, 91, 92] (by decide +kernel) (by decide +kernel)
set_option maxRecDepth 20000 in
theorem gX4_readCommand_X4_readNumbers : GoodIn wsX4_readCommand (wsV RX4 104 RX4 yX4_readNumbers wsX4_readNumbers) := goodIn_app (goodIn_of _ (by decide +kernel)) ggX4_readCommand_X4_readNumbers
theorem dX4_readCommand_0 : decode cX4_readCommand 0 = .ok (.iconst 0, 1) := by decide +kernel
theorem dX4_readCommand_1 : decode cX4_readCommand 1 = .ok (.istore_n 2, 1) := by decide +kernel
theorem dX4_readCommand_2 : decode cX4_readCommand 2 = .ok (.iload_n 2, 1) := by decide +kernel
theorem dX4_readCommand_3 : decode cX4_readCommand 3 = .ok (.bipush 7, 2) := by decide +kernel
theorem dX4_readCommand_5 : decode cX4_readCommand 5 = .ok (.if_icmp .ge 43, 3) := by decide +kernel
theorem dX4_readCommand_8 : decode cX4_readCommand 8 = .ok (.iload_n 2, 1) := by decide +kernel
theorem dX4_readCommand_9 : decode cX4_readCommand 9 = .ok (.invokestatic 88, 3) := by decide +kernel
theorem dX4_readCommand_12 : decode cX4_readCommand 12 = .ok (.astore_n 3, 1) := by decide +kernel
theorem dX4_readCommand_13 : decode cX4_readCommand 13 = .ok (.aload_n 0, 1) := by decide +kernel
theorem dX4_readCommand_14 : decode cX4_readCommand 14 = .ok (.iload_n 1, 1) := by decide +kernel
theorem dX4_readCommand_15 : decode cX4_readCommand 15 = .ok (.aload_n 3, 1) := by decide +kernel
theorem dX4_readCommand_16 : decode cX4_readCommand 16 = .ok (.invokevirtual 92, 3) := by decide +kernel
theorem dX4_readCommand_19 : decode cX4_readCommand 19 = .ok (.ifCond .eq 23, 3) := by decide +kernel
theorem dX4_readCommand_22 : decode cX4_readCommand 22 = .ok (.aload_n 0, 1) := by decide +kernel
theorem dX4_readCommand_23 : decode cX4_readCommand 23 = .ok (.iload_n 2, 1) := by decide +kernel
theorem dX4_readCommand_24 : decode cX4_readCommand 24 = .ok (.putfield 19, 3) := by decide +kernel
theorem dX4_readCommand_27 : decode cX4_readCommand 27 = .ok (.aload_n 0, 1) := by decide +kernel
theorem dX4_readCommand_28 : decode cX4_readCommand 28 = .ok (.iload_n 1, 1) := by decide +kernel
theorem dX4_readCommand_29 : decode cX4_readCommand 29 = .ok (.aload_n 3, 1) := by decide +kernel
theorem dX4_readCommand_30 : decode cX4_readCommand 30 = .ok (.invokevirtual 96, 3) := by decide +kernel
theorem dX4_readCommand_33 : decode cX4_readCommand 33 = .ok (.iadd, 1) := by decide +kernel
theorem dX4_readCommand_34 : decode cX4_readCommand 34 = .ok (.iload_n 2, 1) := by decide +kernel
theorem dX4_readCommand_35 : decode cX4_readCommand 35 = .ok (.invokestatic 101, 3) := by decide +kernel
theorem dX4_readCommand_38 : decode cX4_readCommand 38 = .ok (.invokevirtual 104, 3) := by decide +kernel
theorem dX4_readCommand_41 : decode cX4_readCommand 41 = .ok (.ireturn, 1) := by decide +kernel
theorem dX4_readCommand_42 : decode cX4_readCommand 42 = .ok (.iinc 2 1, 3) := by decide +kernel
theorem dX4_readCommand_45 : decode cX4_readCommand 45 = .ok (.goto (-43), 3) := by decide +kernel
theorem dX4_readCommand_48 : decode cX4_readCommand 48 = .ok (.iconst 0, 1) := by decide +kernel
theorem dX4_readCommand_49 : decode cX4_readCommand 49 = .ok (.ireturn, 1) := by decide +kernel
theorem dX4_wordOf_0 : decode cX4_wordOf 0 = .ok (.iload_n 0, 1) := by decide +kernel
theorem dX4_wordOf_1 : decode cX4_wordOf 1 = .ok (.tableswitch 61 0 6 #[43, 46, 49, 52, 55, 58, 61], 43) := by decide +kernel
theorem dX4_wordOf_44 : decode cX4_wordOf 44 = .ok (.ldc 108, 2) := by decide +kernel
theorem dX4_wordOf_46 : decode cX4_wordOf 46 = .ok (.areturn, 1) := by decide +kernel
theorem dX4_wordOf_47 : decode cX4_wordOf 47 = .ok (.ldc 110, 2) := by decide +kernel
theorem dX4_wordOf_49 : decode cX4_wordOf 49 = .ok (.areturn, 1) := by decide +kernel
theorem dX4_wordOf_50 : decode cX4_wordOf 50 = .ok (.ldc 112, 2) := by decide +kernel
theorem dX4_wordOf_52 : decode cX4_wordOf 52 = .ok (.areturn, 1) := by decide +kernel
theorem dX4_wordOf_53 : decode cX4_wordOf 53 = .ok (.ldc 114, 2) := by decide +kernel
theorem dX4_wordOf_55 : decode cX4_wordOf 55 = .ok (.areturn, 1) := by decide +kernel
theorem dX4_wordOf_56 : decode cX4_wordOf 56 = .ok (.ldc 116, 2) := by decide +kernel
theorem dX4_wordOf_58 : decode cX4_wordOf 58 = .ok (.areturn, 1) := by decide +kernel
theorem dX4_wordOf_59 : decode cX4_wordOf 59 = .ok (.ldc 118, 2) := by decide +kernel
theorem dX4_wordOf_61 : decode cX4_wordOf 61 = .ok (.areturn, 1) := by decide +kernel
theorem dX4_wordOf_62 : decode cX4_wordOf 62 = .ok (.ldc 120, 2) := by decide +kernel
theorem dX4_wordOf_64 : decode cX4_wordOf 64 = .ok (.areturn, 1) := by decide +kernel
theorem dX4_howManyNumbers_0 : decode cX4_howManyNumbers 0 = .ok (.iload_n 0, 1) := by decide +kernel
theorem dX4_howManyNumbers_1 : decode cX4_howManyNumbers 1 = .ok (.tableswitch 49 0 6 #[43, 49, 49, 47, 45, 43, 49], 43) := by decide +kernel
theorem dX4_howManyNumbers_44 : decode cX4_howManyNumbers 44 = .ok (.iconst 4, 1) := by decide +kernel
theorem dX4_howManyNumbers_45 : decode cX4_howManyNumbers 45 = .ok (.ireturn, 1) := by decide +kernel
theorem dX4_howManyNumbers_46 : decode cX4_howManyNumbers 46 = .ok (.iconst 3, 1) := by decide +kernel
theorem dX4_howManyNumbers_47 : decode cX4_howManyNumbers 47 = .ok (.ireturn, 1) := by decide +kernel
theorem dX4_howManyNumbers_48 : decode cX4_howManyNumbers 48 = .ok (.iconst 2, 1) := by decide +kernel
theorem dX4_howManyNumbers_49 : decode cX4_howManyNumbers 49 = .ok (.ireturn, 1) := by decide +kernel
theorem dX4_howManyNumbers_50 : decode cX4_howManyNumbers 50 = .ok (.iconst 1, 1) := by decide +kernel
theorem dX4_howManyNumbers_51 : decode cX4_howManyNumbers 51 = .ok (.ireturn, 1) := by decide +kernel
set_option maxRecDepth 20000 in
theorem ggX4_isWordAt_J0_length_8abf5 : GoodIn wsX4_isWordAt wsJ0_length_8abf5 := goodIn_r _ [5, 6, 7, 8, 9, 4, 10, 11, 12] (by decide +kernel) (by decide +kernel)
set_option maxRecDepth 20000 in
theorem gX4_isWordAt_J0_length_8abf5 : GoodIn wsX4_isWordAt (wsV RX4 96 RJ0 yJ0_length_8abf5 wsJ0_length_8abf5) := goodIn_app (goodIn_of _ (by decide +kernel)) ggX4_isWordAt_J0_length_8abf5
set_option maxRecDepth 20000 in
theorem ggX4_isWordAt_X4_signAt : GoodIn wsX4_isWordAt wsX4_signAt := goodIn_r _ [17, 18, 19, 57, 58, 59, 60, 61, 62, 63, 64] (by decide +kernel) (by decide +kernel)
set_option maxRecDepth 20000 in
theorem gX4_isWordAt_X4_signAt : GoodIn wsX4_isWordAt (wsV RX4 122 RX4 yX4_signAt wsX4_signAt) := goodIn_app (goodIn_of _ (by decide +kernel)) ggX4_isWordAt_X4_signAt
set_option maxRecDepth 20000 in
theorem ggX4_isWordAt_J0_charAt_5068e : GoodIn wsX4_isWordAt wsJ0_charAt_5068e := goodIn_r _ [23, 6, 24, 25, 26, 4, 27, 11, 12, 28, 29, 30, 31, 32, 33, 34, 35, 36, 37, 38, 39, 40, 41, 42, 43, 44, 45, 46, 47, 48, 49, 50, 51, 52, 53, 54, 55, 56] (by decide +kernel) (by decide +kernel)
set_option maxRecDepth 20000 in
theorem gX4_isWordAt_J0_charAt_5068e : GoodIn wsX4_isWordAt (wsV RX4 126 RJ0 yJ0_charAt_5068e wsJ0_charAt_5068e) := goodIn_app (goodIn_of _ (by decide +kernel)) ggX4_isWordAt_J0_charAt_5068e
theorem dX4_isWordAt_0 : decode cX4_isWordAt 0 = .ok (.iconst 0, 1) := by decide +kernel
theorem dX4_isWordAt_1 : decode cX4_isWordAt 1 = .ok (.istore_n 3, 1) := by decide +kernel
theorem dX4_isWordAt_2 : decode cX4_isWordAt 2 = .ok (.iload_n 3, 1) := by decide +kernel
theorem dX4_isWordAt_3 : decode cX4_isWordAt 3 = .ok (.aload_n 2, 1) := by decide +kernel
theorem dX4_isWordAt_4 : decode cX4_isWordAt 4 = .ok (.invokevirtual 96, 3) := by decide +kernel
theorem dX4_isWordAt_7 : decode cX4_isWordAt 7 = .ok (.if_icmp .ge 26, 3) := by decide +kernel
theorem dX4_isWordAt_10 : decode cX4_isWordAt 10 = .ok (.aload_n 0, 1) := by decide +kernel
theorem dX4_isWordAt_11 : decode cX4_isWordAt 11 = .ok (.iload_n 1, 1) := by decide +kernel
theorem dX4_isWordAt_12 : decode cX4_isWordAt 12 = .ok (.iload_n 3, 1) := by decide +kernel
theorem dX4_isWordAt_13 : decode cX4_isWordAt 13 = .ok (.iadd, 1) := by decide +kernel
theorem dX4_isWordAt_14 : decode cX4_isWordAt 14 = .ok (.invokevirtual 122, 3) := by decide +kernel
theorem dX4_isWordAt_17 : decode cX4_isWordAt 17 = .ok (.aload_n 2, 1) := by decide +kernel
theorem dX4_isWordAt_18 : decode cX4_isWordAt 18 = .ok (.iload_n 3, 1) := by decide +kernel
theorem dX4_isWordAt_19 : decode cX4_isWordAt 19 = .ok (.invokevirtual 126, 3) := by decide +kernel
theorem dX4_isWordAt_22 : decode cX4_isWordAt 22 = .ok (.if_icmp .eq 5, 3) := by decide +kernel
theorem dX4_isWordAt_25 : decode cX4_isWordAt 25 = .ok (.iconst 0, 1) := by decide +kernel
theorem dX4_isWordAt_26 : decode cX4_isWordAt 26 = .ok (.ireturn, 1) := by decide +kernel
theorem dX4_isWordAt_27 : decode cX4_isWordAt 27 = .ok (.iinc 3 1, 3) := by decide +kernel
theorem dX4_isWordAt_30 : decode cX4_isWordAt 30 = .ok (.goto (-28), 3) := by decide +kernel
theorem dX4_isWordAt_33 : decode cX4_isWordAt 33 = .ok (.iconst 1, 1) := by decide +kernel
theorem dX4_isWordAt_34 : decode cX4_isWordAt 34 = .ok (.ireturn, 1) := by decide +kernel
set_option maxRecDepth 20000 in
theorem ggX4_readNumbers_X4_digitsAt : GoodIn wsX4_readNumbers wsX4_digitsAt := goodIn_r _ [7, 8, 9, 10, 6, 11, 12, 13, 14, 15, 16, 21, 22, 23, 24, 25, 26, 27, 28] (by decide +kernel) (by decide +kernel)
set_option maxRecDepth 20000 in
theorem gX4_readNumbers_X4_digitsAt : GoodIn wsX4_readNumbers (wsV RX4 129 RX4 yX4_digitsAt wsX4_digitsAt) := goodIn_app (goodIn_of _ (by decide +kernel)) ggX4_readNumbers_X4_digitsAt
set_option maxRecDepth 20000 in
theorem ggX4_readNumbers_X4_signAt : GoodIn wsX4_readNumbers wsX4_signAt := goodIn_r _ [11, 12, 13, 21, 22, 23, 24, 25, 26, 27, 28] (by decide +kernel) (by decide +kernel)
set_option maxRecDepth 20000 in
theorem gX4_readNumbers_X4_signAt : GoodIn wsX4_readNumbers (wsV RX4 122 RX4 yX4_signAt wsX4_signAt) := goodIn_app (goodIn_of _ (by decide +kernel)) ggX4_readNumbers_X4_signAt
set_option maxRecDepth 20000 in
theorem ggX4_readNumbers_X4_valueAt : GoodIn wsX4_readNumbers wsX4_valueAt := goodIn_r _ [20, 8, 9, 10, 6, 11, 12, 13, 21, 22, 23, 24, 25, 26, 27, 28] (by decide +kernel) (by decide +kernel)
set_option maxRecDepth 20000 in
theorem gX4_readNumbers_X4_valueAt : GoodIn wsX4_readNumbers (wsV RX4 132 RX4 yX4_valueAt wsX4_valueAt) := goodIn_app (goodIn_of _ (by decide +kernel)) ggX4_readNumbers_X4_valueAt
theorem dX4_readNumbers_0 : decode cX4_readNumbers 0 = .ok (.iload_n 1, 1) := by decide +kernel
theorem dX4_readNumbers_1 : decode cX4_readNumbers 1 = .ok (.istore_n 3, 1) := by decide +kernel
theorem dX4_readNumbers_2 : decode cX4_readNumbers 2 = .ok (.iconst 0, 1) := by decide +kernel
theorem dX4_readNumbers_3 : decode cX4_readNumbers 3 = .ok (.istore 4, 2) := by decide +kernel
theorem dX4_readNumbers_5 : decode cX4_readNumbers 5 = .ok (.iload 4, 2) := by decide +kernel
theorem dX4_readNumbers_7 : decode cX4_readNumbers 7 = .ok (.iload_n 2, 1) := by decide +kernel
theorem dX4_readNumbers_8 : decode cX4_readNumbers 8 = .ok (.if_icmp .ge 68, 3) := by decide +kernel
theorem dX4_readNumbers_11 : decode cX4_readNumbers 11 = .ok (.iload 4, 2) := by decide +kernel
theorem dX4_readNumbers_13 : decode cX4_readNumbers 13 = .ok (.aload_n 0, 1) := by decide +kernel
theorem dX4_readNumbers_14 : decode cX4_readNumbers 14 = .ok (.getfield 22, 3) := by decide +kernel
theorem dX4_readNumbers_17 : decode cX4_readNumbers 17 = .ok (.arraylength, 1) := by decide +kernel
theorem dX4_readNumbers_18 : decode cX4_readNumbers 18 = .ok (.if_icmp .ge 58, 3) := by decide +kernel
theorem dX4_readNumbers_21 : decode cX4_readNumbers 21 = .ok (.aload_n 0, 1) := by decide +kernel
theorem dX4_readNumbers_22 : decode cX4_readNumbers 22 = .ok (.iload_n 3, 1) := by decide +kernel
theorem dX4_readNumbers_23 : decode cX4_readNumbers 23 = .ok (.iconst 1, 1) := by decide +kernel
theorem dX4_readNumbers_24 : decode cX4_readNumbers 24 = .ok (.iadd, 1) := by decide +kernel
theorem dX4_readNumbers_25 : decode cX4_readNumbers 25 = .ok (.invokevirtual 129, 3) := by decide +kernel
theorem dX4_readNumbers_28 : decode cX4_readNumbers 28 = .ok (.istore 5, 2) := by decide +kernel
theorem dX4_readNumbers_30 : decode cX4_readNumbers 30 = .ok (.aload_n 0, 1) := by decide +kernel
theorem dX4_readNumbers_31 : decode cX4_readNumbers 31 = .ok (.iload_n 3, 1) := by decide +kernel
theorem dX4_readNumbers_32 : decode cX4_readNumbers 32 = .ok (.invokevirtual 122, 3) := by decide +kernel
theorem dX4_readNumbers_35 : decode cX4_readNumbers 35 = .ok (.bipush 32, 2) := by decide +kernel
theorem dX4_readNumbers_37 : decode cX4_readNumbers 37 = .ok (.if_icmp .ne 8, 3) := by decide +kernel
theorem dX4_readNumbers_40 : decode cX4_readNumbers 40 = .ok (.iload 5, 2) := by decide +kernel
theorem dX4_readNumbers_42 : decode cX4_readNumbers 42 = .ok (.ifCond .ne 5, 3) := by decide +kernel
theorem dX4_readNumbers_45 : decode cX4_readNumbers 45 = .ok (.iconst 0, 1) := by decide +kernel
theorem dX4_readNumbers_46 : decode cX4_readNumbers 46 = .ok (.ireturn, 1) := by decide +kernel
theorem dX4_readNumbers_47 : decode cX4_readNumbers 47 = .ok (.aload_n 0, 1) := by decide +kernel
theorem dX4_readNumbers_48 : decode cX4_readNumbers 48 = .ok (.getfield 22, 3) := by decide +kernel
theorem dX4_readNumbers_51 : decode cX4_readNumbers 51 = .ok (.iload 4, 2) := by decide +kernel
theorem dX4_readNumbers_53 : decode cX4_readNumbers 53 = .ok (.aload_n 0, 1) := by decide +kernel
theorem dX4_readNumbers_54 : decode cX4_readNumbers 54 = .ok (.iload_n 3, 1) := by decide +kernel
theorem dX4_readNumbers_55 : decode cX4_readNumbers 55 = .ok (.iconst 1, 1) := by decide +kernel
theorem dX4_readNumbers_56 : decode cX4_readNumbers 56 = .ok (.iadd, 1) := by decide +kernel
theorem dX4_readNumbers_57 : decode cX4_readNumbers 57 = .ok (.iload 5, 2) := by decide +kernel
theorem dX4_readNumbers_59 : decode cX4_readNumbers 59 = .ok (.invokevirtual 132, 3) := by decide +kernel
theorem dX4_readNumbers_62 : decode cX4_readNumbers 62 = .ok (.iastore, 1) := by decide +kernel
theorem dX4_readNumbers_63 : decode cX4_readNumbers 63 = .ok (.iload_n 3, 1) := by decide +kernel
theorem dX4_readNumbers_64 : decode cX4_readNumbers 64 = .ok (.iconst 1, 1) := by decide +kernel
theorem dX4_readNumbers_65 : decode cX4_readNumbers 65 = .ok (.iload 5, 2) := by decide +kernel
theorem dX4_readNumbers_67 : decode cX4_readNumbers 67 = .ok (.iadd, 1) := by decide +kernel
theorem dX4_readNumbers_68 : decode cX4_readNumbers 68 = .ok (.iadd, 1) := by decide +kernel
theorem dX4_readNumbers_69 : decode cX4_readNumbers 69 = .ok (.istore_n 3, 1) := by decide +kernel
theorem dX4_readNumbers_70 : decode cX4_readNumbers 70 = .ok (.iinc 4 1, 3) := by decide +kernel
theorem dX4_readNumbers_73 : decode cX4_readNumbers 73 = .ok (.goto (-68), 3) := by decide +kernel
theorem dX4_readNumbers_76 : decode cX4_readNumbers 76 = .ok (.aload_n 0, 1) := by decide +kernel
theorem dX4_readNumbers_77 : decode cX4_readNumbers 77 = .ok (.iload_n 3, 1) := by decide +kernel
theorem dX4_readNumbers_78 : decode cX4_readNumbers 78 = .ok (.iconst 1, 1) := by decide +kernel
theorem dX4_readNumbers_79 : decode cX4_readNumbers 79 = .ok (.iadd, 1) := by decide +kernel
theorem dX4_readNumbers_80 : decode cX4_readNumbers 80 = .ok (.putfield 26, 3) := by decide +kernel
theorem dX4_readNumbers_83 : decode cX4_readNumbers 83 = .ok (.aload_n 0, 1) := by decide +kernel
theorem dX4_readNumbers_84 : decode cX4_readNumbers 84 = .ok (.iload_n 3, 1) := by decide +kernel
theorem dX4_readNumbers_85 : decode cX4_readNumbers 85 = .ok (.invokevirtual 122, 3) := by decide +kernel
theorem dX4_readNumbers_88 : decode cX4_readNumbers 88 = .ok (.bipush 59, 2) := by decide +kernel
theorem dX4_readNumbers_90 : decode cX4_readNumbers 90 = .ok (.if_icmp .ne 7, 3) := by decide +kernel
theorem dX4_readNumbers_93 : decode cX4_readNumbers 93 = .ok (.iconst 1, 1) := by decide +kernel
theorem dX4_readNumbers_94 : decode cX4_readNumbers 94 = .ok (.goto 4, 3) := by decide +kernel
theorem dX4_readNumbers_97 : decode cX4_readNumbers 97 = .ok (.iconst 0, 1) := by decide +kernel
theorem dX4_readNumbers_98 : decode cX4_readNumbers 98 = .ok (.ireturn, 1) := by decide +kernel
set_option maxRecDepth 20000 in
theorem ggX4_digitsAt_X4_signAt : GoodIn wsX4_digitsAt wsX4_signAt := goodIn_r _ [5, 6, 7, 11, 12, 13, 14, 15, 16, 17, 18] (by decide +kernel) (by decide +kernel)
set_option maxRecDepth 20000 in
theorem gX4_digitsAt_X4_signAt : GoodIn wsX4_digitsAt (wsV RX4 122 RX4 yX4_signAt wsX4_signAt) := goodIn_app (goodIn_of _ (by decide +kernel)) ggX4_digitsAt_X4_signAt
set_option maxRecDepth 20000 in
theorem ggX4_digitsAt_X4_isDigit : GoodIn wsX4_digitsAt wsX4_isDigit := goodIn_r _ [10] (by decide +kernel) (by decide +kernel)
set_option maxRecDepth 20000 in
theorem gX4_digitsAt_X4_isDigit : GoodIn wsX4_digitsAt (va_wsS RX4 135 yX4_isDigit wsX4_isDigit) := goodIn_app (goodIn_of _ (by decide +kernel)) ggX4_digitsAt_X4_isDigit
theorem dX4_digitsAt_0 : decode cX4_digitsAt 0 = .ok (.iconst 0, 1) := by decide +kernel
theorem dX4_digitsAt_1 : decode cX4_digitsAt 1 = .ok (.istore_n 2, 1) := by decide +kernel
theorem dX4_digitsAt_2 : decode cX4_digitsAt 2 = .ok (.iload_n 2, 1) := by decide +kernel
theorem dX4_digitsAt_3 : decode cX4_digitsAt 3 = .ok (.iconst 4, 1) := by decide +kernel
theorem dX4_digitsAt_4 : decode cX4_digitsAt 4 = .ok (.if_icmp .ge 22, 3) := by decide +kernel
theorem dX4_digitsAt_7 : decode cX4_digitsAt 7 = .ok (.aload_n 0, 1) := by decide +kernel
theorem dX4_digitsAt_8 : decode cX4_digitsAt 8 = .ok (.iload_n 1, 1) := by decide +kernel
theorem dX4_digitsAt_9 : decode cX4_digitsAt 9 = .ok (.iload_n 2, 1) := by decide +kernel
theorem dX4_digitsAt_10 : decode cX4_digitsAt 10 = .ok (.iadd, 1) := by decide +kernel
theorem dX4_digitsAt_11 : decode cX4_digitsAt 11 = .ok (.invokevirtual 122, 3) := by decide +kernel
theorem dX4_digitsAt_14 : decode cX4_digitsAt 14 = .ok (.invokestatic 135, 3) := by decide +kernel
theorem dX4_digitsAt_17 : decode cX4_digitsAt 17 = .ok (.ifCond .eq 9, 3) := by decide +kernel
theorem dX4_digitsAt_20 : decode cX4_digitsAt 20 = .ok (.iinc 2 1, 3) := by decide +kernel
theorem dX4_digitsAt_23 : decode cX4_digitsAt 23 = .ok (.goto (-21), 3) := by decide +kernel
theorem dX4_digitsAt_26 : decode cX4_digitsAt 26 = .ok (.iload_n 2, 1) := by decide +kernel
theorem dX4_digitsAt_27 : decode cX4_digitsAt 27 = .ok (.ireturn, 1) := by decide +kernel
set_option maxRecDepth 20000 in
theorem ggX4_valueAt_X4_signAt : GoodIn wsX4_valueAt wsX4_signAt := goodIn_r _ [5, 6, 7, 8, 9, 10, 11, 12, 13, 14, 15] (by decide +kernel) (by decide +kernel)
set_option maxRecDepth 20000 in
theorem gX4_valueAt_X4_signAt : GoodIn wsX4_valueAt (wsV RX4 122 RX4 yX4_signAt wsX4_signAt) := goodIn_app (goodIn_of _ (by decide +kernel)) ggX4_valueAt_X4_signAt
theorem dX4_valueAt_0 : decode cX4_valueAt 0 = .ok (.iconst 0, 1) := by decide +kernel
theorem dX4_valueAt_1 : decode cX4_valueAt 1 = .ok (.istore_n 3, 1) := by decide +kernel
theorem dX4_valueAt_2 : decode cX4_valueAt 2 = .ok (.iconst 0, 1) := by decide +kernel
theorem dX4_valueAt_3 : decode cX4_valueAt 3 = .ok (.istore 4, 2) := by decide +kernel
theorem dX4_valueAt_5 : decode cX4_valueAt 5 = .ok (.iload 4, 2) := by decide +kernel
theorem dX4_valueAt_7 : decode cX4_valueAt 7 = .ok (.iload_n 2, 1) := by decide +kernel
theorem dX4_valueAt_8 : decode cX4_valueAt 8 = .ok (.if_icmp .ge 26, 3) := by decide +kernel
theorem dX4_valueAt_11 : decode cX4_valueAt 11 = .ok (.bipush 10, 2) := by decide +kernel
theorem dX4_valueAt_13 : decode cX4_valueAt 13 = .ok (.iload_n 3, 1) := by decide +kernel
theorem dX4_valueAt_14 : decode cX4_valueAt 14 = .ok (.imul, 1) := by decide +kernel
theorem dX4_valueAt_15 : decode cX4_valueAt 15 = .ok (.aload_n 0, 1) := by decide +kernel
theorem dX4_valueAt_16 : decode cX4_valueAt 16 = .ok (.iload_n 1, 1) := by decide +kernel
theorem dX4_valueAt_17 : decode cX4_valueAt 17 = .ok (.iload 4, 2) := by decide +kernel
theorem dX4_valueAt_19 : decode cX4_valueAt 19 = .ok (.iadd, 1) := by decide +kernel
theorem dX4_valueAt_20 : decode cX4_valueAt 20 = .ok (.invokevirtual 122, 3) := by decide +kernel
theorem dX4_valueAt_23 : decode cX4_valueAt 23 = .ok (.iadd, 1) := by decide +kernel
theorem dX4_valueAt_24 : decode cX4_valueAt 24 = .ok (.bipush 48, 2) := by decide +kernel
theorem dX4_valueAt_26 : decode cX4_valueAt 26 = .ok (.isub, 1) := by decide +kernel
theorem dX4_valueAt_27 : decode cX4_valueAt 27 = .ok (.istore_n 3, 1) := by decide +kernel
theorem dX4_valueAt_28 : decode cX4_valueAt 28 = .ok (.iinc 4 1, 3) := by decide +kernel
theorem dX4_valueAt_31 : decode cX4_valueAt 31 = .ok (.goto (-26), 3) := by decide +kernel
theorem dX4_valueAt_34 : decode cX4_valueAt 34 = .ok (.iload_n 3, 1) := by decide +kernel
theorem dX4_valueAt_35 : decode cX4_valueAt 35 = .ok (.ireturn, 1) := by decide +kernel
theorem dX4_isDigit_0 : decode cX4_isDigit 0 = .ok (.iload_n 0, 1) := by decide +kernel
theorem dX4_isDigit_1 : decode cX4_isDigit 1 = .ok (.bipush 48, 2) := by decide +kernel
theorem dX4_isDigit_3 : decode cX4_isDigit 3 = .ok (.if_icmp .lt 13, 3) := by decide +kernel
theorem dX4_isDigit_6 : decode cX4_isDigit 6 = .ok (.iload_n 0, 1) := by decide +kernel
theorem dX4_isDigit_7 : decode cX4_isDigit 7 = .ok (.bipush 57, 2) := by decide +kernel
theorem dX4_isDigit_9 : decode cX4_isDigit 9 = .ok (.if_icmp .gt 7, 3) := by decide +kernel
theorem dX4_isDigit_12 : decode cX4_isDigit 12 = .ok (.iconst 1, 1) := by decide +kernel
theorem dX4_isDigit_13 : decode cX4_isDigit 13 = .ok (.goto 4, 3) := by decide +kernel
theorem dX4_isDigit_16 : decode cX4_isDigit 16 = .ok (.iconst 0, 1) := by decide +kernel
theorem dX4_isDigit_17 : decode cX4_isDigit 17 = .ok (.ireturn, 1) := by decide +kernel
theorem dX4_signAt_0 : decode cX4_signAt 0 = .ok (.iload_n 1, 1) := by decide +kernel
theorem dX4_signAt_1 : decode cX4_signAt 1 = .ok (.ifCond .lt 26, 3) := by decide +kernel
theorem dX4_signAt_4 : decode cX4_signAt 4 = .ok (.iload_n 1, 1) := by decide +kernel
theorem dX4_signAt_5 : decode cX4_signAt 5 = .ok (.aload_n 0, 1) := by decide +kernel
theorem dX4_signAt_6 : decode cX4_signAt 6 = .ok (.getfield 15, 3) := by decide +kernel
theorem dX4_signAt_9 : decode cX4_signAt 9 = .ok (.if_icmp .ge 18, 3) := by decide +kernel
theorem dX4_signAt_12 : decode cX4_signAt 12 = .ok (.iload_n 1, 1) := by decide +kernel
theorem dX4_signAt_13 : decode cX4_signAt 13 = .ok (.bipush 60, 2) := by decide +kernel
theorem dX4_signAt_15 : decode cX4_signAt 15 = .ok (.if_icmp .ge 12, 3) := by decide +kernel
theorem dX4_signAt_18 : decode cX4_signAt 18 = .ok (.aload_n 0, 1) := by decide +kernel
theorem dX4_signAt_19 : decode cX4_signAt 19 = .ok (.getfield 11, 3) := by decide +kernel
theorem dX4_signAt_22 : decode cX4_signAt 22 = .ok (.iload_n 1, 1) := by decide +kernel
theorem dX4_signAt_23 : decode cX4_signAt 23 = .ok (.caload, 1) := by decide +kernel
theorem dX4_signAt_24 : decode cX4_signAt 24 = .ok (.goto 4, 3) := by decide +kernel
theorem dX4_signAt_27 : decode cX4_signAt 27 = .ok (.iconst 0, 1) := by decide +kernel
theorem dX4_signAt_28 : decode cX4_signAt 28 = .ok (.ireturn, 1) := by decide +kernel
theorem dX5_init_0 : decode cX5_init 0 = .ok (.aload_n 0, 1) := by decide +kernel
theorem dX5_init_1 : decode cX5_init 1 = .ok (.invokespecial 3, 3) := by decide +kernel
theorem dX5_init_4 : decode cX5_init 4 = .ok (.aload_n 0, 1) := by decide +kernel
theorem dX5_init_5 : decode cX5_init 5 = .ok (.iconst 0, 1) := by decide +kernel
theorem dX5_init_6 : decode cX5_init 6 = .ok (.putfield 9, 3) := by decide +kernel
theorem dX5_init_9 : decode cX5_init 9 = .ok (.aload_n 0, 1) := by decide +kernel
theorem dX5_init_10 : decode cX5_init 10 = .ok (.bipush 20, 2) := by decide +kernel
theorem dX5_init_12 : decode cX5_init 12 = .ok (.newarray .int, 2) := by decide +kernel
theorem dX5_init_14 : decode cX5_init 14 = .ok (.putfield 15, 3) := by decide +kernel
theorem dX5_init_17 : decode cX5_init 17 = .ok (.aload_n 0, 1) := by decide +kernel
theorem dX5_init_18 : decode cX5_init 18 = .ok (.bipush 20, 2) := by decide +kernel
theorem dX5_init_20 : decode cX5_init 20 = .ok (.newarray .int, 2) := by decide +kernel
theorem dX5_init_22 : decode cX5_init 22 = .ok (.putfield 19, 3) := by decide +kernel
theorem dX5_init_25 : decode cX5_init 25 = .ok (.aload_n 0, 1) := by decide +kernel
theorem dX5_init_26 : decode cX5_init 26 = .ok (.bipush 20, 2) := by decide +kernel
theorem dX5_init_28 : decode cX5_init 28 = .ok (.newarray .int, 2) := by decide +kernel
theorem dX5_init_30 : decode cX5_init 30 = .ok (.putfield 22, 3) := by decide +kernel
theorem dX5_init_33 : decode cX5_init 33 = .ok (.aload_n 0, 1) := by decide +kernel
theorem dX5_init_34 : decode cX5_init 34 = .ok (.bipush 20, 2) := by decide +kernel
theorem dX5_init_36 : decode cX5_init 36 = .ok (.newarray .int, 2) := by decide +kernel
theorem dX5_init_38 : decode cX5_init 38 = .ok (.putfield 25, 3) := by decide +kernel
theorem dX5_init_41 : decode cX5_init 41 = .ok (.aload_n 0, 1) := by decide +kernel
theorem dX5_init_42 : decode cX5_init 42 = .ok (.bipush 20, 2) := by decide +kernel
theorem dX5_init_44 : decode cX5_init 44 = .ok (.newarray .int, 2) := by decide +kernel
theorem dX5_init_46 : decode cX5_init 46 = .ok (.putfield 28, 3) := by decide +kernel
theorem dX5_init_49 : decode cX5_init 49 = .ok (.aload_n 0, 1) := by decide +kernel
theorem dX5_init_50 : decode cX5_init 50 = .ok (.bipush 20, 2) := by decide +kernel
theorem dX5_init_52 : decode cX5_init 52 = .ok (.newarray .int, 2) := by decide +kernel
theorem dX5_init_54 : decode cX5_init 54 = .ok (.putfield 31, 3) := by decide +kernel
theorem dX5_init_57 : decode cX5_init 57 = .ok (.aload_n 0, 1) := by decide +kernel
theorem dX5_init_58 : decode cX5_init 58 = .ok (.bipush 20, 2) := by decide +kernel
theorem dX5_init_60 : decode cX5_init 60 = .ok (.newarray .int, 2) := by decide +kernel
theorem dX5_init_62 : decode cX5_init 62 = .ok (.putfield 34, 3) := by decide +kernel
theorem dX5_init_65 : decode cX5_init 65 = .ok (.aload_n 0, 1) := by decide +kernel
theorem dX5_init_66 : decode cX5_init 66 = .ok (.bipush 20, 2) := by decide +kernel
theorem dX5_init_68 : decode cX5_init 68 = .ok (.newarray .int, 2) := by decide +kernel
theorem dX5_init_70 : decode cX5_init 70 = .ok (.putfield 37, 3) := by decide +kernel
theorem dX5_init_73 : decode cX5_init 73 = .ok (.aload_n 0, 1) := by decide +kernel
theorem dX5_init_74 : decode cX5_init 74 = .ok (.bipush 20, 2) := by decide +kernel
theorem dX5_init_76 : decode cX5_init 76 = .ok (.newarray .int, 2) := by decide +kernel
theorem dX5_init_78 : decode cX5_init 78 = .ok (.putfield 40, 3) := by decide +kernel
theorem dX5_init_81 : decode cX5_init 81 = .ok (.return_, 1) := by decide +kernel
theorem dX5_has_0 : decode cX5_has 0 = .ok (.iload_n 1, 1) := by decide +kernel
theorem dX5_has_1 : decode cX5_has 1 = .ok (.ifCond .lt 21, 3) := by decide +kernel
theorem dX5_has_4 : decode cX5_has 4 = .ok (.iload_n 1, 1) := by decide +kernel
theorem dX5_has_5 : decode cX5_has 5 = .ok (.aload_n 0, 1) := by decide +kernel
theorem dX5_has_6 : decode cX5_has 6 = .ok (.getfield 9, 3) := by decide +kernel
theorem dX5_has_9 : decode cX5_has 9 = .ok (.if_icmp .ge 13, 3) := by decide +kernel
theorem dX5_has_12 : decode cX5_has 12 = .ok (.iload_n 1, 1) := by decide +kernel
theorem dX5_has_13 : decode cX5_has 13 = .ok (.bipush 20, 2) := by decide +kernel
theorem dX5_has_15 : decode cX5_has 15 = .ok (.if_icmp .ge 7, 3) := by decide +kernel
theorem dX5_has_18 : decode cX5_has 18 = .ok (.iconst 1, 1) := by decide +kernel
theorem dX5_has_19 : decode cX5_has 19 = .ok (.goto 4, 3) := by decide +kernel
theorem dX5_has_22 : decode cX5_has 22 = .ok (.iconst 0, 1) := by decide +kernel
theorem dX5_has_23 : decode cX5_has 23 = .ok (.ireturn, 1) := by decide +kernel
theorem dX5_add_0 : decode cX5_add 0 = .ok (.aload_n 0, 1) := by decide +kernel
theorem dX5_add_1 : decode cX5_add 1 = .ok (.getfield 9, 3) := by decide +kernel
theorem dX5_add_4 : decode cX5_add 4 = .ok (.ifCond .lt 12, 3) := by decide +kernel
theorem dX5_add_7 : decode cX5_add 7 = .ok (.aload_n 0, 1) := by decide +kernel
theorem dX5_add_8 : decode cX5_add 8 = .ok (.getfield 9, 3) := by decide +kernel
theorem dX5_add_11 : decode cX5_add 11 = .ok (.bipush 20, 2) := by decide +kernel
theorem dX5_add_13 : decode cX5_add 13 = .ok (.if_icmp .lt 5, 3) := by decide +kernel
theorem dX5_add_16 : decode cX5_add 16 = .ok (.iconst (-1), 1) := by decide +kernel
theorem dX5_add_17 : decode cX5_add 17 = .ok (.ireturn, 1) := by decide +kernel
theorem dX5_add_18 : decode cX5_add 18 = .ok (.aload_n 0, 1) := by decide +kernel
theorem dX5_add_19 : decode cX5_add 19 = .ok (.getfield 9, 3) := by decide +kernel
theorem dX5_add_22 : decode cX5_add 22 = .ok (.istore 5, 2) := by decide +kernel
theorem dX5_add_24 : decode cX5_add 24 = .ok (.aload_n 0, 1) := by decide +kernel
theorem dX5_add_25 : decode cX5_add 25 = .ok (.getfield 15, 3) := by decide +kernel
theorem dX5_add_28 : decode cX5_add 28 = .ok (.iload 5, 2) := by decide +kernel
theorem dX5_add_30 : decode cX5_add 30 = .ok (.iload_n 2, 1) := by decide +kernel
theorem dX5_add_31 : decode cX5_add 31 = .ok (.iastore, 1) := by decide +kernel
theorem dX5_add_32 : decode cX5_add 32 = .ok (.aload_n 0, 1) := by decide +kernel
theorem dX5_add_33 : decode cX5_add 33 = .ok (.getfield 19, 3) := by decide +kernel
theorem dX5_add_36 : decode cX5_add 36 = .ok (.iload 5, 2) := by decide +kernel
theorem dX5_add_38 : decode cX5_add 38 = .ok (.iload_n 3, 1) := by decide +kernel
theorem dX5_add_39 : decode cX5_add 39 = .ok (.iastore, 1) := by decide +kernel
theorem dX5_add_40 : decode cX5_add 40 = .ok (.aload_n 0, 1) := by decide +kernel
theorem dX5_add_41 : decode cX5_add 41 = .ok (.getfield 22, 3) := by decide +kernel
theorem dX5_add_44 : decode cX5_add 44 = .ok (.iload 5, 2) := by decide +kernel
theorem dX5_add_46 : decode cX5_add 46 = .ok (.iload 4, 2) := by decide +kernel
theorem dX5_add_48 : decode cX5_add 48 = .ok (.iastore, 1) := by decide +kernel
theorem dX5_add_49 : decode cX5_add 49 = .ok (.aload_n 0, 1) := by decide +kernel
theorem dX5_add_50 : decode cX5_add 50 = .ok (.getfield 25, 3) := by decide +kernel
theorem dX5_add_53 : decode cX5_add 53 = .ok (.iload 5, 2) := by decide +kernel
theorem dX5_add_55 : decode cX5_add 55 = .ok (.iload_n 1, 1) := by decide +kernel
theorem dX5_add_56 : decode cX5_add 56 = .ok (.iastore, 1) := by decide +kernel
theorem dX5_add_57 : decode cX5_add 57 = .ok (.aload_n 0, 1) := by decide +kernel
theorem dX5_add_58 : decode cX5_add 58 = .ok (.getfield 28, 3) := by decide +kernel
theorem dX5_add_61 : decode cX5_add 61 = .ok (.iload 5, 2) := by decide +kernel
theorem dX5_add_63 : decode cX5_add 63 = .ok (.iload_n 1, 1) := by decide +kernel
theorem dX5_add_64 : decode cX5_add 64 = .ok (.iastore, 1) := by decide +kernel
theorem dX5_add_65 : decode cX5_add 65 = .ok (.aload_n 0, 1) := by decide +kernel
theorem dX5_add_66 : decode cX5_add 66 = .ok (.getfield 31, 3) := by decide +kernel
theorem dX5_add_69 : decode cX5_add 69 = .ok (.iload 5, 2) := by decide +kernel
theorem dX5_add_71 : decode cX5_add 71 = .ok (.iconst (-1), 1) := by decide +kernel
theorem dX5_add_72 : decode cX5_add 72 = .ok (.iastore, 1) := by decide +kernel
theorem dX5_add_73 : decode cX5_add 73 = .ok (.aload_n 0, 1) := by decide +kernel
theorem dX5_add_74 : decode cX5_add 74 = .ok (.getfield 34, 3) := by decide +kernel
theorem dX5_add_77 : decode cX5_add 77 = .ok (.iload 5, 2) := by decide +kernel
theorem dX5_add_79 : decode cX5_add 79 = .ok (.iconst 0, 1) := by decide +kernel
theorem dX5_add_80 : decode cX5_add 80 = .ok (.iastore, 1) := by decide +kernel
theorem dX5_add_81 : decode cX5_add 81 = .ok (.aload_n 0, 1) := by decide +kernel
theorem dX5_add_82 : decode cX5_add 82 = .ok (.getfield 37, 3) := by decide +kernel
theorem dX5_add_85 : decode cX5_add 85 = .ok (.iload 5, 2) := by decide +kernel
theorem dX5_add_87 : decode cX5_add 87 = .ok (.iconst 0, 1) := by decide +kernel
theorem dX5_add_88 : decode cX5_add 88 = .ok (.iastore, 1) := by decide +kernel
theorem dX5_add_89 : decode cX5_add 89 = .ok (.aload_n 0, 1) := by decide +kernel
theorem dX5_add_90 : decode cX5_add 90 = .ok (.getfield 40, 3) := by decide +kernel
theorem dX5_add_93 : decode cX5_add 93 = .ok (.iload 5, 2) := by decide +kernel
theorem dX5_add_95 : decode cX5_add 95 = .ok (.iconst 0, 1) := by decide +kernel
theorem dX5_add_96 : decode cX5_add 96 = .ok (.iastore, 1) := by decide +kernel
theorem dX5_add_97 : decode cX5_add 97 = .ok (.aload_n 0, 1) := by decide +kernel
theorem dX5_add_98 : decode cX5_add 98 = .ok (.dup, 1) := by decide +kernel
theorem dX5_add_99 : decode cX5_add 99 = .ok (.getfield 9, 3) := by decide +kernel
theorem dX5_add_102 : decode cX5_add 102 = .ok (.iconst 1, 1) := by decide +kernel
theorem dX5_add_103 : decode cX5_add 103 = .ok (.iadd, 1) := by decide +kernel
theorem dX5_add_104 : decode cX5_add 104 = .ok (.putfield 9, 3) := by decide +kernel
theorem dX5_add_107 : decode cX5_add 107 = .ok (.iload 5, 2) := by decide +kernel
theorem dX5_add_109 : decode cX5_add 109 = .ok (.ireturn, 1) := by decide +kernel
theorem dX5_sieveOf_0 : decode cX5_sieveOf 0 = .ok (.aload_n 0, 1) := by decide +kernel
theorem dX5_sieveOf_1 : decode cX5_sieveOf 1 = .ok (.getfield 15, 3) := by decide +kernel
theorem dX5_sieveOf_4 : decode cX5_sieveOf 4 = .ok (.iload_n 1, 1) := by decide +kernel
theorem dX5_sieveOf_5 : decode cX5_sieveOf 5 = .ok (.iaload, 1) := by decide +kernel
theorem dX5_sieveOf_6 : decode cX5_sieveOf 6 = .ok (.istore_n 2, 1) := by decide +kernel
theorem dX5_sieveOf_7 : decode cX5_sieveOf 7 = .ok (.iload_n 2, 1) := by decide +kernel
theorem dX5_sieveOf_8 : decode cX5_sieveOf 8 = .ok (.bipush 10, 2) := by decide +kernel
theorem dX5_sieveOf_10 : decode cX5_sieveOf 10 = .ok (.if_icmp .ge 5, 3) := by decide +kernel
theorem dX5_sieveOf_13 : decode cX5_sieveOf 13 = .ok (.iconst 0, 1) := by decide +kernel
theorem dX5_sieveOf_14 : decode cX5_sieveOf 14 = .ok (.ireturn, 1) := by decide +kernel
theorem dX5_sieveOf_15 : decode cX5_sieveOf 15 = .ok (.iload_n 2, 1) := by decide +kernel
theorem dX5_sieveOf_16 : decode cX5_sieveOf 16 = .ok (.bipush 25, 2) := by decide +kernel
theorem dX5_sieveOf_18 : decode cX5_sieveOf 18 = .ok (.if_icmp .ge 5, 3) := by decide +kernel
theorem dX5_sieveOf_21 : decode cX5_sieveOf 21 = .ok (.iconst 1, 1) := by decide +kernel
theorem dX5_sieveOf_22 : decode cX5_sieveOf 22 = .ok (.ireturn, 1) := by decide +kernel
theorem dX5_sieveOf_23 : decode cX5_sieveOf 23 = .ok (.iload_n 2, 1) := by decide +kernel
theorem dX5_sieveOf_24 : decode cX5_sieveOf 24 = .ok (.bipush 50, 2) := by decide +kernel
theorem dX5_sieveOf_26 : decode cX5_sieveOf 26 = .ok (.if_icmp .ge 5, 3) := by decide +kernel
theorem dX5_sieveOf_29 : decode cX5_sieveOf 29 = .ok (.iconst 2, 1) := by decide +kernel
theorem dX5_sieveOf_30 : decode cX5_sieveOf 30 = .ok (.ireturn, 1) := by decide +kernel
theorem dX5_sieveOf_31 : decode cX5_sieveOf 31 = .ok (.iload_n 2, 1) := by decide +kernel
theorem dX5_sieveOf_32 : decode cX5_sieveOf 32 = .ok (.bipush 100, 2) := by decide +kernel
theorem dX5_sieveOf_34 : decode cX5_sieveOf 34 = .ok (.if_icmp .ge 7, 3) := by decide +kernel
theorem dX5_sieveOf_37 : decode cX5_sieveOf 37 = .ok (.iconst 3, 1) := by decide +kernel
theorem dX5_sieveOf_38 : decode cX5_sieveOf 38 = .ok (.goto 4, 3) := by decide +kernel
theorem dX5_sieveOf_41 : decode cX5_sieveOf 41 = .ok (.iconst 4, 1) := by decide +kernel
theorem dX5_sieveOf_42 : decode cX5_sieveOf 42 = .ok (.ireturn, 1) := by decide +kernel
theorem dX5_isOut_0 : decode cX5_isOut 0 = .ok (.aload_n 0, 1) := by decide +kernel
theorem dX5_isOut_1 : decode cX5_isOut 1 = .ok (.getfield 31, 3) := by decide +kernel
theorem dX5_isOut_4 : decode cX5_isOut 4 = .ok (.iload_n 1, 1) := by decide +kernel
theorem dX5_isOut_5 : decode cX5_isOut 5 = .ok (.iaload, 1) := by decide +kernel
theorem dX5_isOut_6 : decode cX5_isOut 6 = .ok (.iconst (-1), 1) := by decide +kernel
theorem dX5_isOut_7 : decode cX5_isOut 7 = .ok (.if_icmp .eq 7, 3) := by decide +kernel
theorem dX5_isOut_10 : decode cX5_isOut 10 = .ok (.iconst 1, 1) := by decide +kernel
theorem dX5_isOut_11 : decode cX5_isOut 11 = .ok (.goto 4, 3) := by decide +kernel
theorem dX5_isOut_14 : decode cX5_isOut 14 = .ok (.iconst 0, 1) := by decide +kernel
theorem dX5_isOut_15 : decode cX5_isOut 15 = .ok (.ireturn, 1) := by decide +kernel
theorem dX5_isSold_0 : decode cX5_isSold 0 = .ok (.aload_n 0, 1) := by decide +kernel
theorem dX5_isSold_1 : decode cX5_isSold 1 = .ok (.getfield 37, 3) := by decide +kernel
theorem dX5_isSold_4 : decode cX5_isSold 4 = .ok (.iload_n 1, 1) := by decide +kernel
theorem dX5_isSold_5 : decode cX5_isSold 5 = .ok (.iaload, 1) := by decide +kernel
theorem dX5_isSold_6 : decode cX5_isSold 6 = .ok (.ifCond .eq 7, 3) := by decide +kernel
theorem dX5_isSold_9 : decode cX5_isSold 9 = .ok (.iconst 1, 1) := by decide +kernel
theorem dX5_isSold_10 : decode cX5_isSold 10 = .ok (.goto 4, 3) := by decide +kernel
theorem dX5_isSold_13 : decode cX5_isSold 13 = .ok (.iconst 0, 1) := by decide +kernel
theorem dX5_isSold_14 : decode cX5_isSold 14 = .ok (.ireturn, 1) := by decide +kernel
theorem dX5_setWhere_0 : decode cX5_setWhere 0 = .ok (.iconst 0, 1) := by decide +kernel
theorem dX5_setWhere_1 : decode cX5_setWhere 1 = .ok (.istore_n 3, 1) := by decide +kernel
theorem dX5_setWhere_2 : decode cX5_setWhere 2 = .ok (.iconst 0, 1) := by decide +kernel
theorem dX5_setWhere_3 : decode cX5_setWhere 3 = .ok (.istore 4, 2) := by decide +kernel
theorem dX5_setWhere_5 : decode cX5_setWhere 5 = .ok (.iload 4, 2) := by decide +kernel
theorem dX5_setWhere_7 : decode cX5_setWhere 7 = .ok (.aload_n 0, 1) := by decide +kernel
theorem dX5_setWhere_8 : decode cX5_setWhere 8 = .ok (.getfield 9, 3) := by decide +kernel
theorem dX5_setWhere_11 : decode cX5_setWhere 11 = .ok (.if_icmp .ge 24, 3) := by decide +kernel
theorem dX5_setWhere_14 : decode cX5_setWhere 14 = .ok (.aload_n 1, 1) := by decide +kernel
theorem dX5_setWhere_15 : decode cX5_setWhere 15 = .ok (.iload 4, 2) := by decide +kernel
theorem dX5_setWhere_17 : decode cX5_setWhere 17 = .ok (.iaload, 1) := by decide +kernel
theorem dX5_setWhere_18 : decode cX5_setWhere 18 = .ok (.iload_n 2, 1) := by decide +kernel
theorem dX5_setWhere_19 : decode cX5_setWhere 19 = .ok (.if_icmp .ne 10, 3) := by decide +kernel
theorem dX5_setWhere_22 : decode cX5_setWhere 22 = .ok (.iload_n 3, 1) := by decide +kernel
theorem dX5_setWhere_23 : decode cX5_setWhere 23 = .ok (.iconst 1, 1) := by decide +kernel
theorem dX5_setWhere_24 : decode cX5_setWhere 24 = .ok (.iload 4, 2) := by decide +kernel
theorem dX5_setWhere_26 : decode cX5_setWhere 26 = .ok (.ishl, 1) := by decide +kernel
theorem dX5_setWhere_27 : decode cX5_setWhere 27 = .ok (.ior, 1) := by decide +kernel
theorem dX5_setWhere_28 : decode cX5_setWhere 28 = .ok (.istore_n 3, 1) := by decide +kernel
theorem dX5_setWhere_29 : decode cX5_setWhere 29 = .ok (.iinc 4 1, 3) := by decide +kernel
theorem dX5_setWhere_32 : decode cX5_setWhere 32 = .ok (.goto (-27), 3) := by decide +kernel
theorem dX5_setWhere_35 : decode cX5_setWhere 35 = .ok (.iload_n 3, 1) := by decide +kernel
theorem dX5_setWhere_36 : decode cX5_setWhere 36 = .ok (.ireturn, 1) := by decide +kernel
set_option maxRecDepth 20000 in
theorem ggX5_countSold_X5_isSold : GoodIn wsX5_countSold wsX5_isSold := goodIn_r _ [6, 7, 8, 9, 10, 11, 12, 13, 14, 15, 16, 17] (by decide +kernel) (by decide +kernel)
set_option maxRecDepth 20000 in
theorem gX5_countSold_X5_isSold : GoodIn wsX5_countSold (wsV RX5 43 RX5 yX5_isSold wsX5_isSold) := goodIn_app (goodIn_of _ (by decide +kernel)) ggX5_countSold_X5_isSold
theorem dX5_countSold_0 : decode cX5_countSold 0 = .ok (.iconst 0, 1) := by decide +kernel
theorem dX5_countSold_1 : decode cX5_countSold 1 = .ok (.istore_n 1, 1) := by decide +kernel
theorem dX5_countSold_2 : decode cX5_countSold 2 = .ok (.iconst 0, 1) := by decide +kernel
theorem dX5_countSold_3 : decode cX5_countSold 3 = .ok (.istore_n 2, 1) := by decide +kernel
theorem dX5_countSold_4 : decode cX5_countSold 4 = .ok (.iload_n 2, 1) := by decide +kernel
theorem dX5_countSold_5 : decode cX5_countSold 5 = .ok (.aload_n 0, 1) := by decide +kernel
theorem dX5_countSold_6 : decode cX5_countSold 6 = .ok (.getfield 9, 3) := by decide +kernel
theorem dX5_countSold_9 : decode cX5_countSold 9 = .ok (.if_icmp .ge 20, 3) := by decide +kernel
theorem dX5_countSold_12 : decode cX5_countSold 12 = .ok (.aload_n 0, 1) := by decide +kernel
theorem dX5_countSold_13 : decode cX5_countSold 13 = .ok (.iload_n 2, 1) := by decide +kernel
theorem dX5_countSold_14 : decode cX5_countSold 14 = .ok (.invokevirtual 43, 3) := by decide +kernel
theorem dX5_countSold_17 : decode cX5_countSold 17 = .ok (.ifCond .eq 6, 3) := by decide +kernel
theorem dX5_countSold_20 : decode cX5_countSold 20 = .ok (.iinc 1 1, 3) := by decide +kernel
theorem dX5_countSold_23 : decode cX5_countSold 23 = .ok (.iinc 2 1, 3) := by decide +kernel
theorem dX5_countSold_26 : decode cX5_countSold 26 = .ok (.goto (-22), 3) := by decide +kernel
theorem dX5_countSold_29 : decode cX5_countSold 29 = .ok (.iload_n 1, 1) := by decide +kernel
theorem dX5_countSold_30 : decode cX5_countSold 30 = .ok (.ireturn, 1) := by decide +kernel
set_option maxRecDepth 20000 in
theorem ggX5_countOut_X5_isOut : GoodIn wsX5_countOut wsX5_isOut := goodIn_r _ [6, 7, 8, 9, 10, 11, 12, 13, 14, 15, 16, 17] (by decide +kernel) (by decide +kernel)
set_option maxRecDepth 20000 in
theorem gX5_countOut_X5_isOut : GoodIn wsX5_countOut (wsV RX5 47 RX5 yX5_isOut wsX5_isOut) := goodIn_app (goodIn_of _ (by decide +kernel)) ggX5_countOut_X5_isOut
theorem dX5_countOut_0 : decode cX5_countOut 0 = .ok (.iconst 0, 1) := by decide +kernel
theorem dX5_countOut_1 : decode cX5_countOut 1 = .ok (.istore_n 1, 1) := by decide +kernel
theorem dX5_countOut_2 : decode cX5_countOut 2 = .ok (.iconst 0, 1) := by decide +kernel
theorem dX5_countOut_3 : decode cX5_countOut 3 = .ok (.istore_n 2, 1) := by decide +kernel
theorem dX5_countOut_4 : decode cX5_countOut 4 = .ok (.iload_n 2, 1) := by decide +kernel
theorem dX5_countOut_5 : decode cX5_countOut 5 = .ok (.aload_n 0, 1) := by decide +kernel
theorem dX5_countOut_6 : decode cX5_countOut 6 = .ok (.getfield 9, 3) := by decide +kernel
theorem dX5_countOut_9 : decode cX5_countOut 9 = .ok (.if_icmp .ge 20, 3) := by decide +kernel
theorem dX5_countOut_12 : decode cX5_countOut 12 = .ok (.aload_n 0, 1) := by decide +kernel
theorem dX5_countOut_13 : decode cX5_countOut 13 = .ok (.iload_n 2, 1) := by decide +kernel
theorem dX5_countOut_14 : decode cX5_countOut 14 = .ok (.invokevirtual 47, 3) := by decide +kernel
theorem dX5_countOut_17 : decode cX5_countOut 17 = .ok (.ifCond .eq 6, 3) := by decide +kernel
theorem dX5_countOut_20 : decode cX5_countOut 20 = .ok (.iinc 1 1, 3) := by decide +kernel
theorem dX5_countOut_23 : decode cX5_countOut 23 = .ok (.iinc 2 1, 3) := by decide +kernel
theorem dX5_countOut_26 : decode cX5_countOut 26 = .ok (.goto (-22), 3) := by decide +kernel
theorem dX5_countOut_29 : decode cX5_countOut 29 = .ok (.iload_n 1, 1) := by decide +kernel
theorem dX5_countOut_30 : decode cX5_countOut 30 = .ok (.ireturn, 1) := by decide +kernel
theorem dX5_sumSold_0 : decode cX5_sumSold 0 = .ok (.iconst 0, 1) := by decide +kernel
theorem dX5_sumSold_1 : decode cX5_sumSold 1 = .ok (.istore_n 1, 1) := by decide +kernel
theorem dX5_sumSold_2 : decode cX5_sumSold 2 = .ok (.iconst 0, 1) := by decide +kernel
theorem dX5_sumSold_3 : decode cX5_sumSold 3 = .ok (.istore_n 2, 1) := by decide +kernel
theorem dX5_sumSold_4 : decode cX5_sumSold 4 = .ok (.iload_n 2, 1) := by decide +kernel
theorem dX5_sumSold_5 : decode cX5_sumSold 5 = .ok (.aload_n 0, 1) := by decide +kernel
theorem dX5_sumSold_6 : decode cX5_sumSold 6 = .ok (.getfield 9, 3) := by decide +kernel
theorem dX5_sumSold_9 : decode cX5_sumSold 9 = .ok (.if_icmp .ge 18, 3) := by decide +kernel
theorem dX5_sumSold_12 : decode cX5_sumSold 12 = .ok (.iload_n 1, 1) := by decide +kernel
theorem dX5_sumSold_13 : decode cX5_sumSold 13 = .ok (.aload_n 0, 1) := by decide +kernel
theorem dX5_sumSold_14 : decode cX5_sumSold 14 = .ok (.getfield 37, 3) := by decide +kernel
theorem dX5_sumSold_17 : decode cX5_sumSold 17 = .ok (.iload_n 2, 1) := by decide +kernel
theorem dX5_sumSold_18 : decode cX5_sumSold 18 = .ok (.iaload, 1) := by decide +kernel
theorem dX5_sumSold_19 : decode cX5_sumSold 19 = .ok (.iadd, 1) := by decide +kernel
theorem dX5_sumSold_20 : decode cX5_sumSold 20 = .ok (.istore_n 1, 1) := by decide +kernel
theorem dX5_sumSold_21 : decode cX5_sumSold 21 = .ok (.iinc 2 1, 3) := by decide +kernel
theorem dX5_sumSold_24 : decode cX5_sumSold 24 = .ok (.goto (-20), 3) := by decide +kernel
theorem dX5_sumSold_27 : decode cX5_sumSold 27 = .ok (.iload_n 1, 1) := by decide +kernel
theorem dX5_sumSold_28 : decode cX5_sumSold 28 = .ok (.ireturn, 1) := by decide +kernel
set_option maxRecDepth 20000 in
theorem ggX5_sumAsked_X5_isOut : GoodIn wsX5_sumAsked wsX5_isOut := goodIn_r _ [7, 8, 9, 10, 11, 12, 13, 14, 15, 16, 17, 18] (by decide +kernel) (by decide +kernel)
set_option maxRecDepth 20000 in
theorem gX5_sumAsked_X5_isOut : GoodIn wsX5_sumAsked (wsV RX5 47 RX5 yX5_isOut wsX5_isOut) := goodIn_app (goodIn_of _ (by decide +kernel)) ggX5_sumAsked_X5_isOut
theorem dX5_sumAsked_0 : decode cX5_sumAsked 0 = .ok (.iconst 0, 1) := by decide +kernel
theorem dX5_sumAsked_1 : decode cX5_sumAsked 1 = .ok (.istore_n 3, 1) := by decide +kernel
theorem dX5_sumAsked_2 : decode cX5_sumAsked 2 = .ok (.iconst 0, 1) := by decide +kernel
theorem dX5_sumAsked_3 : decode cX5_sumAsked 3 = .ok (.istore 4, 2) := by decide +kernel
theorem dX5_sumAsked_5 : decode cX5_sumAsked 5 = .ok (.iload 4, 2) := by decide +kernel
theorem dX5_sumAsked_7 : decode cX5_sumAsked 7 = .ok (.aload_n 0, 1) := by decide +kernel
theorem dX5_sumAsked_8 : decode cX5_sumAsked 8 = .ok (.getfield 9, 3) := by decide +kernel
theorem dX5_sumAsked_11 : decode cX5_sumAsked 11 = .ok (.if_icmp .ge 36, 3) := by decide +kernel
theorem dX5_sumAsked_14 : decode cX5_sumAsked 14 = .ok (.aload_n 0, 1) := by decide +kernel
theorem dX5_sumAsked_15 : decode cX5_sumAsked 15 = .ok (.iload 4, 2) := by decide +kernel
theorem dX5_sumAsked_17 : decode cX5_sumAsked 17 = .ok (.invokevirtual 47, 3) := by decide +kernel
theorem dX5_sumAsked_20 : decode cX5_sumAsked 20 = .ok (.ifCond .eq 21, 3) := by decide +kernel
theorem dX5_sumAsked_23 : decode cX5_sumAsked 23 = .ok (.aload_n 1, 1) := by decide +kernel
theorem dX5_sumAsked_24 : decode cX5_sumAsked 24 = .ok (.iload 4, 2) := by decide +kernel
theorem dX5_sumAsked_26 : decode cX5_sumAsked 26 = .ok (.iaload, 1) := by decide +kernel
theorem dX5_sumAsked_27 : decode cX5_sumAsked 27 = .ok (.iload_n 2, 1) := by decide +kernel
theorem dX5_sumAsked_28 : decode cX5_sumAsked 28 = .ok (.if_icmp .ne 13, 3) := by decide +kernel
theorem dX5_sumAsked_31 : decode cX5_sumAsked 31 = .ok (.iload_n 3, 1) := by decide +kernel
theorem dX5_sumAsked_32 : decode cX5_sumAsked 32 = .ok (.aload_n 0, 1) := by decide +kernel
theorem dX5_sumAsked_33 : decode cX5_sumAsked 33 = .ok (.getfield 34, 3) := by decide +kernel
theorem dX5_sumAsked_36 : decode cX5_sumAsked 36 = .ok (.iload 4, 2) := by decide +kernel
theorem dX5_sumAsked_38 : decode cX5_sumAsked 38 = .ok (.iaload, 1) := by decide +kernel
theorem dX5_sumAsked_39 : decode cX5_sumAsked 39 = .ok (.iadd, 1) := by decide +kernel
theorem dX5_sumAsked_40 : decode cX5_sumAsked 40 = .ok (.istore_n 3, 1) := by decide +kernel
theorem dX5_sumAsked_41 : decode cX5_sumAsked 41 = .ok (.iinc 4 1, 3) := by decide +kernel
theorem dX5_sumAsked_44 : decode cX5_sumAsked 44 = .ok (.goto (-39), 3) := by decide +kernel
theorem dX5_sumAsked_47 : decode cX5_sumAsked 47 = .ok (.iload_n 3, 1) := by decide +kernel
theorem dX5_sumAsked_48 : decode cX5_sumAsked 48 = .ok (.ireturn, 1) := by decide +kernel
set_option maxRecDepth 20000 in
theorem ggX5_unlikeGrades_X5_hasLikeBefore : GoodIn wsX5_unlikeGrades wsX5_hasLikeBefore := goodIn_r _ [7, 2, 8, 9, 10, 6, 11, 12, 13, 14, 15, 16, 17, 18, 19, 20, 21, 22, 23, 24, 25, 26, 27, 28] (by decide +kernel) (by decide +kernel)
set_option maxRecDepth 20000 in
theorem gX5_unlikeGrades_X5_hasLikeBefore : GoodIn wsX5_unlikeGrades (wsV RX5 61 RX5 yX5_hasLikeBefore wsX5_hasLikeBefore) := goodIn_app (goodIn_of _ (by decide +kernel)) ggX5_unlikeGrades_X5_hasLikeBefore
theorem dX5_unlikeGrades_0 : decode cX5_unlikeGrades 0 = .ok (.iconst 0, 1) := by decide +kernel
theorem dX5_unlikeGrades_1 : decode cX5_unlikeGrades 1 = .ok (.istore_n 2, 1) := by decide +kernel
theorem dX5_unlikeGrades_2 : decode cX5_unlikeGrades 2 = .ok (.iconst 0, 1) := by decide +kernel
theorem dX5_unlikeGrades_3 : decode cX5_unlikeGrades 3 = .ok (.istore_n 3, 1) := by decide +kernel
theorem dX5_unlikeGrades_4 : decode cX5_unlikeGrades 4 = .ok (.iload_n 3, 1) := by decide +kernel
theorem dX5_unlikeGrades_5 : decode cX5_unlikeGrades 5 = .ok (.aload_n 0, 1) := by decide +kernel
theorem dX5_unlikeGrades_6 : decode cX5_unlikeGrades 6 = .ok (.getfield 9, 3) := by decide +kernel
theorem dX5_unlikeGrades_9 : decode cX5_unlikeGrades 9 = .ok (.if_icmp .ge 31, 3) := by decide +kernel
theorem dX5_unlikeGrades_12 : decode cX5_unlikeGrades 12 = .ok (.aload_n 0, 1) := by decide +kernel
theorem dX5_unlikeGrades_13 : decode cX5_unlikeGrades 13 = .ok (.getfield 28, 3) := by decide +kernel
theorem dX5_unlikeGrades_16 : decode cX5_unlikeGrades 16 = .ok (.iload_n 3, 1) := by decide +kernel
theorem dX5_unlikeGrades_17 : decode cX5_unlikeGrades 17 = .ok (.iaload, 1) := by decide +kernel
theorem dX5_unlikeGrades_18 : decode cX5_unlikeGrades 18 = .ok (.iload_n 1, 1) := by decide +kernel
theorem dX5_unlikeGrades_19 : decode cX5_unlikeGrades 19 = .ok (.if_icmp .ne 15, 3) := by decide +kernel
theorem dX5_unlikeGrades_22 : decode cX5_unlikeGrades 22 = .ok (.aload_n 0, 1) := by decide +kernel
theorem dX5_unlikeGrades_23 : decode cX5_unlikeGrades 23 = .ok (.iload_n 3, 1) := by decide +kernel
theorem dX5_unlikeGrades_24 : decode cX5_unlikeGrades 24 = .ok (.iload_n 1, 1) := by decide +kernel
theorem dX5_unlikeGrades_25 : decode cX5_unlikeGrades 25 = .ok (.invokevirtual 61, 3) := by decide +kernel
theorem dX5_unlikeGrades_28 : decode cX5_unlikeGrades 28 = .ok (.ifCond .ne 6, 3) := by decide +kernel
theorem dX5_unlikeGrades_31 : decode cX5_unlikeGrades 31 = .ok (.iinc 2 1, 3) := by decide +kernel
theorem dX5_unlikeGrades_34 : decode cX5_unlikeGrades 34 = .ok (.iinc 3 1, 3) := by decide +kernel
theorem dX5_unlikeGrades_37 : decode cX5_unlikeGrades 37 = .ok (.goto (-33), 3) := by decide +kernel
theorem dX5_unlikeGrades_40 : decode cX5_unlikeGrades 40 = .ok (.iload_n 2, 1) := by decide +kernel
theorem dX5_unlikeGrades_41 : decode cX5_unlikeGrades 41 = .ok (.ireturn, 1) := by decide +kernel
theorem dX5_copyFrom_0 : decode cX5_copyFrom 0 = .ok (.aload_n 0, 1) := by decide +kernel
theorem dX5_copyFrom_1 : decode cX5_copyFrom 1 = .ok (.aload_n 1, 1) := by decide +kernel
theorem dX5_copyFrom_2 : decode cX5_copyFrom 2 = .ok (.getfield 9, 3) := by decide +kernel
theorem dX5_copyFrom_5 : decode cX5_copyFrom 5 = .ok (.putfield 9, 3) := by decide +kernel
theorem dX5_copyFrom_8 : decode cX5_copyFrom 8 = .ok (.aload_n 1, 1) := by decide +kernel
theorem dX5_copyFrom_9 : decode cX5_copyFrom 9 = .ok (.getfield 15, 3) := by decide +kernel
theorem dX5_copyFrom_12 : decode cX5_copyFrom 12 = .ok (.iconst 0, 1) := by decide +kernel
theorem dX5_copyFrom_13 : decode cX5_copyFrom 13 = .ok (.aload_n 0, 1) := by decide +kernel
theorem dX5_copyFrom_14 : decode cX5_copyFrom 14 = .ok (.getfield 15, 3) := by decide +kernel
theorem dX5_copyFrom_17 : decode cX5_copyFrom 17 = .ok (.iconst 0, 1) := by decide +kernel
theorem dX5_copyFrom_18 : decode cX5_copyFrom 18 = .ok (.bipush 20, 2) := by decide +kernel
theorem dX5_copyFrom_20 : decode cX5_copyFrom 20 = .ok (.invokestatic 64, 3) := by decide +kernel
theorem dX5_copyFrom_23 : decode cX5_copyFrom 23 = .ok (.aload_n 1, 1) := by decide +kernel
theorem dX5_copyFrom_24 : decode cX5_copyFrom 24 = .ok (.getfield 19, 3) := by decide +kernel
theorem dX5_copyFrom_27 : decode cX5_copyFrom 27 = .ok (.iconst 0, 1) := by decide +kernel
theorem dX5_copyFrom_28 : decode cX5_copyFrom 28 = .ok (.aload_n 0, 1) := by decide +kernel
theorem dX5_copyFrom_29 : decode cX5_copyFrom 29 = .ok (.getfield 19, 3) := by decide +kernel
theorem dX5_copyFrom_32 : decode cX5_copyFrom 32 = .ok (.iconst 0, 1) := by decide +kernel
theorem dX5_copyFrom_33 : decode cX5_copyFrom 33 = .ok (.bipush 20, 2) := by decide +kernel
theorem dX5_copyFrom_35 : decode cX5_copyFrom 35 = .ok (.invokestatic 64, 3) := by decide +kernel
theorem dX5_copyFrom_38 : decode cX5_copyFrom 38 = .ok (.aload_n 1, 1) := by decide +kernel
theorem dX5_copyFrom_39 : decode cX5_copyFrom 39 = .ok (.getfield 22, 3) := by decide +kernel
theorem dX5_copyFrom_42 : decode cX5_copyFrom 42 = .ok (.iconst 0, 1) := by decide +kernel
theorem dX5_copyFrom_43 : decode cX5_copyFrom 43 = .ok (.aload_n 0, 1) := by decide +kernel
theorem dX5_copyFrom_44 : decode cX5_copyFrom 44 = .ok (.getfield 22, 3) := by decide +kernel
theorem dX5_copyFrom_47 : decode cX5_copyFrom 47 = .ok (.iconst 0, 1) := by decide +kernel
theorem dX5_copyFrom_48 : decode cX5_copyFrom 48 = .ok (.bipush 20, 2) := by decide +kernel
theorem dX5_copyFrom_50 : decode cX5_copyFrom 50 = .ok (.invokestatic 64, 3) := by decide +kernel
theorem dX5_copyFrom_53 : decode cX5_copyFrom 53 = .ok (.aload_n 1, 1) := by decide +kernel
theorem dX5_copyFrom_54 : decode cX5_copyFrom 54 = .ok (.getfield 25, 3) := by decide +kernel
theorem dX5_copyFrom_57 : decode cX5_copyFrom 57 = .ok (.iconst 0, 1) := by decide +kernel
theorem dX5_copyFrom_58 : decode cX5_copyFrom 58 = .ok (.aload_n 0, 1) := by decide +kernel
theorem dX5_copyFrom_59 : decode cX5_copyFrom 59 = .ok (.getfield 25, 3) := by decide +kernel
theorem dX5_copyFrom_62 : decode cX5_copyFrom 62 = .ok (.iconst 0, 1) := by decide +kernel
theorem dX5_copyFrom_63 : decode cX5_copyFrom 63 = .ok (.bipush 20, 2) := by decide +kernel
theorem dX5_copyFrom_65 : decode cX5_copyFrom 65 = .ok (.invokestatic 64, 3) := by decide +kernel
theorem dX5_copyFrom_68 : decode cX5_copyFrom 68 = .ok (.aload_n 1, 1) := by decide +kernel
theorem dX5_copyFrom_69 : decode cX5_copyFrom 69 = .ok (.getfield 28, 3) := by decide +kernel
theorem dX5_copyFrom_72 : decode cX5_copyFrom 72 = .ok (.iconst 0, 1) := by decide +kernel
theorem dX5_copyFrom_73 : decode cX5_copyFrom 73 = .ok (.aload_n 0, 1) := by decide +kernel
theorem dX5_copyFrom_74 : decode cX5_copyFrom 74 = .ok (.getfield 28, 3) := by decide +kernel
theorem dX5_copyFrom_77 : decode cX5_copyFrom 77 = .ok (.iconst 0, 1) := by decide +kernel
theorem dX5_copyFrom_78 : decode cX5_copyFrom 78 = .ok (.bipush 20, 2) := by decide +kernel
theorem dX5_copyFrom_80 : decode cX5_copyFrom 80 = .ok (.invokestatic 64, 3) := by decide +kernel
theorem dX5_copyFrom_83 : decode cX5_copyFrom 83 = .ok (.aload_n 1, 1) := by decide +kernel
theorem dX5_copyFrom_84 : decode cX5_copyFrom 84 = .ok (.getfield 31, 3) := by decide +kernel
theorem dX5_copyFrom_87 : decode cX5_copyFrom 87 = .ok (.iconst 0, 1) := by decide +kernel
theorem dX5_copyFrom_88 : decode cX5_copyFrom 88 = .ok (.aload_n 0, 1) := by decide +kernel
theorem dX5_copyFrom_89 : decode cX5_copyFrom 89 = .ok (.getfield 31, 3) := by decide +kernel
theorem dX5_copyFrom_92 : decode cX5_copyFrom 92 = .ok (.iconst 0, 1) := by decide +kernel
theorem dX5_copyFrom_93 : decode cX5_copyFrom 93 = .ok (.bipush 20, 2) := by decide +kernel
theorem dX5_copyFrom_95 : decode cX5_copyFrom 95 = .ok (.invokestatic 64, 3) := by decide +kernel
theorem dX5_copyFrom_98 : decode cX5_copyFrom 98 = .ok (.aload_n 1, 1) := by decide +kernel
theorem dX5_copyFrom_99 : decode cX5_copyFrom 99 = .ok (.getfield 34, 3) := by decide +kernel
theorem dX5_copyFrom_102 : decode cX5_copyFrom 102 = .ok (.iconst 0, 1) := by decide +kernel
theorem dX5_copyFrom_103 : decode cX5_copyFrom 103 = .ok (.aload_n 0, 1) := by decide +kernel
theorem dX5_copyFrom_104 : decode cX5_copyFrom 104 = .ok (.getfield 34, 3) := by decide +kernel
theorem dX5_copyFrom_107 : decode cX5_copyFrom 107 = .ok (.iconst 0, 1) := by decide +kernel
theorem dX5_copyFrom_108 : decode cX5_copyFrom 108 = .ok (.bipush 20, 2) := by decide +kernel
theorem dX5_copyFrom_110 : decode cX5_copyFrom 110 = .ok (.invokestatic 64, 3) := by decide +kernel
theorem dX5_copyFrom_113 : decode cX5_copyFrom 113 = .ok (.aload_n 1, 1) := by decide +kernel
theorem dX5_copyFrom_114 : decode cX5_copyFrom 114 = .ok (.getfield 37, 3) := by decide +kernel
theorem dX5_copyFrom_117 : decode cX5_copyFrom 117 = .ok (.iconst 0, 1) := by decide +kernel
theorem dX5_copyFrom_118 : decode cX5_copyFrom 118 = .ok (.aload_n 0, 1) := by decide +kernel
theorem dX5_copyFrom_119 : decode cX5_copyFrom 119 = .ok (.getfield 37, 3) := by decide +kernel
theorem dX5_copyFrom_122 : decode cX5_copyFrom 122 = .ok (.iconst 0, 1) := by decide +kernel
theorem dX5_copyFrom_123 : decode cX5_copyFrom 123 = .ok (.bipush 20, 2) := by decide +kernel
theorem dX5_copyFrom_125 : decode cX5_copyFrom 125 = .ok (.invokestatic 64, 3) := by decide +kernel
theorem dX5_copyFrom_128 : decode cX5_copyFrom 128 = .ok (.aload_n 1, 1) := by decide +kernel
theorem dX5_copyFrom_129 : decode cX5_copyFrom 129 = .ok (.getfield 40, 3) := by decide +kernel
theorem dX5_copyFrom_132 : decode cX5_copyFrom 132 = .ok (.iconst 0, 1) := by decide +kernel
theorem dX5_copyFrom_133 : decode cX5_copyFrom 133 = .ok (.aload_n 0, 1) := by decide +kernel
theorem dX5_copyFrom_134 : decode cX5_copyFrom 134 = .ok (.getfield 40, 3) := by decide +kernel
theorem dX5_copyFrom_137 : decode cX5_copyFrom 137 = .ok (.iconst 0, 1) := by decide +kernel
theorem dX5_copyFrom_138 : decode cX5_copyFrom 138 = .ok (.bipush 20, 2) := by decide +kernel
theorem dX5_copyFrom_140 : decode cX5_copyFrom 140 = .ok (.invokestatic 64, 3) := by decide +kernel
theorem dX5_copyFrom_143 : decode cX5_copyFrom 143 = .ok (.return_, 1) := by decide +kernel
set_option maxRecDepth 20000 in
theorem ggX5_hasLikeBefore_X5_sameGrade : GoodIn wsX5_hasLikeBefore wsX5_sameGrade := goodIn_r _ [6, 7, 8, 9, 10, 11, 5, 12, 13, 14, 15, 16, 17, 18, 19, 20, 21, 22, 23] (by decide +kernel) (by decide +kernel)
set_option maxRecDepth 20000 in
theorem gX5_hasLikeBefore_X5_sameGrade : GoodIn wsX5_hasLikeBefore (wsV RX5 56 RX5 yX5_sameGrade wsX5_sameGrade) := goodIn_app (goodIn_of _ (by decide +kernel)) ggX5_hasLikeBefore_X5_sameGrade
theorem dX5_hasLikeBefore_0 : decode cX5_hasLikeBefore 0 = .ok (.iconst 0, 1) := by decide +kernel
theorem dX5_hasLikeBefore_1 : decode cX5_hasLikeBefore 1 = .ok (.istore_n 3, 1) := by decide +kernel
theorem dX5_hasLikeBefore_2 : decode cX5_hasLikeBefore 2 = .ok (.iload_n 3, 1) := by decide +kernel
theorem dX5_hasLikeBefore_3 : decode cX5_hasLikeBefore 3 = .ok (.iload_n 1, 1) := by decide +kernel
theorem dX5_hasLikeBefore_4 : decode cX5_hasLikeBefore 4 = .ok (.if_icmp .ge 30, 3) := by decide +kernel
theorem dX5_hasLikeBefore_7 : decode cX5_hasLikeBefore 7 = .ok (.aload_n 0, 1) := by decide +kernel
theorem dX5_hasLikeBefore_8 : decode cX5_hasLikeBefore 8 = .ok (.getfield 28, 3) := by decide +kernel
theorem dX5_hasLikeBefore_11 : decode cX5_hasLikeBefore 11 = .ok (.iload_n 3, 1) := by decide +kernel
theorem dX5_hasLikeBefore_12 : decode cX5_hasLikeBefore 12 = .ok (.iaload, 1) := by decide +kernel
theorem dX5_hasLikeBefore_13 : decode cX5_hasLikeBefore 13 = .ok (.iload_n 2, 1) := by decide +kernel
theorem dX5_hasLikeBefore_14 : decode cX5_hasLikeBefore 14 = .ok (.if_icmp .ne 14, 3) := by decide +kernel
theorem dX5_hasLikeBefore_17 : decode cX5_hasLikeBefore 17 = .ok (.aload_n 0, 1) := by decide +kernel
theorem dX5_hasLikeBefore_18 : decode cX5_hasLikeBefore 18 = .ok (.iload_n 3, 1) := by decide +kernel
theorem dX5_hasLikeBefore_19 : decode cX5_hasLikeBefore 19 = .ok (.iload_n 1, 1) := by decide +kernel
theorem dX5_hasLikeBefore_20 : decode cX5_hasLikeBefore 20 = .ok (.invokevirtual 56, 3) := by decide +kernel
theorem dX5_hasLikeBefore_23 : decode cX5_hasLikeBefore 23 = .ok (.ifCond .eq 5, 3) := by decide +kernel
theorem dX5_hasLikeBefore_26 : decode cX5_hasLikeBefore 26 = .ok (.iconst 1, 1) := by decide +kernel
end
section
theorem dX5_hasLikeBefore_27 : decode cX5_hasLikeBefore 27 = .ok (.ireturn, 1) := by decide +kernel
theorem dX5_hasLikeBefore_28 : decode cX5_hasLikeBefore 28 = .ok (.iinc 3 1, 3) := by decide +kernel
theorem dX5_hasLikeBefore_31 : decode cX5_hasLikeBefore 31 = .ok (.goto (-29), 3) := by decide +kernel
theorem dX5_hasLikeBefore_34 : decode cX5_hasLikeBefore 34 = .ok (.iconst 0, 1) := by decide +kernel
theorem dX5_hasLikeBefore_35 : decode cX5_hasLikeBefore 35 = .ok (.ireturn, 1) := by decide +kernel
set_option maxRecDepth 20000 in
theorem ggX5_sameGrade_X5_sieveOf : GoodIn wsX5_sameGrade wsX5_sieveOf := goodIn_r _ [7, 8, 9, 10, 11, 12, 13, 14, 15, 16, 17, 18] (by decide +kernel) (by decide +kernel)
set_option maxRecDepth 20000 in
theorem gX5_sameGrade_X5_sieveOf : GoodIn wsX5_sameGrade (wsV RX5 70 RX5 yX5_sieveOf wsX5_sieveOf) := goodIn_app (goodIn_of _ (by decide +kernel)) ggX5_sameGrade_X5_sieveOf
theorem dX5_sameGrade_0 : decode cX5_sameGrade 0 = .ok (.aload_n 0, 1) := by decide +kernel
theorem dX5_sameGrade_1 : decode cX5_sameGrade 1 = .ok (.iload_n 1, 1) := by decide +kernel
theorem dX5_sameGrade_2 : decode cX5_sameGrade 2 = .ok (.invokevirtual 70, 3) := by decide +kernel
theorem dX5_sameGrade_5 : decode cX5_sameGrade 5 = .ok (.aload_n 0, 1) := by decide +kernel
theorem dX5_sameGrade_6 : decode cX5_sameGrade 6 = .ok (.iload_n 2, 1) := by decide +kernel
theorem dX5_sameGrade_7 : decode cX5_sameGrade 7 = .ok (.invokevirtual 70, 3) := by decide +kernel
theorem dX5_sameGrade_10 : decode cX5_sameGrade 10 = .ok (.if_icmp .ne 37, 3) := by decide +kernel
theorem dX5_sameGrade_13 : decode cX5_sameGrade 13 = .ok (.aload_n 0, 1) := by decide +kernel
theorem dX5_sameGrade_14 : decode cX5_sameGrade 14 = .ok (.getfield 19, 3) := by decide +kernel
theorem dX5_sameGrade_17 : decode cX5_sameGrade 17 = .ok (.iload_n 1, 1) := by decide +kernel
theorem dX5_sameGrade_18 : decode cX5_sameGrade 18 = .ok (.iaload, 1) := by decide +kernel
theorem dX5_sameGrade_19 : decode cX5_sameGrade 19 = .ok (.aload_n 0, 1) := by decide +kernel
theorem dX5_sameGrade_20 : decode cX5_sameGrade 20 = .ok (.getfield 19, 3) := by decide +kernel
theorem dX5_sameGrade_23 : decode cX5_sameGrade 23 = .ok (.iload_n 2, 1) := by decide +kernel
theorem dX5_sameGrade_24 : decode cX5_sameGrade 24 = .ok (.iaload, 1) := by decide +kernel
theorem dX5_sameGrade_25 : decode cX5_sameGrade 25 = .ok (.if_icmp .ne 22, 3) := by decide +kernel
theorem dX5_sameGrade_28 : decode cX5_sameGrade 28 = .ok (.aload_n 0, 1) := by decide +kernel
theorem dX5_sameGrade_29 : decode cX5_sameGrade 29 = .ok (.getfield 22, 3) := by decide +kernel
theorem dX5_sameGrade_32 : decode cX5_sameGrade 32 = .ok (.iload_n 1, 1) := by decide +kernel
theorem dX5_sameGrade_33 : decode cX5_sameGrade 33 = .ok (.iaload, 1) := by decide +kernel
theorem dX5_sameGrade_34 : decode cX5_sameGrade 34 = .ok (.aload_n 0, 1) := by decide +kernel
theorem dX5_sameGrade_35 : decode cX5_sameGrade 35 = .ok (.getfield 22, 3) := by decide +kernel
theorem dX5_sameGrade_38 : decode cX5_sameGrade 38 = .ok (.iload_n 2, 1) := by decide +kernel
theorem dX5_sameGrade_39 : decode cX5_sameGrade 39 = .ok (.iaload, 1) := by decide +kernel
theorem dX5_sameGrade_40 : decode cX5_sameGrade 40 = .ok (.if_icmp .ne 7, 3) := by decide +kernel
theorem dX5_sameGrade_43 : decode cX5_sameGrade 43 = .ok (.iconst 1, 1) := by decide +kernel
theorem dX5_sameGrade_44 : decode cX5_sameGrade 44 = .ok (.goto 4, 3) := by decide +kernel
theorem dX5_sameGrade_47 : decode cX5_sameGrade 47 = .ok (.iconst 0, 1) := by decide +kernel
theorem dX5_sameGrade_48 : decode cX5_sameGrade 48 = .ok (.ireturn, 1) := by decide +kernel
set_option maxRecDepth 20000 in
theorem ggX6_init_X1_init : GoodIn wsX6_init wsX1_init := goodIn_r _ [21, 22, 2, 3, 23, 24, 25, 26, 27, 28, 29, 30, 31, 32, 33, 34, 35, 36, 37, 38, 39, 40, 41, 42, 43, 44, 45, 46, 47, 48, 49, 50, 51, 52, 53, 54, 55, 56, 57, 58, 59, 60, 61, 62, 63, 64, 65, 66, 67, 68, 69, 70, 118, 119, 120, 121, 91, 92, 93, 94, 95, 96, 97, 98, 99, 122, 123, 124, 125, 126, 127, 128, 129, 130, 131, 132, 133, 134, 135, 136, 137] (by decide +kernel) (by decide +kernel)
set_option maxRecDepth 20000 in
theorem gX6_init_X1_init_n9 : GoodIn wsX6_init (wsX1_init) := ggX6_init_X1_init
set_option maxRecDepth 20000 in
theorem ggX6_init_X0_init : GoodIn wsX6_init wsX0_init := goodIn_r _ [73, 74, 2, 3, 75, 76, 77, 78, 5, 6, 20, 21, 22, 23, 24, 25, 26, 27, 28, 29, 30, 31, 32, 33, 34, 35, 36, 37, 38, 39, 40, 41, 42, 43, 44, 45, 46, 47, 48, 49, 50, 51, 52, 53, 54, 55, 56, 57, 58, 59, 60, 61, 62, 63, 64, 65, 66, 67, 68, 69, 70, 107, 108, 109, 91, 92, 93, 94, 95, 96, 97, 98, 99, 118, 119, 120, 121, 122, 123, 124, 125, 126, 127, 128, 129, 130, 131, 132, 133, 134, 135, 136, 137] (by decide +kernel) (by decide +kernel)
set_option maxRecDepth 20000 in
theorem gX6_init_X0_init : GoodIn wsX6_init (wsX0_init) := ggX6_init_X0_init
set_option maxRecDepth 20000 in
theorem ggX6_init_X4_init : GoodIn wsX6_init wsX4_init := goodIn_r _ [80, 81, 2, 3, 82, 83, 84, 85, 35, 86, 87, 88, 89, 90, 110, 111, 112, 113, 114, 115, 116, 117] (by decide +kernel) (by decide +kernel)
set_option maxRecDepth 20000 in
theorem gX6_init_X4_init_n34 : GoodIn wsX6_init (wsX4_init) := ggX6_init_X4_init
theorem dX6_init_0 : decode cX6_init 0 = .ok (.aload_n 0, 1) := by decide +kernel
theorem dX6_init_1 : decode cX6_init 1 = .ok (.invokespecial 1, 3) := by decide +kernel
theorem dX6_init_4 : decode cX6_init 4 = .ok (.aload_n 0, 1) := by decide +kernel
theorem dX6_init_5 : decode cX6_init 5 = .ok (.new 7, 3) := by decide +kernel
theorem dX6_init_8 : decode cX6_init 8 = .ok (.dup, 1) := by decide +kernel
theorem dX6_init_9 : decode cX6_init 9 = .ok (.invokespecial 9, 3) := by decide +kernel
theorem dX6_init_12 : decode cX6_init 12 = .ok (.putfield 10, 3) := by decide +kernel
theorem dX6_init_15 : decode cX6_init 15 = .ok (.aload_n 0, 1) := by decide +kernel
theorem dX6_init_16 : decode cX6_init 16 = .ok (.new 7, 3) := by decide +kernel
theorem dX6_init_19 : decode cX6_init 19 = .ok (.dup, 1) := by decide +kernel
theorem dX6_init_20 : decode cX6_init 20 = .ok (.invokespecial 9, 3) := by decide +kernel
theorem dX6_init_23 : decode cX6_init 23 = .ok (.putfield 16, 3) := by decide +kernel
theorem dX6_init_26 : decode cX6_init 26 = .ok (.aload_n 0, 1) := by decide +kernel
theorem dX6_init_27 : decode cX6_init 27 = .ok (.new 7, 3) := by decide +kernel
theorem dX6_init_30 : decode cX6_init 30 = .ok (.dup, 1) := by decide +kernel
theorem dX6_init_31 : decode cX6_init 31 = .ok (.invokespecial 9, 3) := by decide +kernel
theorem dX6_init_34 : decode cX6_init 34 = .ok (.putfield 19, 3) := by decide +kernel
theorem dX6_init_37 : decode cX6_init 37 = .ok (.aload_n 0, 1) := by decide +kernel
theorem dX6_init_38 : decode cX6_init 38 = .ok (.new 7, 3) := by decide +kernel
theorem dX6_init_41 : decode cX6_init 41 = .ok (.dup, 1) := by decide +kernel
theorem dX6_init_42 : decode cX6_init 42 = .ok (.invokespecial 9, 3) := by decide +kernel
theorem dX6_init_45 : decode cX6_init 45 = .ok (.putfield 22, 3) := by decide +kernel
theorem dX6_init_48 : decode cX6_init 48 = .ok (.aload_n 0, 1) := by decide +kernel
theorem dX6_init_49 : decode cX6_init 49 = .ok (.new 25, 3) := by decide +kernel
theorem dX6_init_52 : decode cX6_init 52 = .ok (.dup, 1) := by decide +kernel
theorem dX6_init_53 : decode cX6_init 53 = .ok (.invokespecial 27, 3) := by decide +kernel
theorem dX6_init_56 : decode cX6_init 56 = .ok (.putfield 28, 3) := by decide +kernel
theorem dX6_init_59 : decode cX6_init 59 = .ok (.aload_n 0, 1) := by decide +kernel
theorem dX6_init_60 : decode cX6_init 60 = .ok (.new 32, 3) := by decide +kernel
theorem dX6_init_63 : decode cX6_init 63 = .ok (.dup, 1) := by decide +kernel
theorem dX6_init_64 : decode cX6_init 64 = .ok (.invokespecial 34, 3) := by decide +kernel
theorem dX6_init_67 : decode cX6_init 67 = .ok (.putfield 35, 3) := by decide +kernel
theorem dX6_init_70 : decode cX6_init 70 = .ok (.aload_n 0, 1) := by decide +kernel
theorem dX6_init_71 : decode cX6_init 71 = .ok (.iconst 0, 1) := by decide +kernel
theorem dX6_init_72 : decode cX6_init 72 = .ok (.putfield 39, 3) := by decide +kernel
theorem dX6_init_75 : decode cX6_init 75 = .ok (.return_, 1) := by decide +kernel
set_option maxRecDepth 20000 in
theorem ggX6_dealer_X1_copyFrom : GoodIn wsX6_dealer wsX1_copyFrom := goodIn_r _ [7, 8, 9, 10, 11, 12, 13, 14, 15, 16, 17, 18, 19, 20, 21, 22, 23, 24, 25, 26, 27, 28, 29, 30, 31, 32, 33, 34, 35, 36, 37, 38, 39, 40, 41, 42, 43, 44, 45, 46, 47, 48, 49, 50, 51, 52, 53, 54, 55, 56, 57, 58, 90, 91, 92, 93, 94, 95, 96, 97, 98, 99, 100, 101, 102, 103, 104, 105, 106, 107, 108, 109, 110, 111, 112, 113, 114, 115, 116, 117, 118] (by decide +kernel) (by decide +kernel)
set_option maxRecDepth 20000 in
theorem gX6_dealer_X1_copyFrom : GoodIn wsX6_dealer (wsV RX6 43 RX1 yX1_copyFrom wsX1_copyFrom) := goodIn_app (goodIn_of _ (by decide +kernel)) ggX6_dealer_X1_copyFrom
set_option maxRecDepth 20000 in
theorem ggX6_dealer_X1_addDealer : GoodIn wsX6_dealer wsX1_addDealer := goodIn_r _ [62, 16, 63, 11, 90, 91, 92, 93, 94, 95, 96, 97, 98] (by decide +kernel) (by decide +kernel)
set_option maxRecDepth 20000 in
theorem gX6_dealer_X1_addDealer : GoodIn wsX6_dealer (wsV RX6 47 RX1 yX1_addDealer wsX1_addDealer) := goodIn_app (goodIn_of _ (by decide +kernel)) ggX6_dealer_X1_addDealer
set_option maxRecDepth 20000 in
theorem ggX6_dealer_X6_recorded : GoodIn wsX6_dealer wsX6_recorded := goodIn_r _ [68, 69, 1, 70, 71, 72, 73, 74, 75, 76, 77, 78, 79, 80, 81, 82, 4, 5, 6, 7, 8, 9, 10, 11, 12, 13, 14, 15, 16, 17, 18, 19, 20, 21, 22, 23, 24, 25, 26, 27, 28, 29, 30, 31, 32, 33, 34, 35, 36, 37, 38, 39, 40, 41, 42, 43, 44, 45, 46, 47, 48, 49, 50, 51, 52, 53, 54, 55, 56, 57, 58, 83, 84, 85, 86, 87, 88, 89, 119, 120, 121, 90, 91, 92, 93, 94, 95, 96, 97, 98, 99, 100, 101, 102, 103, 104, 105, 106, 107, 108, 109, 110, 111, 112, 113, 114, 115, 116, 117, 118] (by decide +kernel) (by decide +kernel)
set_option maxRecDepth 20000 in
theorem gX6_dealer_X6_recorded : GoodIn wsX6_dealer (wsV RX6 51 RX6 yX6_recorded wsX6_recorded) := goodIn_app (goodIn_of _ (by decide +kernel)) ggX6_dealer_X6_recorded
theorem dX6_dealer_0 : decode cX6_dealer 0 = .ok (.aload_n 0, 1) := by decide +kernel
theorem dX6_dealer_1 : decode cX6_dealer 1 = .ok (.getfield 16, 3) := by decide +kernel
theorem dX6_dealer_4 : decode cX6_dealer 4 = .ok (.aload_n 0, 1) := by decide +kernel
theorem dX6_dealer_5 : decode cX6_dealer 5 = .ok (.getfield 10, 3) := by decide +kernel
theorem dX6_dealer_8 : decode cX6_dealer 8 = .ok (.invokevirtual 43, 3) := by decide +kernel
theorem dX6_dealer_11 : decode cX6_dealer 11 = .ok (.aload_n 0, 1) := by decide +kernel
theorem dX6_dealer_12 : decode cX6_dealer 12 = .ok (.aload_n 0, 1) := by decide +kernel
theorem dX6_dealer_13 : decode cX6_dealer 13 = .ok (.getfield 10, 3) := by decide +kernel
theorem dX6_dealer_16 : decode cX6_dealer 16 = .ok (.invokevirtual 47, 3) := by decide +kernel
theorem dX6_dealer_19 : decode cX6_dealer 19 = .ok (.invokevirtual 51, 3) := by decide +kernel
theorem dX6_dealer_22 : decode cX6_dealer 22 = .ok (.ireturn, 1) := by decide +kernel
set_option maxRecDepth 20000 in
theorem ggX6_stone_X1_copyFrom : GoodIn wsX6_stone wsX1_copyFrom := goodIn_r _ [7, 8, 9, 10, 11, 12, 13, 14, 15, 16, 17, 18, 19, 20, 21, 22, 23, 24, 25, 26, 27, 28, 29, 30, 31, 32, 33, 34, 35, 36, 37, 38, 39, 40, 41, 42, 43, 44, 45, 46, 47, 48, 49, 50, 51, 52, 53, 54, 55, 56, 57, 58, 101, 102, 103, 104, 105, 106, 107, 108, 109, 110, 111, 112, 113, 114, 115, 116, 117, 118, 119, 120, 121, 122, 123, 124, 125, 126, 127, 128, 129] (by decide +kernel) (by decide +kernel)
set_option maxRecDepth 20000 in
theorem gX6_stone_X1_copyFrom : GoodIn wsX6_stone (wsV RX6 43 RX1 yX1_copyFrom wsX1_copyFrom) := goodIn_app (goodIn_of _ (by decide +kernel)) ggX6_stone_X1_copyFrom
set_option maxRecDepth 20000 in
theorem ggX6_stone_X1_addStone : GoodIn wsX6_stone wsX1_addStone := goodIn_r _ [62, 63, 9, 64, 65, 66, 67, 6, 68, 16, 69, 70, 71, 72, 73, 74, 34, 75, 36, 37, 39, 40, 41, 42, 43, 44, 45, 46, 101, 102, 103, 104, 105, 106, 107, 108, 109, 114, 115, 116, 117, 118, 119, 120, 121, 122, 123] (by decide +kernel) (by decide +kernel)
set_option maxRecDepth 20000 in
theorem gX6_stone_X1_addStone : GoodIn wsX6_stone (wsV RX6 55 RX1 yX1_addStone wsX1_addStone) := goodIn_app (goodIn_of _ (by decide +kernel)) ggX6_stone_X1_addStone
set_option maxRecDepth 20000 in
theorem ggX6_stone_X6_recorded : GoodIn wsX6_stone wsX6_recorded := goodIn_r _ [79, 80, 1, 81, 82, 83, 84, 85, 86, 87, 88, 89, 90, 91, 92, 93, 4, 5, 6, 7, 8, 9, 10, 11, 12, 13, 14, 15, 16, 17, 18, 19, 20, 21, 22, 23, 24, 25, 26, 27, 28, 29, 30, 31, 32, 33, 34, 35, 36, 37, 38, 39, 40, 41, 42, 43, 44, 45, 46, 47, 48, 49, 50, 51, 52, 53, 54, 55, 56, 57, 58, 94, 95, 96, 97, 98, 99, 100, 130, 131, 132, 101, 102, 103, 104, 105, 106, 107, 108, 109, 110, 111, 112, 113, 114, 115, 116, 117, 118, 119, 120, 121, 122, 123, 124, 125, 126, 127, 128, 129] (by decide +kernel) (by decide +kernel)
set_option maxRecDepth 20000 in
theorem gX6_stone_X6_recorded : GoodIn wsX6_stone (wsV RX6 51 RX6 yX6_recorded wsX6_recorded) := goodIn_app (goodIn_of _ (by decide +kernel)) ggX6_stone_X6_recorded
theorem dX6_stone_0 : decode cX6_stone 0 = .ok (.aload_n 0, 1) := by decide +kernel
theorem dX6_stone_1 : decode cX6_stone 1 = .ok (.getfield 16, 3) := by decide +kernel
theorem dX6_stone_4 : decode cX6_stone 4 = .ok (.aload_n 0, 1) := by decide +kernel
theorem dX6_stone_5 : decode cX6_stone 5 = .ok (.getfield 10, 3) := by decide +kernel
theorem dX6_stone_8 : decode cX6_stone 8 = .ok (.invokevirtual 43, 3) := by decide +kernel
theorem dX6_stone_11 : decode cX6_stone 11 = .ok (.aload_n 0, 1) := by decide +kernel
theorem dX6_stone_12 : decode cX6_stone 12 = .ok (.aload_n 0, 1) := by decide +kernel
theorem dX6_stone_13 : decode cX6_stone 13 = .ok (.getfield 10, 3) := by decide +kernel
theorem dX6_stone_16 : decode cX6_stone 16 = .ok (.iload_n 1, 1) := by decide +kernel
theorem dX6_stone_17 : decode cX6_stone 17 = .ok (.iload_n 2, 1) := by decide +kernel
theorem dX6_stone_18 : decode cX6_stone 18 = .ok (.iload_n 3, 1) := by decide +kernel
theorem dX6_stone_19 : decode cX6_stone 19 = .ok (.iload 4, 2) := by decide +kernel
theorem dX6_stone_21 : decode cX6_stone 21 = .ok (.invokevirtual 55, 3) := by decide +kernel
theorem dX6_stone_24 : decode cX6_stone 24 = .ok (.invokevirtual 51, 3) := by decide +kernel
theorem dX6_stone_27 : decode cX6_stone 27 = .ok (.ireturn, 1) := by decide +kernel
set_option maxRecDepth 20000 in
theorem ggX6_rate_X1_copyFrom : GoodIn wsX6_rate wsX1_copyFrom := goodIn_r _ [7, 8, 9, 10, 11, 12, 13, 14, 15, 16, 17, 18, 19, 20, 21, 22, 23, 24, 25, 26, 27, 28, 29, 30, 31, 32, 33, 34, 35, 36, 37, 38, 39, 40, 41, 42, 43, 44, 45, 46, 47, 48, 49, 50, 51, 52, 53, 54, 55, 56, 57, 58, 112, 113, 114, 115, 116, 117, 118, 119, 120, 121, 122, 123, 124, 125, 126, 127, 128, 129, 130, 131, 132, 133, 134, 135, 136, 137, 138, 139, 140] (by decide +kernel) (by decide +kernel)
set_option maxRecDepth 20000 in
theorem gX6_rate_X1_copyFrom : GoodIn wsX6_rate (wsV RX6 43 RX1 yX1_copyFrom wsX1_copyFrom) := goodIn_app (goodIn_of _ (by decide +kernel)) ggX6_rate_X1_copyFrom
set_option maxRecDepth 20000 in
theorem ggX6_rate_X1_putRate : GoodIn wsX6_rate wsX1_putRate := goodIn_r _ [62, 63, 8, 64, 65, 66, 67, 68, 69, 70, 71, 72, 73, 24, 74, 30, 75, 76, 77, 78, 26, 28, 29, 79, 80, 81, 82, 83, 84, 85, 86, 112, 113, 114, 115, 116, 117, 118, 119, 120, 121, 122, 123, 124] (by decide +kernel) (by decide +kernel)
set_option maxRecDepth 20000 in
theorem gX6_rate_X1_putRate : GoodIn wsX6_rate (wsV RX6 59 RX1 yX1_putRate wsX1_putRate) := goodIn_app (goodIn_of _ (by decide +kernel)) ggX6_rate_X1_putRate
set_option maxRecDepth 20000 in
theorem ggX6_rate_X6_recorded : GoodIn wsX6_rate wsX6_recorded := goodIn_r _ [90, 91, 1, 92, 93, 94, 95, 96, 97, 98, 99, 100, 101, 102, 103, 104, 4, 5, 6, 7, 8, 9, 10, 11, 12, 13, 14, 15, 16, 17, 18, 19, 20, 21, 22, 23, 24, 25, 26, 27, 28, 29, 30, 31, 32, 33, 34, 35, 36, 37, 38, 39, 40, 41, 42, 43, 44, 45, 46, 47, 48, 49, 50, 51, 52, 53, 54, 55, 56, 57, 58, 105, 106, 107, 108, 109, 110, 111, 141, 142, 143, 112, 113, 114, 115, 116, 117, 118, 119, 120, 121, 122, 123, 124, 125, 126, 127, 128, 129, 130, 131, 132, 133, 134, 135, 136, 137, 138, 139, 140] (by decide +kernel) (by decide +kernel)
set_option maxRecDepth 20000 in
theorem gX6_rate_X6_recorded : GoodIn wsX6_rate (wsV RX6 51 RX6 yX6_recorded wsX6_recorded) := goodIn_app (goodIn_of _ (by decide +kernel)) ggX6_rate_X6_recorded
theorem dX6_rate_0 : decode cX6_rate 0 = .ok (.aload_n 0, 1) := by decide +kernel
theorem dX6_rate_1 : decode cX6_rate 1 = .ok (.getfield 16, 3) := by decide +kernel
theorem dX6_rate_4 : decode cX6_rate 4 = .ok (.aload_n 0, 1) := by decide +kernel
theorem dX6_rate_5 : decode cX6_rate 5 = .ok (.getfield 10, 3) := by decide +kernel
theorem dX6_rate_8 : decode cX6_rate 8 = .ok (.invokevirtual 43, 3) := by decide +kernel
theorem dX6_rate_11 : decode cX6_rate 11 = .ok (.aload_n 0, 1) := by decide +kernel
theorem dX6_rate_12 : decode cX6_rate 12 = .ok (.aload_n 0, 1) := by decide +kernel
theorem dX6_rate_13 : decode cX6_rate 13 = .ok (.getfield 10, 3) := by decide +kernel
theorem dX6_rate_16 : decode cX6_rate 16 = .ok (.iload_n 1, 1) := by decide +kernel
theorem dX6_rate_17 : decode cX6_rate 17 = .ok (.iload_n 2, 1) := by decide +kernel
theorem dX6_rate_18 : decode cX6_rate 18 = .ok (.iload_n 3, 1) := by decide +kernel
theorem dX6_rate_19 : decode cX6_rate 19 = .ok (.iload 4, 2) := by decide +kernel
theorem dX6_rate_21 : decode cX6_rate 21 = .ok (.invokevirtual 59, 3) := by decide +kernel
theorem dX6_rate_24 : decode cX6_rate 24 = .ok (.invokevirtual 51, 3) := by decide +kernel
theorem dX6_rate_27 : decode cX6_rate 27 = .ok (.ireturn, 1) := by decide +kernel
set_option maxRecDepth 20000 in
theorem ggX6_unrate_X1_copyFrom : GoodIn wsX6_unrate wsX1_copyFrom := goodIn_r _ [7, 8, 9, 10, 11, 12, 13, 14, 15, 16, 17, 18, 19, 20, 21, 22, 23, 24, 25, 26, 27, 28, 29, 30, 31, 32, 33, 34, 35, 36, 37, 38, 39, 40, 41, 42, 43, 44, 45, 46, 47, 48, 49, 50, 51, 52, 53, 54, 55, 56, 57, 58, 108, 109, 110, 111, 112, 113, 114, 115, 116, 117, 118, 119, 120, 121, 122, 123, 124, 125, 126, 127, 128, 129, 130, 131, 132, 133, 134, 135, 136] (by decide +kernel) (by decide +kernel)
set_option maxRecDepth 20000 in
theorem gX6_unrate_X1_copyFrom : GoodIn wsX6_unrate (wsV RX6 43 RX1 yX1_copyFrom wsX1_copyFrom) := goodIn_app (goodIn_of _ (by decide +kernel)) ggX6_unrate_X1_copyFrom
set_option maxRecDepth 20000 in
theorem ggX6_unrate_X1_takeRate : GoodIn wsX6_unrate wsX1_takeRate := goodIn_r _ [62, 63, 8, 64, 65, 66, 67, 68, 69, 70, 71, 72, 73, 24, 74, 30, 75, 76, 77, 78, 26, 28, 29, 79, 80, 81, 82, 108, 109, 110, 111, 112, 113, 114, 115, 116, 117, 118, 119, 120] (by decide +kernel) (by decide +kernel)
set_option maxRecDepth 20000 in
theorem gX6_unrate_X1_takeRate : GoodIn wsX6_unrate (wsV RX6 62 RX1 yX1_takeRate wsX1_takeRate) := goodIn_app (goodIn_of _ (by decide +kernel)) ggX6_unrate_X1_takeRate
set_option maxRecDepth 20000 in
theorem ggX6_unrate_X6_recorded : GoodIn wsX6_unrate wsX6_recorded := goodIn_r _ [86, 87, 1, 88, 89, 90, 91, 92, 93, 94, 95, 96, 97, 98, 99, 100, 4, 5, 6, 7, 8, 9, 10, 11, 12, 13, 14, 15, 16, 17, 18, 19, 20, 21, 22, 23, 24, 25, 26, 27, 28, 29, 30, 31, 32, 33, 34, 35, 36, 37, 38, 39, 40, 41, 42, 43, 44, 45, 46, 47, 48, 49, 50, 51, 52, 53, 54, 55, 56, 57, 58, 101, 102, 103, 104, 105, 106, 107, 137, 138, 139, 108, 109, 110, 111, 112, 113, 114, 115, 116, 117, 118, 119, 120, 121, 122, 123, 124, 125, 126, 127, 128, 129, 130, 131, 132, 133, 134, 135, 136] (by decide +kernel) (by decide +kernel)
set_option maxRecDepth 20000 in
theorem gX6_unrate_X6_recorded : GoodIn wsX6_unrate (wsV RX6 51 RX6 yX6_recorded wsX6_recorded) := goodIn_app (goodIn_of _ (by decide +kernel)) ggX6_unrate_X6_recorded
theorem dX6_unrate_0 : decode cX6_unrate 0 = .ok (.aload_n 0, 1) := by decide +kernel
theorem dX6_unrate_1 : decode cX6_unrate 1 = .ok (.getfield 16, 3) := by decide +kernel
theorem dX6_unrate_4 : decode cX6_unrate 4 = .ok (.aload_n 0, 1) := by decide +kernel
theorem dX6_unrate_5 : decode cX6_unrate 5 = .ok (.getfield 10, 3) := by decide +kernel
theorem dX6_unrate_8 : decode cX6_unrate 8 = .ok (.invokevirtual 43, 3) := by decide +kernel
theorem dX6_unrate_11 : decode cX6_unrate 11 = .ok (.aload_n 0, 1) := by decide +kernel
theorem dX6_unrate_12 : decode cX6_unrate 12 = .ok (.aload_n 0, 1) := by decide +kernel
theorem dX6_unrate_13 : decode cX6_unrate 13 = .ok (.getfield 10, 3) := by decide +kernel
theorem dX6_unrate_16 : decode cX6_unrate 16 = .ok (.iload_n 1, 1) := by decide +kernel
theorem dX6_unrate_17 : decode cX6_unrate 17 = .ok (.iload_n 2, 1) := by decide +kernel
theorem dX6_unrate_18 : decode cX6_unrate 18 = .ok (.iload_n 3, 1) := by decide +kernel
theorem dX6_unrate_19 : decode cX6_unrate 19 = .ok (.invokevirtual 62, 3) := by decide +kernel
theorem dX6_unrate_22 : decode cX6_unrate 22 = .ok (.invokevirtual 51, 3) := by decide +kernel
theorem dX6_unrate_25 : decode cX6_unrate 25 = .ok (.ireturn, 1) := by decide +kernel
set_option maxRecDepth 20000 in
theorem ggX6_lend_X1_copyFrom : GoodIn wsX6_lend wsX1_copyFrom := goodIn_r _ [7, 8, 9, 10, 11, 12, 13, 14, 15, 16, 17, 18, 19, 20, 21, 22, 23, 24, 25, 26, 27, 28, 29, 30, 31, 32, 33, 34, 35, 36, 37, 38, 39, 40, 41, 42, 43, 44, 45, 46, 47, 48, 49, 50, 51, 52, 53, 54, 55, 56, 57, 58, 116, 117, 118, 119, 120, 121, 122, 123, 124, 125, 126, 127, 128, 129, 130, 131, 132, 133, 134, 135, 136, 137, 138, 139, 140, 141, 142, 143, 144] (by decide +kernel) (by decide +kernel)
set_option maxRecDepth 20000 in
theorem gX6_lend_X1_copyFrom : GoodIn wsX6_lend (wsV RX6 43 RX1 yX1_copyFrom wsX1_copyFrom) := goodIn_app (goodIn_of _ (by decide +kernel)) ggX6_lend_X1_copyFrom
set_option maxRecDepth 20000 in
theorem ggX6_lend_X1_lendStones : GoodIn wsX6_lend wsX1_lendStones := goodIn_r _ [62, 9, 63, 64, 10, 17, 65, 66, 67, 68, 6, 69, 16, 70, 71, 72, 73, 74, 75, 76, 77, 8, 78, 79, 80, 34, 81, 37, 82, 83, 84, 24, 85, 30, 26, 28, 29, 86, 87, 88, 50, 89, 52, 53, 55, 56, 57, 58, 116, 117, 118, 119, 120, 121, 122, 123, 124, 129, 130, 131, 132, 133, 134, 135, 136, 137, 138, 125, 126, 127, 128, 139, 140, 141, 142, 143, 144] (by decide +kernel) (by decide +kernel)
set_option maxRecDepth 20000 in
theorem gX6_lend_X1_lendStones : GoodIn wsX6_lend (wsV RX6 66 RX1 yX1_lendStones wsX1_lendStones) := goodIn_app (goodIn_of _ (by decide +kernel)) ggX6_lend_X1_lendStones
set_option maxRecDepth 20000 in
theorem ggX6_lend_X6_recorded : GoodIn wsX6_lend wsX6_recorded := goodIn_r _ [94, 95, 1, 96, 97, 98, 99, 100, 101, 102, 103, 104, 105, 106, 107, 108, 4, 5, 6, 7, 8, 9, 10, 11, 12, 13, 14, 15, 16, 17, 18, 19, 20, 21, 22, 23, 24, 25, 26, 27, 28, 29, 30, 31, 32, 33, 34, 35, 36, 37, 38, 39, 40, 41, 42, 43, 44, 45, 46, 47, 48, 49, 50, 51, 52, 53, 54, 55, 56, 57, 58, 109, 110, 111, 112, 113, 114, 115, 145, 146, 147, 116, 117, 118, 119, 120, 121, 122, 123, 124, 125, 126, 127, 128, 129, 130, 131, 132, 133, 134, 135, 136, 137, 138, 139, 140, 141, 142, 143, 144] (by decide +kernel) (by decide +kernel)
set_option maxRecDepth 20000 in
theorem gX6_lend_X6_recorded : GoodIn wsX6_lend (wsV RX6 51 RX6 yX6_recorded wsX6_recorded) := goodIn_app (goodIn_of _ (by decide +kernel)) ggX6_lend_X6_recorded
theorem dX6_lend_0 : decode cX6_lend 0 = .ok (.aload_n 0, 1) := by decide +kernel
theorem dX6_lend_1 : decode cX6_lend 1 = .ok (.getfield 16, 3) := by decide +kernel
theorem dX6_lend_4 : decode cX6_lend 4 = .ok (.aload_n 0, 1) := by decide +kernel
theorem dX6_lend_5 : decode cX6_lend 5 = .ok (.getfield 10, 3) := by decide +kernel
theorem dX6_lend_8 : decode cX6_lend 8 = .ok (.invokevirtual 43, 3) := by decide +kernel
theorem dX6_lend_11 : decode cX6_lend 11 = .ok (.aload_n 0, 1) := by decide +kernel
theorem dX6_lend_12 : decode cX6_lend 12 = .ok (.aload_n 0, 1) := by decide +kernel
theorem dX6_lend_13 : decode cX6_lend 13 = .ok (.getfield 10, 3) := by decide +kernel
theorem dX6_lend_16 : decode cX6_lend 16 = .ok (.iload_n 1, 1) := by decide +kernel
theorem dX6_lend_17 : decode cX6_lend 17 = .ok (.iload_n 2, 1) := by decide +kernel
theorem dX6_lend_18 : decode cX6_lend 18 = .ok (.iload_n 3, 1) := by decide +kernel
theorem dX6_lend_19 : decode cX6_lend 19 = .ok (.iload 4, 2) := by decide +kernel
theorem dX6_lend_21 : decode cX6_lend 21 = .ok (.invokevirtual 66, 3) := by decide +kernel
theorem dX6_lend_24 : decode cX6_lend 24 = .ok (.invokevirtual 51, 3) := by decide +kernel
theorem dX6_lend_27 : decode cX6_lend 27 = .ok (.ireturn, 1) := by decide +kernel
set_option maxRecDepth 20000 in
theorem ggX6_back_X1_copyFrom : GoodIn wsX6_back wsX1_copyFrom := goodIn_r _ [7, 8, 9, 10, 11, 12, 13, 14, 15, 16, 17, 18, 19, 20, 21, 22, 23, 24, 25, 26, 27, 28, 29, 30, 31, 32, 33, 34, 35, 36, 37, 38, 39, 40, 41, 42, 43, 44, 45, 46, 47, 48, 49, 50, 51, 52, 53, 54, 55, 56, 57, 58, 110, 111, 112, 113, 114, 115, 116, 117, 118, 119, 120, 121, 122, 123, 124, 125, 126, 127, 128, 129, 130, 131, 132, 133, 134, 135, 136, 137, 138] (by decide +kernel) (by decide +kernel)
set_option maxRecDepth 20000 in
theorem gX6_back_X1_copyFrom : GoodIn wsX6_back (wsV RX6 43 RX1 yX1_copyFrom wsX1_copyFrom) := goodIn_app (goodIn_of _ (by decide +kernel)) ggX6_back_X1_copyFrom
set_option maxRecDepth 20000 in
theorem ggX6_back_X1_giveBack : GoodIn wsX6_back wsX1_giveBack := goodIn_r _ [62, 9, 63, 64, 65, 66, 67, 34, 68, 36, 69, 70, 71, 72, 43, 73, 74, 75, 76, 77, 78, 79, 80, 81, 82, 83, 110, 111, 112, 113, 114, 115, 116, 117, 118, 123, 124, 125, 126, 127, 128, 129, 130, 131, 132] (by decide +kernel) (by decide +kernel)
set_option maxRecDepth 20000 in
theorem gX6_back_X1_giveBack : GoodIn wsX6_back (wsV RX6 69 RX1 yX1_giveBack wsX1_giveBack) := goodIn_app (goodIn_of _ (by decide +kernel)) ggX6_back_X1_giveBack
set_option maxRecDepth 20000 in
theorem ggX6_back_X6_recorded : GoodIn wsX6_back wsX6_recorded := goodIn_r _ [88, 89, 1, 90, 91, 92, 93, 94, 95, 96, 97, 98, 99, 100, 101, 102, 4, 5, 6, 7, 8, 9, 10, 11, 12, 13, 14, 15, 16, 17, 18, 19, 20, 21, 22, 23, 24, 25, 26, 27, 28, 29, 30, 31, 32, 33, 34, 35, 36, 37, 38, 39, 40, 41, 42, 43, 44, 45, 46, 47, 48, 49, 50, 51, 52, 53, 54, 55, 56, 57, 58, 103, 104, 105, 106, 107, 108, 109, 139, 140, 141, 110, 111, 112, 113, 114, 115, 116, 117, 118, 119, 120, 121, 122, 123, 124, 125, 126, 127, 128, 129, 130, 131, 132, 133, 134, 135, 136, 137, 138] (by decide +kernel) (by decide +kernel)
set_option maxRecDepth 20000 in
theorem gX6_back_X6_recorded : GoodIn wsX6_back (wsV RX6 51 RX6 yX6_recorded wsX6_recorded) := goodIn_app (goodIn_of _ (by decide +kernel)) ggX6_back_X6_recorded
theorem dX6_back_0 : decode cX6_back 0 = .ok (.aload_n 0, 1) := by decide +kernel
theorem dX6_back_1 : decode cX6_back 1 = .ok (.getfield 16, 3) := by decide +kernel
theorem dX6_back_4 : decode cX6_back 4 = .ok (.aload_n 0, 1) := by decide +kernel
theorem dX6_back_5 : decode cX6_back 5 = .ok (.getfield 10, 3) := by decide +kernel
theorem dX6_back_8 : decode cX6_back 8 = .ok (.invokevirtual 43, 3) := by decide +kernel
theorem dX6_back_11 : decode cX6_back 11 = .ok (.aload_n 0, 1) := by decide +kernel
theorem dX6_back_12 : decode cX6_back 12 = .ok (.aload_n 0, 1) := by decide +kernel
theorem dX6_back_13 : decode cX6_back 13 = .ok (.getfield 10, 3) := by decide +kernel
theorem dX6_back_16 : decode cX6_back 16 = .ok (.iload_n 1, 1) := by decide +kernel
theorem dX6_back_17 : decode cX6_back 17 = .ok (.invokevirtual 69, 3) := by decide +kernel
theorem dX6_back_20 : decode cX6_back 20 = .ok (.invokevirtual 51, 3) := by decide +kernel
theorem dX6_back_23 : decode cX6_back 23 = .ok (.ireturn, 1) := by decide +kernel
set_option maxRecDepth 20000 in
theorem ggX6_keep_X1_copyFrom : GoodIn wsX6_keep wsX1_copyFrom := goodIn_r _ [7, 8, 9, 10, 11, 12, 13, 14, 15, 16, 17, 18, 19, 20, 21, 22, 23, 24, 25, 26, 27, 28, 29, 30, 31, 32, 33, 34, 35, 36, 37, 38, 39, 40, 41, 42, 43, 44, 45, 46, 47, 48, 49, 50, 51, 52, 53, 54, 55, 56, 57, 58, 111, 112, 113, 114, 115, 116, 117, 118, 119, 120, 121, 122, 123, 124, 125, 126, 127, 128, 129, 130, 131, 132, 133, 134, 135, 136, 137, 138, 139] (by decide +kernel) (by decide +kernel)
set_option maxRecDepth 20000 in
theorem gX6_keep_X1_copyFrom : GoodIn wsX6_keep (wsV RX6 43 RX1 yX1_copyFrom wsX1_copyFrom) := goodIn_app (goodIn_of _ (by decide +kernel)) ggX6_keep_X1_copyFrom
set_option maxRecDepth 20000 in
theorem ggX6_keep_X1_keepStone : GoodIn wsX6_keep wsX1_keepStone := goodIn_r _ [62, 9, 63, 64, 65, 66, 67, 34, 68, 36, 69, 70, 71, 72, 43, 73, 74, 75, 6, 76, 10, 11, 77, 78, 79, 80, 16, 81, 82, 83, 50, 84, 52, 111, 112, 113, 114, 115, 116, 117, 118, 119, 124, 125, 126, 127, 128, 129, 130, 131, 132, 133, 134, 135, 136, 137, 138, 139] (by decide +kernel) (by decide +kernel)
set_option maxRecDepth 20000 in
theorem gX6_keep_X1_keepStone : GoodIn wsX6_keep (wsV RX6 72 RX1 yX1_keepStone wsX1_keepStone) := goodIn_app (goodIn_of _ (by decide +kernel)) ggX6_keep_X1_keepStone
set_option maxRecDepth 20000 in
theorem ggX6_keep_X6_recorded : GoodIn wsX6_keep wsX6_recorded := goodIn_r _ [89, 90, 1, 91, 92, 93, 94, 95, 96, 97, 98, 99, 100, 101, 102, 103, 4, 5, 6, 7, 8, 9, 10, 11, 12, 13, 14, 15, 16, 17, 18, 19, 20, 21, 22, 23, 24, 25, 26, 27, 28, 29, 30, 31, 32, 33, 34, 35, 36, 37, 38, 39, 40, 41, 42, 43, 44, 45, 46, 47, 48, 49, 50, 51, 52, 53, 54, 55, 56, 57, 58, 104, 105, 106, 107, 108, 109, 110, 140, 141, 142, 111, 112, 113, 114, 115, 116, 117, 118, 119, 120, 121, 122, 123, 124, 125, 126, 127, 128, 129, 130, 131, 132, 133, 134, 135, 136, 137, 138, 139] (by decide +kernel) (by decide +kernel)
set_option maxRecDepth 20000 in
theorem gX6_keep_X6_recorded : GoodIn wsX6_keep (wsV RX6 51 RX6 yX6_recorded wsX6_recorded) := goodIn_app (goodIn_of _ (by decide +kernel)) ggX6_keep_X6_recorded
theorem dX6_keep_0 : decode cX6_keep 0 = .ok (.aload_n 0, 1) := by decide +kernel
theorem dX6_keep_1 : decode cX6_keep 1 = .ok (.getfield 16, 3) := by decide +kernel
theorem dX6_keep_4 : decode cX6_keep 4 = .ok (.aload_n 0, 1) := by decide +kernel
theorem dX6_keep_5 : decode cX6_keep 5 = .ok (.getfield 10, 3) := by decide +kernel
theorem dX6_keep_8 : decode cX6_keep 8 = .ok (.invokevirtual 43, 3) := by decide +kernel
theorem dX6_keep_11 : decode cX6_keep 11 = .ok (.aload_n 0, 1) := by decide +kernel
theorem dX6_keep_12 : decode cX6_keep 12 = .ok (.aload_n 0, 1) := by decide +kernel
theorem dX6_keep_13 : decode cX6_keep 13 = .ok (.getfield 10, 3) := by decide +kernel
theorem dX6_keep_16 : decode cX6_keep 16 = .ok (.iload_n 1, 1) := by decide +kernel
theorem dX6_keep_17 : decode cX6_keep 17 = .ok (.invokevirtual 72, 3) := by decide +kernel
theorem dX6_keep_20 : decode cX6_keep 20 = .ok (.invokevirtual 51, 3) := by decide +kernel
theorem dX6_keep_23 : decode cX6_keep 23 = .ok (.ireturn, 1) := by decide +kernel
set_option maxRecDepth 20000 in
theorem ggX6_sell_X1_copyFrom : GoodIn wsX6_sell wsX1_copyFrom := goodIn_r _ [7, 8, 9, 10, 11, 12, 13, 14, 15, 16, 17, 18, 19, 20, 21, 22, 23, 24, 25, 26, 27, 28, 29, 30, 31, 32, 33, 34, 35, 36, 37, 38, 39, 40, 41, 42, 43, 44, 45, 46, 47, 48, 49, 50, 51, 52, 53, 54, 55, 56, 57, 58, 108, 109, 110, 111, 112, 113, 114, 115, 116, 117, 118, 119, 120, 121, 122, 123, 124, 125, 126, 127, 128, 129, 130, 131, 132, 133, 134, 135, 136] (by decide +kernel) (by decide +kernel)
set_option maxRecDepth 20000 in
theorem gX6_sell_X1_copyFrom : GoodIn wsX6_sell (wsV RX6 43 RX1 yX1_copyFrom wsX1_copyFrom) := goodIn_app (goodIn_of _ (by decide +kernel)) ggX6_sell_X1_copyFrom
set_option maxRecDepth 20000 in
theorem ggX6_sell_X1_sellStone : GoodIn wsX6_sell wsX1_sellStone := goodIn_r _ [62, 9, 63, 64, 11, 65, 66, 67, 68, 34, 69, 36, 70, 71, 72, 73, 43, 74, 75, 76, 77, 45, 78, 79, 80, 6, 81, 16, 108, 109, 110, 111, 112, 113, 114, 115, 116, 121, 122, 123, 124, 125, 126, 127, 128, 129, 130] (by decide +kernel) (by decide +kernel)
set_option maxRecDepth 20000 in
theorem gX6_sell_X1_sellStone : GoodIn wsX6_sell (wsV RX6 75 RX1 yX1_sellStone wsX1_sellStone) := goodIn_app (goodIn_of _ (by decide +kernel)) ggX6_sell_X1_sellStone
set_option maxRecDepth 20000 in
theorem ggX6_sell_X6_recorded : GoodIn wsX6_sell wsX6_recorded := goodIn_r _ [86, 87, 1, 88, 89, 90, 91, 92, 93, 94, 95, 96, 97, 98, 99, 100, 4, 5, 6, 7, 8, 9, 10, 11, 12, 13, 14, 15, 16, 17, 18, 19, 20, 21, 22, 23, 24, 25, 26, 27, 28, 29, 30, 31, 32, 33, 34, 35, 36, 37, 38, 39, 40, 41, 42, 43, 44, 45, 46, 47, 48, 49, 50, 51, 52, 53, 54, 55, 56, 57, 58, 101, 102, 103, 104, 105, 106, 107, 137, 138, 139, 108, 109, 110, 111, 112, 113, 114, 115, 116, 117, 118, 119, 120, 121, 122, 123, 124, 125, 126, 127, 128, 129, 130, 131, 132, 133, 134, 135, 136] (by decide +kernel) (by decide +kernel)
set_option maxRecDepth 20000 in
theorem gX6_sell_X6_recorded : GoodIn wsX6_sell (wsV RX6 51 RX6 yX6_recorded wsX6_recorded) := goodIn_app (goodIn_of _ (by decide +kernel)) ggX6_sell_X6_recorded
theorem dX6_sell_0 : decode cX6_sell 0 = .ok (.aload_n 0, 1) := by decide +kernel
theorem dX6_sell_1 : decode cX6_sell 1 = .ok (.getfield 16, 3) := by decide +kernel
theorem dX6_sell_4 : decode cX6_sell 4 = .ok (.aload_n 0, 1) := by decide +kernel
theorem dX6_sell_5 : decode cX6_sell 5 = .ok (.getfield 10, 3) := by decide +kernel
theorem dX6_sell_8 : decode cX6_sell 8 = .ok (.invokevirtual 43, 3) := by decide +kernel
theorem dX6_sell_11 : decode cX6_sell 11 = .ok (.aload_n 0, 1) := by decide +kernel
theorem dX6_sell_12 : decode cX6_sell 12 = .ok (.aload_n 0, 1) := by decide +kernel
theorem dX6_sell_13 : decode cX6_sell 13 = .ok (.getfield 10, 3) := by decide +kernel
theorem dX6_sell_16 : decode cX6_sell 16 = .ok (.iload_n 1, 1) := by decide +kernel
theorem dX6_sell_17 : decode cX6_sell 17 = .ok (.iload_n 2, 1) := by decide +kernel
theorem dX6_sell_18 : decode cX6_sell 18 = .ok (.invokevirtual 75, 3) := by decide +kernel
theorem dX6_sell_21 : decode cX6_sell 21 = .ok (.invokevirtual 51, 3) := by decide +kernel
theorem dX6_sell_24 : decode cX6_sell 24 = .ok (.ireturn, 1) := by decide +kernel
set_option maxRecDepth 20000 in
theorem ggX6_grade_X1_copyFrom : GoodIn wsX6_grade wsX1_copyFrom := goodIn_r _ [7, 8, 9, 10, 11, 12, 13, 14, 15, 16, 17, 18, 19, 20, 21, 22, 23, 24, 25, 26, 27, 28, 29, 30, 31, 32, 33, 34, 35, 36, 37, 38, 39, 40, 41, 42, 43, 44, 45, 46, 47, 48, 49, 50, 51, 52, 53, 54, 55, 56, 57, 58, 117, 118, 119, 120, 121, 122, 123, 124, 125, 126, 127, 128, 129, 130, 131, 132, 133, 134, 135, 136, 137, 138, 139, 140, 141, 142, 143, 144, 145] (by decide +kernel) (by decide +kernel)
set_option maxRecDepth 20000 in
theorem gX6_grade_X1_copyFrom : GoodIn wsX6_grade (wsV RX6 43 RX1 yX1_copyFrom wsX1_copyFrom) := goodIn_app (goodIn_of _ (by decide +kernel)) ggX6_grade_X1_copyFrom
set_option maxRecDepth 20000 in
theorem ggX6_grade_X1_regrade : GoodIn wsX6_grade wsX1_regrade := goodIn_r _ [62, 9, 63, 64, 65, 66, 67, 34, 68, 36, 69, 70, 71, 72, 73, 74, 75, 45, 76, 77, 78, 6, 79, 8, 80, 81, 82, 83, 37, 84, 85, 86, 24, 87, 30, 26, 28, 29, 88, 89, 90, 91, 43, 117, 118, 119, 120, 121, 122, 123, 124, 125, 130, 131, 132, 133, 134, 135, 136, 137, 138, 139, 126, 127, 128, 129] (by decide +kernel) (by decide +kernel)
set_option maxRecDepth 20000 in
theorem gX6_grade_X1_regrade : GoodIn wsX6_grade (wsV RX6 79 RX1 yX1_regrade wsX1_regrade) := goodIn_app (goodIn_of _ (by decide +kernel)) ggX6_grade_X1_regrade
set_option maxRecDepth 20000 in
theorem ggX6_grade_X6_recorded : GoodIn wsX6_grade wsX6_recorded := goodIn_r _ [95, 96, 1, 97, 98, 99, 100, 101, 102, 103, 104, 105, 106, 107, 108, 109, 4, 5, 6, 7, 8, 9, 10, 11, 12, 13, 14, 15, 16, 17, 18, 19, 20, 21, 22, 23, 24, 25, 26, 27, 28, 29, 30, 31, 32, 33, 34, 35, 36, 37, 38, 39, 40, 41, 42, 43, 44, 45, 46, 47, 48, 49, 50, 51, 52, 53, 54, 55, 56, 57, 58, 110, 111, 112, 113, 114, 115, 116, 146, 147, 148, 117, 118, 119, 120, 121, 122, 123, 124, 125, 126, 127, 128, 129, 130, 131, 132, 133, 134, 135, 136, 137, 138, 139, 140, 141, 142, 143, 144, 145] (by decide +kernel) (by decide +kernel)
set_option maxRecDepth 20000 in
theorem gX6_grade_X6_recorded : GoodIn wsX6_grade (wsV RX6 51 RX6 yX6_recorded wsX6_recorded) := goodIn_app (goodIn_of _ (by decide +kernel)) ggX6_grade_X6_recorded
theorem dX6_grade_0 : decode cX6_grade 0 = .ok (.aload_n 0, 1) := by decide +kernel
theorem dX6_grade_1 : decode cX6_grade 1 = .ok (.getfield 16, 3) := by decide +kernel
theorem dX6_grade_4 : decode cX6_grade 4 = .ok (.aload_n 0, 1) := by decide +kernel
theorem dX6_grade_5 : decode cX6_grade 5 = .ok (.getfield 10, 3) := by decide +kernel
theorem dX6_grade_8 : decode cX6_grade 8 = .ok (.invokevirtual 43, 3) := by decide +kernel
theorem dX6_grade_11 : decode cX6_grade 11 = .ok (.aload_n 0, 1) := by decide +kernel
theorem dX6_grade_12 : decode cX6_grade 12 = .ok (.aload_n 0, 1) := by decide +kernel
theorem dX6_grade_13 : decode cX6_grade 13 = .ok (.getfield 10, 3) := by decide +kernel
theorem dX6_grade_16 : decode cX6_grade 16 = .ok (.iload_n 1, 1) := by decide +kernel
theorem dX6_grade_17 : decode cX6_grade 17 = .ok (.iload_n 2, 1) := by decide +kernel
theorem dX6_grade_18 : decode cX6_grade 18 = .ok (.iload_n 3, 1) := by decide +kernel
theorem dX6_grade_19 : decode cX6_grade 19 = .ok (.invokevirtual 79, 3) := by decide +kernel
theorem dX6_grade_22 : decode cX6_grade 22 = .ok (.invokevirtual 51, 3) := by decide +kernel
theorem dX6_grade_25 : decode cX6_grade 25 = .ok (.ireturn, 1) := by decide +kernel
set_option maxRecDepth 20000 in
theorem ggX6_pause_X1_copyFrom : GoodIn wsX6_pause wsX1_copyFrom := goodIn_r _ [7, 8, 9, 10, 11, 12, 13, 14, 15, 16, 17, 18, 19, 20, 21, 22, 23, 24, 25, 26, 27, 28, 29, 30, 31, 32, 33, 34, 35, 36, 37, 38, 39, 40, 41, 42, 43, 44, 45, 46, 47, 48, 49, 50, 51, 52, 53, 54, 55, 56, 57, 58, 107, 108, 109, 110, 111, 112, 113, 114, 115, 116, 117, 118, 119, 120, 121, 122, 123, 124, 125, 126, 127, 128, 129, 130, 131, 132, 133, 134, 135] (by decide +kernel) (by decide +kernel)
set_option maxRecDepth 20000 in
theorem gX6_pause_X1_copyFrom : GoodIn wsX6_pause (wsV RX6 43 RX1 yX1_copyFrom wsX1_copyFrom) := goodIn_app (goodIn_of _ (by decide +kernel)) ggX6_pause_X1_copyFrom
set_option maxRecDepth 20000 in
theorem ggX6_pause_X1_passDays : GoodIn wsX6_pause wsX1_passDays := goodIn_r _ [62, 63, 17, 64, 20, 65, 66, 67, 6, 68, 10, 18, 9, 19, 69, 70, 71, 72, 11, 73, 74, 75, 76, 16, 77, 78, 79, 50, 80, 52, 107, 108, 109, 110, 111, 112, 113, 114, 115, 130, 131, 132, 133, 134, 135, 120, 121, 122, 123, 124, 125, 126, 127, 128, 129] (by decide +kernel) (by decide +kernel)
set_option maxRecDepth 20000 in
theorem gX6_pause_X1_passDays : GoodIn wsX6_pause (wsV RX6 82 RX1 yX1_passDays wsX1_passDays) := goodIn_app (goodIn_of _ (by decide +kernel)) ggX6_pause_X1_passDays
set_option maxRecDepth 20000 in
theorem ggX6_pause_X6_recorded : GoodIn wsX6_pause wsX6_recorded := goodIn_r _ [85, 86, 1, 87, 88, 89, 90, 91, 92, 93, 94, 95, 96, 97, 98, 99, 4, 5, 6, 7, 8, 9, 10, 11, 12, 13, 14, 15, 16, 17, 18, 19, 20, 21, 22, 23, 24, 25, 26, 27, 28, 29, 30, 31, 32, 33, 34, 35, 36, 37, 38, 39, 40, 41, 42, 43, 44, 45, 46, 47, 48, 49, 50, 51, 52, 53, 54, 55, 56, 57, 58, 100, 101, 102, 103, 104, 105, 106, 136, 137, 138, 107, 108, 109, 110, 111, 112, 113, 114, 115, 116, 117, 118, 119, 120, 121, 122, 123, 124, 125, 126, 127, 128, 129, 130, 131, 132, 133, 134, 135] (by decide +kernel) (by decide +kernel)
set_option maxRecDepth 20000 in
theorem gX6_pause_X6_recorded : GoodIn wsX6_pause (wsV RX6 51 RX6 yX6_recorded wsX6_recorded) := goodIn_app (goodIn_of _ (by decide +kernel)) ggX6_pause_X6_recorded
theorem dX6_pause_0 : decode cX6_pause 0 = .ok (.aload_n 0, 1) := by decide +kernel
theorem dX6_pause_1 : decode cX6_pause 1 = .ok (.getfield 16, 3) := by decide +kernel
theorem dX6_pause_4 : decode cX6_pause 4 = .ok (.aload_n 0, 1) := by decide +kernel
theorem dX6_pause_5 : decode cX6_pause 5 = .ok (.getfield 10, 3) := by decide +kernel
theorem dX6_pause_8 : decode cX6_pause 8 = .ok (.invokevirtual 43, 3) := by decide +kernel
theorem dX6_pause_11 : decode cX6_pause 11 = .ok (.aload_n 0, 1) := by decide +kernel
theorem dX6_pause_12 : decode cX6_pause 12 = .ok (.aload_n 0, 1) := by decide +kernel
theorem dX6_pause_13 : decode cX6_pause 13 = .ok (.getfield 10, 3) := by decide +kernel
theorem dX6_pause_16 : decode cX6_pause 16 = .ok (.iload_n 1, 1) := by decide +kernel
theorem dX6_pause_17 : decode cX6_pause 17 = .ok (.invokevirtual 82, 3) := by decide +kernel
theorem dX6_pause_20 : decode cX6_pause 20 = .ok (.invokevirtual 51, 3) := by decide +kernel
theorem dX6_pause_23 : decode cX6_pause 23 = .ok (.ireturn, 1) := by decide +kernel
set_option maxRecDepth 20000 in
theorem ggX6_set_X1_copyFrom : GoodIn wsX6_set wsX1_copyFrom := goodIn_r _ [7, 8, 9, 10, 11, 12, 13, 14, 15, 16, 17, 18, 19, 20, 21, 22, 23, 24, 25, 26, 27, 28, 29, 30, 31, 32, 33, 34, 35, 36, 37, 38, 39, 40, 41, 42, 43, 44, 45, 46, 47, 48, 49, 50, 51, 52, 53, 54, 55, 56, 57, 58, 90, 91, 92, 93, 94, 95, 96, 97, 98, 99, 100, 101, 102, 103, 104, 105, 106, 107, 108, 109, 110, 111, 112, 113, 114, 115, 116, 117, 118] (by decide +kernel) (by decide +kernel)
set_option maxRecDepth 20000 in
theorem gX6_set_X1_copyFrom : GoodIn wsX6_set (wsV RX6 43 RX1 yX1_copyFrom wsX1_copyFrom) := goodIn_app (goodIn_of _ (by decide +kernel)) ggX6_set_X1_copyFrom
set_option maxRecDepth 20000 in
theorem ggX6_set_X1_putSetting : GoodIn wsX6_set wsX1_putSetting := goodIn_r _ [62, 63, 18, 19, 90, 91, 92, 93, 94, 95, 96, 97, 98] (by decide +kernel) (by decide +kernel)
set_option maxRecDepth 20000 in
theorem gX6_set_X1_putSetting : GoodIn wsX6_set (wsV RX6 85 RX1 yX1_putSetting wsX1_putSetting) := goodIn_app (goodIn_of _ (by decide +kernel)) ggX6_set_X1_putSetting
set_option maxRecDepth 20000 in
theorem ggX6_set_X6_recorded : GoodIn wsX6_set wsX6_recorded := goodIn_r _ [68, 69, 1, 70, 71, 72, 73, 74, 75, 76, 77, 78, 79, 80, 81, 82, 4, 5, 6, 7, 8, 9, 10, 11, 12, 13, 14, 15, 16, 17, 18, 19, 20, 21, 22, 23, 24, 25, 26, 27, 28, 29, 30, 31, 32, 33, 34, 35, 36, 37, 38, 39, 40, 41, 42, 43, 44, 45, 46, 47, 48, 49, 50, 51, 52, 53, 54, 55, 56, 57, 58, 83, 84, 85, 86, 87, 88, 89, 119, 120, 121, 90, 91, 92, 93, 94, 95, 96, 97, 98, 99, 100, 101, 102, 103, 104, 105, 106, 107, 108, 109, 110, 111, 112, 113, 114, 115, 116, 117, 118] (by decide +kernel) (by decide +kernel)
set_option maxRecDepth 20000 in
theorem gX6_set_X6_recorded : GoodIn wsX6_set (wsV RX6 51 RX6 yX6_recorded wsX6_recorded) := goodIn_app (goodIn_of _ (by decide +kernel)) ggX6_set_X6_recorded
theorem dX6_set_0 : decode cX6_set 0 = .ok (.aload_n 0, 1) := by decide +kernel
theorem dX6_set_1 : decode cX6_set 1 = .ok (.getfield 16, 3) := by decide +kernel
theorem dX6_set_4 : decode cX6_set 4 = .ok (.aload_n 0, 1) := by decide +kernel
theorem dX6_set_5 : decode cX6_set 5 = .ok (.getfield 10, 3) := by decide +kernel
theorem dX6_set_8 : decode cX6_set 8 = .ok (.invokevirtual 43, 3) := by decide +kernel
theorem dX6_set_11 : decode cX6_set 11 = .ok (.aload_n 0, 1) := by decide +kernel
theorem dX6_set_12 : decode cX6_set 12 = .ok (.aload_n 0, 1) := by decide +kernel
theorem dX6_set_13 : decode cX6_set 13 = .ok (.getfield 10, 3) := by decide +kernel
theorem dX6_set_16 : decode cX6_set 16 = .ok (.iload_n 1, 1) := by decide +kernel
theorem dX6_set_17 : decode cX6_set 17 = .ok (.iload_n 2, 1) := by decide +kernel
theorem dX6_set_18 : decode cX6_set 18 = .ok (.invokevirtual 85, 3) := by decide +kernel
theorem dX6_set_21 : decode cX6_set 21 = .ok (.invokevirtual 51, 3) := by decide +kernel
theorem dX6_set_24 : decode cX6_set 24 = .ok (.ireturn, 1) := by decide +kernel
set_option maxRecDepth 20000 in
theorem ggX6_stoneOf_X5_has : GoodIn wsX6_stoneOf wsX5_has := goodIn_r _ [7, 8, 62, 63, 64, 65, 66, 67, 68, 69, 70, 71] (by decide +kernel) (by decide +kernel)
set_option maxRecDepth 20000 in
theorem gX6_stoneOf_X5_has : GoodIn wsX6_stoneOf (wsV RX6 92 RX5 yX5_has wsX5_has) := goodIn_app (goodIn_of _ (by decide +kernel)) ggX6_stoneOf_X5_has
set_option maxRecDepth 20000 in
theorem ggX6_stoneOf_X1_tellStone : GoodIn wsX6_stoneOf wsX1_tellStone := goodIn_r _ [13, 14, 15, 16, 17, 18, 19, 6, 20, 21, 22, 23, 24, 25, 26, 27, 28, 29, 12, 30, 31, 32, 33, 34, 35, 36, 37, 38, 39, 40, 41, 42, 43, 44, 45, 53, 54, 55, 56, 57, 58, 59, 60, 61, 62, 63, 64, 65, 66, 67, 68, 69, 70, 71, 72, 73, 74, 75] (by decide +kernel) (by decide +kernel)
set_option maxRecDepth 20000 in
theorem gX6_stoneOf_X1_tellStone : GoodIn wsX6_stoneOf (wsV RX6 99 RX1 yX1_tellStone wsX1_tellStone) := goodIn_app (goodIn_of _ (by decide +kernel)) ggX6_stoneOf_X1_tellStone
theorem dX6_stoneOf_0 : decode cX6_stoneOf 0 = .ok (.aload_n 0, 1) := by decide +kernel
theorem dX6_stoneOf_1 : decode cX6_stoneOf 1 = .ok (.getfield 10, 3) := by decide +kernel
theorem dX6_stoneOf_4 : decode cX6_stoneOf 4 = .ok (.getfield 88, 3) := by decide +kernel
theorem dX6_stoneOf_7 : decode cX6_stoneOf 7 = .ok (.iload_n 1, 1) := by decide +kernel
theorem dX6_stoneOf_8 : decode cX6_stoneOf 8 = .ok (.invokevirtual 92, 3) := by decide +kernel
theorem dX6_stoneOf_11 : decode cX6_stoneOf 11 = .ok (.ifCond .ne 6, 3) := by decide +kernel
theorem dX6_stoneOf_14 : decode cX6_stoneOf 14 = .ok (.ldc 98, 2) := by decide +kernel
theorem dX6_stoneOf_16 : decode cX6_stoneOf 16 = .ok (.ireturn, 1) := by decide +kernel
theorem dX6_stoneOf_17 : decode cX6_stoneOf 17 = .ok (.aload_n 0, 1) := by decide +kernel
theorem dX6_stoneOf_18 : decode cX6_stoneOf 18 = .ok (.getfield 10, 3) := by decide +kernel
theorem dX6_stoneOf_21 : decode cX6_stoneOf 21 = .ok (.iload_n 1, 1) := by decide +kernel
theorem dX6_stoneOf_22 : decode cX6_stoneOf 22 = .ok (.iload_n 2, 1) := by decide +kernel
theorem dX6_stoneOf_23 : decode cX6_stoneOf 23 = .ok (.invokevirtual 99, 3) := by decide +kernel
theorem dX6_stoneOf_26 : decode cX6_stoneOf 26 = .ok (.ireturn, 1) := by decide +kernel
set_option maxRecDepth 20000 in
theorem ggX6_dealerOf_X1_hasDealer : GoodIn wsX6_dealerOf wsX1_hasDealer := goodIn_r _ [7, 8, 63, 64, 65, 66, 67, 68, 69, 70, 71] (by decide +kernel) (by decide +kernel)
set_option maxRecDepth 20000 in
theorem gX6_dealerOf_X1_hasDealer : GoodIn wsX6_dealerOf (wsV RX6 102 RX1 yX1_hasDealer wsX1_hasDealer) := goodIn_app (goodIn_of _ (by decide +kernel)) ggX6_dealerOf_X1_hasDealer
set_option maxRecDepth 20000 in
theorem ggX6_dealerOf_X1_tellDealer : GoodIn wsX6_dealerOf wsX1_tellDealer := goodIn_r _ [12, 13, 14, 15, 16, 17, 18, 19, 20, 21, 22, 23, 24, 25, 6, 26, 27, 28, 29, 30, 31, 32, 33, 34, 35, 36, 37, 38, 39, 40, 41, 42, 43, 44, 45, 46, 47, 48, 49, 50, 51, 52, 53, 54, 55, 63, 64, 65, 66, 67, 68, 69, 70, 71, 72, 73, 74, 75, 76, 77, 78, 79, 80, 81, 82, 83, 84, 85] (by decide +kernel) (by decide +kernel)
set_option maxRecDepth 20000 in
theorem gX6_dealerOf_X1_tellDealer : GoodIn wsX6_dealerOf (wsV RX6 105 RX1 yX1_tellDealer wsX1_tellDealer) := goodIn_app (goodIn_of _ (by decide +kernel)) ggX6_dealerOf_X1_tellDealer
theorem dX6_dealerOf_0 : decode cX6_dealerOf 0 = .ok (.aload_n 0, 1) := by decide +kernel
theorem dX6_dealerOf_1 : decode cX6_dealerOf 1 = .ok (.getfield 10, 3) := by decide +kernel
theorem dX6_dealerOf_4 : decode cX6_dealerOf 4 = .ok (.iload_n 1, 1) := by decide +kernel
theorem dX6_dealerOf_5 : decode cX6_dealerOf 5 = .ok (.invokevirtual 102, 3) := by decide +kernel
theorem dX6_dealerOf_8 : decode cX6_dealerOf 8 = .ok (.ifCond .ne 6, 3) := by decide +kernel
theorem dX6_dealerOf_11 : decode cX6_dealerOf 11 = .ok (.ldc 98, 2) := by decide +kernel
theorem dX6_dealerOf_13 : decode cX6_dealerOf 13 = .ok (.ireturn, 1) := by decide +kernel
theorem dX6_dealerOf_14 : decode cX6_dealerOf 14 = .ok (.aload_n 0, 1) := by decide +kernel
theorem dX6_dealerOf_15 : decode cX6_dealerOf 15 = .ok (.getfield 10, 3) := by decide +kernel
theorem dX6_dealerOf_18 : decode cX6_dealerOf 18 = .ok (.iload_n 1, 1) := by decide +kernel
theorem dX6_dealerOf_19 : decode cX6_dealerOf 19 = .ok (.iload_n 2, 1) := by decide +kernel
theorem dX6_dealerOf_20 : decode cX6_dealerOf 20 = .ok (.invokevirtual 105, 3) := by decide +kernel
theorem dX6_dealerOf_23 : decode cX6_dealerOf 23 = .ok (.ireturn, 1) := by decide +kernel
set_option maxRecDepth 20000 in
theorem ggX6_memoOf_X2_has : GoodIn wsX6_memoOf wsX2_has := goodIn_r _ [7, 8, 48, 49, 50, 51, 52, 53] (by decide +kernel) (by decide +kernel)
set_option maxRecDepth 20000 in
theorem gX6_memoOf_X2_has : GoodIn wsX6_memoOf (wsV RX6 112 RX2 yX2_has wsX2_has) := goodIn_app (goodIn_of _ (by decide +kernel)) ggX6_memoOf_X2_has
set_option maxRecDepth 20000 in
theorem ggX6_memoOf_X1_tellMemo : GoodIn wsX6_memoOf wsX1_tellMemo := goodIn_r _ [13, 14, 15, 16, 17, 18, 19, 20, 21, 22, 23, 24, 25, 26, 27, 28, 29, 30, 12, 31, 39, 40, 41, 42, 43, 44, 45, 46, 47, 48, 49, 50, 51, 52, 53, 54, 55, 56, 57, 58, 59, 60, 61, 62, 63] (by decide +kernel) (by decide +kernel)
set_option maxRecDepth 20000 in
theorem gX6_memoOf_X1_tellMemo : GoodIn wsX6_memoOf (wsV RX6 115 RX1 yX1_tellMemo wsX1_tellMemo) := goodIn_app (goodIn_of _ (by decide +kernel)) ggX6_memoOf_X1_tellMemo
theorem dX6_memoOf_0 : decode cX6_memoOf 0 = .ok (.aload_n 0, 1) := by decide +kernel
theorem dX6_memoOf_1 : decode cX6_memoOf 1 = .ok (.getfield 10, 3) := by decide +kernel
theorem dX6_memoOf_4 : decode cX6_memoOf 4 = .ok (.getfield 108, 3) := by decide +kernel
theorem dX6_memoOf_7 : decode cX6_memoOf 7 = .ok (.iload_n 1, 1) := by decide +kernel
theorem dX6_memoOf_8 : decode cX6_memoOf 8 = .ok (.invokevirtual 112, 3) := by decide +kernel
theorem dX6_memoOf_11 : decode cX6_memoOf 11 = .ok (.ifCond .ne 6, 3) := by decide +kernel
theorem dX6_memoOf_14 : decode cX6_memoOf 14 = .ok (.ldc 98, 2) := by decide +kernel
theorem dX6_memoOf_16 : decode cX6_memoOf 16 = .ok (.ireturn, 1) := by decide +kernel
theorem dX6_memoOf_17 : decode cX6_memoOf 17 = .ok (.aload_n 0, 1) := by decide +kernel
theorem dX6_memoOf_18 : decode cX6_memoOf 18 = .ok (.getfield 10, 3) := by decide +kernel
theorem dX6_memoOf_21 : decode cX6_memoOf 21 = .ok (.iload_n 1, 1) := by decide +kernel
theorem dX6_memoOf_22 : decode cX6_memoOf 22 = .ok (.iload_n 2, 1) := by decide +kernel
theorem dX6_memoOf_23 : decode cX6_memoOf 23 = .ok (.invokevirtual 115, 3) := by decide +kernel
theorem dX6_memoOf_26 : decode cX6_memoOf 26 = .ok (.ireturn, 1) := by decide +kernel
set_option maxRecDepth 20000 in
theorem ggX6_rateOf_X6_isGrade : GoodIn wsX6_rateOf wsX6_isGrade := goodIn_r _ [7, 8, 9, 6, 10] (by decide +kernel) (by decide +kernel)
set_option maxRecDepth 20000 in
theorem gX6_rateOf_X6_isGrade : GoodIn wsX6_rateOf (va_wsS RX6 118 yX6_isGrade wsX6_isGrade) := goodIn_app (goodIn_of _ (by decide +kernel)) ggX6_rateOf_X6_isGrade
set_option maxRecDepth 20000 in
theorem ggX6_rateOf_X3_ownRate : GoodIn wsX6_rateOf wsX3_ownRate := goodIn_r _ [15, 16, 17, 18, 19, 14, 20, 21, 22, 23, 44, 45, 46, 47] (by decide +kernel) (by decide +kernel)
set_option maxRecDepth 20000 in
theorem gX6_rateOf_X3_ownRate : GoodIn wsX6_rateOf (wsV RX6 126 RX3 yX3_ownRate wsX3_ownRate) := goodIn_app (goodIn_of _ (by decide +kernel)) ggX6_rateOf_X3_ownRate
set_option maxRecDepth 20000 in
theorem ggX6_rateOf_X3_rateFor : GoodIn wsX6_rateOf wsX3_rateFor := goodIn_r _ [27, 16, 21, 22, 23, 44, 45, 46, 47] (by decide +kernel) (by decide +kernel)
set_option maxRecDepth 20000 in
theorem gX6_rateOf_X3_rateFor : GoodIn wsX6_rateOf (wsV RX6 131 RX3 yX3_rateFor wsX3_rateFor) := goodIn_app (goodIn_of _ (by decide +kernel)) ggX6_rateOf_X3_rateFor
theorem dX6_rateOf_0 : decode cX6_rateOf 0 = .ok (.iload_n 1, 1) := by decide +kernel
theorem dX6_rateOf_1 : decode cX6_rateOf 1 = .ok (.iload_n 2, 1) := by decide +kernel
theorem dX6_rateOf_2 : decode cX6_rateOf 2 = .ok (.iload_n 3, 1) := by decide +kernel
theorem dX6_rateOf_3 : decode cX6_rateOf 3 = .ok (.invokestatic 118, 3) := by decide +kernel
theorem dX6_rateOf_6 : decode cX6_rateOf 6 = .ok (.ifCond .eq 14, 3) := by decide +kernel
theorem dX6_rateOf_9 : decode cX6_rateOf 9 = .ok (.iload 4, 2) := by decide +kernel
theorem dX6_rateOf_11 : decode cX6_rateOf 11 = .ok (.ifCond .lt 9, 3) := by decide +kernel
theorem dX6_rateOf_14 : decode cX6_rateOf 14 = .ok (.iload 4, 2) := by decide +kernel
theorem dX6_rateOf_16 : decode cX6_rateOf 16 = .ok (.iconst 1, 1) := by decide +kernel
theorem dX6_rateOf_17 : decode cX6_rateOf 17 = .ok (.if_icmp .le 6, 3) := by decide +kernel
theorem dX6_rateOf_20 : decode cX6_rateOf 20 = .ok (.ldc 98, 2) := by decide +kernel
theorem dX6_rateOf_22 : decode cX6_rateOf 22 = .ok (.ireturn, 1) := by decide +kernel
theorem dX6_rateOf_23 : decode cX6_rateOf 23 = .ok (.iload 4, 2) := by decide +kernel
theorem dX6_rateOf_25 : decode cX6_rateOf 25 = .ok (.iconst 1, 1) := by decide +kernel
theorem dX6_rateOf_26 : decode cX6_rateOf 26 = .ok (.if_icmp .ne 19, 3) := by decide +kernel
theorem dX6_rateOf_29 : decode cX6_rateOf 29 = .ok (.aload_n 0, 1) := by decide +kernel
theorem dX6_rateOf_30 : decode cX6_rateOf 30 = .ok (.getfield 10, 3) := by decide +kernel
theorem dX6_rateOf_33 : decode cX6_rateOf 33 = .ok (.getfield 122, 3) := by decide +kernel
theorem dX6_rateOf_36 : decode cX6_rateOf 36 = .ok (.iload_n 1, 1) := by decide +kernel
theorem dX6_rateOf_37 : decode cX6_rateOf 37 = .ok (.iload_n 2, 1) := by decide +kernel
theorem dX6_rateOf_38 : decode cX6_rateOf 38 = .ok (.iload_n 3, 1) := by decide +kernel
theorem dX6_rateOf_39 : decode cX6_rateOf 39 = .ok (.invokevirtual 126, 3) := by decide +kernel
theorem dX6_rateOf_42 : decode cX6_rateOf 42 = .ok (.goto 16, 3) := by decide +kernel
theorem dX6_rateOf_45 : decode cX6_rateOf 45 = .ok (.aload_n 0, 1) := by decide +kernel
theorem dX6_rateOf_46 : decode cX6_rateOf 46 = .ok (.getfield 10, 3) := by decide +kernel
theorem dX6_rateOf_49 : decode cX6_rateOf 49 = .ok (.getfield 122, 3) := by decide +kernel
theorem dX6_rateOf_52 : decode cX6_rateOf 52 = .ok (.iload_n 1, 1) := by decide +kernel
theorem dX6_rateOf_53 : decode cX6_rateOf 53 = .ok (.iload_n 2, 1) := by decide +kernel
theorem dX6_rateOf_54 : decode cX6_rateOf 54 = .ok (.iload_n 3, 1) := by decide +kernel
theorem dX6_rateOf_55 : decode cX6_rateOf 55 = .ok (.invokevirtual 131, 3) := by decide +kernel
theorem dX6_rateOf_58 : decode cX6_rateOf 58 = .ok (.istore 5, 2) := by decide +kernel
theorem dX6_rateOf_60 : decode cX6_rateOf 60 = .ok (.iload 5, 2) := by decide +kernel
theorem dX6_rateOf_62 : decode cX6_rateOf 62 = .ok (.ifCond .ne 8, 3) := by decide +kernel
theorem dX6_rateOf_65 : decode cX6_rateOf 65 = .ok (.ldc 134, 2) := by decide +kernel
theorem dX6_rateOf_67 : decode cX6_rateOf 67 = .ok (.goto 5, 3) := by decide +kernel
theorem dX6_rateOf_70 : decode cX6_rateOf 70 = .ok (.iload 5, 2) := by decide +kernel
theorem dX6_rateOf_72 : decode cX6_rateOf 72 = .ok (.ireturn, 1) := by decide +kernel
set_option maxRecDepth 20000 in
theorem ggX6_count_X1_tellNumber : GoodIn wsX6_count wsX1_tellNumber := goodIn_r _ [9, 10, 11, 12, 13, 14, 15, 16, 17, 18, 19, 20, 21, 22, 23, 24, 25, 26, 27, 28, 29, 30, 31, 32, 33, 34, 35, 36, 37, 38, 39, 40, 41, 42, 8, 43, 44, 45, 46, 47, 48, 49, 50, 51, 52, 53, 54, 55, 56, 57, 58, 59, 60, 61, 62, 63, 64, 65, 66, 85, 86, 87, 88, 89, 90, 91, 92, 93, 94, 95, 96, 97, 98, 99, 100, 101, 102, 103, 104, 105, 106, 107, 108, 109, 110, 111, 112, 113] (by decide +kernel) (by decide +kernel)
set_option maxRecDepth 20000 in
theorem gX6_count_X1_tellNumber : GoodIn wsX6_count (wsV RX6 142 RX1 yX1_tellNumber wsX1_tellNumber) := goodIn_app (goodIn_of _ (by decide +kernel)) ggX6_count_X1_tellNumber
theorem dX6_count_0 : decode cX6_count 0 = .ok (.iload_n 1, 1) := by decide +kernel
theorem dX6_count_1 : decode cX6_count 1 = .ok (.tableswitch 56 11 13 #[27, 35, 43], 27) := by decide +kernel
theorem dX6_count_28 : decode cX6_count 28 = .ok (.aload_n 0, 1) := by decide +kernel
theorem dX6_count_29 : decode cX6_count 29 = .ok (.getfield 28, 3) := by decide +kernel
theorem dX6_count_32 : decode cX6_count 32 = .ok (.getfield 135, 3) := by decide +kernel
theorem dX6_count_35 : decode cX6_count 35 = .ok (.ireturn, 1) := by decide +kernel
theorem dX6_count_36 : decode cX6_count 36 = .ok (.aload_n 0, 1) := by decide +kernel
theorem dX6_count_37 : decode cX6_count 37 = .ok (.getfield 35, 3) := by decide +kernel
theorem dX6_count_40 : decode cX6_count 40 = .ok (.getfield 139, 3) := by decide +kernel
theorem dX6_count_43 : decode cX6_count 43 = .ok (.ireturn, 1) := by decide +kernel
theorem dX6_count_44 : decode cX6_count 44 = .ok (.aload_n 0, 1) := by decide +kernel
theorem dX6_count_45 : decode cX6_count 45 = .ok (.getfield 39, 3) := by decide +kernel
theorem dX6_count_48 : decode cX6_count 48 = .ok (.ifCond .eq 7, 3) := by decide +kernel
theorem dX6_count_51 : decode cX6_count 51 = .ok (.iconst 1, 1) := by decide +kernel
theorem dX6_count_52 : decode cX6_count 52 = .ok (.goto 4, 3) := by decide +kernel
theorem dX6_count_55 : decode cX6_count 55 = .ok (.iconst 0, 1) := by decide +kernel
theorem dX6_count_56 : decode cX6_count 56 = .ok (.ireturn, 1) := by decide +kernel
theorem dX6_count_57 : decode cX6_count 57 = .ok (.aload_n 0, 1) := by decide +kernel
theorem dX6_count_58 : decode cX6_count 58 = .ok (.getfield 10, 3) := by decide +kernel
theorem dX6_count_61 : decode cX6_count 61 = .ok (.iload_n 1, 1) := by decide +kernel
theorem dX6_count_62 : decode cX6_count 62 = .ok (.invokevirtual 142, 3) := by decide +kernel
theorem dX6_count_65 : decode cX6_count 65 = .ok (.ireturn, 1) := by decide +kernel
set_option maxRecDepth 20000 in
theorem ggX6_grades_X1_hasDealer : GoodIn wsX6_grades wsX1_hasDealer := goodIn_r _ [7, 8, 38, 39, 40, 41, 42, 43, 44, 45, 46] (by decide +kernel) (by decide +kernel)
set_option maxRecDepth 20000 in
theorem gX6_grades_X1_hasDealer : GoodIn wsX6_grades (wsV RX6 102 RX1 yX1_hasDealer wsX1_hasDealer) := goodIn_app (goodIn_of _ (by decide +kernel)) ggX6_grades_X1_hasDealer
set_option maxRecDepth 20000 in
theorem ggX6_grades_X5_unlikeGrades : GoodIn wsX6_grades wsX5_unlikeGrades := goodIn_r _ [13, 14, 15, 16, 17, 18, 12, 19, 20, 21, 22, 23, 24, 25, 26, 27, 28, 29, 30, 47, 48, 49, 50, 51, 52, 53, 54, 55, 56] (by decide +kernel) (by decide +kernel)
set_option maxRecDepth 20000 in
theorem gX6_grades_X5_unlikeGrades : GoodIn wsX6_grades (wsV RX6 152 RX5 yX5_unlikeGrades wsX5_unlikeGrades) := goodIn_app (goodIn_of _ (by decide +kernel)) ggX6_grades_X5_unlikeGrades
theorem dX6_grades_0 : decode cX6_grades 0 = .ok (.aload_n 0, 1) := by decide +kernel
theorem dX6_grades_1 : decode cX6_grades 1 = .ok (.getfield 10, 3) := by decide +kernel
theorem dX6_grades_4 : decode cX6_grades 4 = .ok (.iload_n 1, 1) := by decide +kernel
theorem dX6_grades_5 : decode cX6_grades 5 = .ok (.invokevirtual 102, 3) := by decide +kernel
theorem dX6_grades_8 : decode cX6_grades 8 = .ok (.ifCond .ne 6, 3) := by decide +kernel
theorem dX6_grades_11 : decode cX6_grades 11 = .ok (.ldc 98, 2) := by decide +kernel
theorem dX6_grades_13 : decode cX6_grades 13 = .ok (.ireturn, 1) := by decide +kernel
theorem dX6_grades_14 : decode cX6_grades 14 = .ok (.aload_n 0, 1) := by decide +kernel
theorem dX6_grades_15 : decode cX6_grades 15 = .ok (.getfield 10, 3) := by decide +kernel
theorem dX6_grades_18 : decode cX6_grades 18 = .ok (.getfield 88, 3) := by decide +kernel
theorem dX6_grades_21 : decode cX6_grades 21 = .ok (.iload_n 1, 1) := by decide +kernel
theorem dX6_grades_22 : decode cX6_grades 22 = .ok (.invokevirtual 152, 3) := by decide +kernel
theorem dX6_grades_25 : decode cX6_grades 25 = .ok (.ireturn, 1) := by decide +kernel
set_option maxRecDepth 20000 in
theorem ggX6_mark_X1_copyFrom : GoodIn wsX6_mark wsX1_copyFrom := goodIn_r _ [8, 9, 10, 11, 12, 13, 14, 15, 16, 17, 18, 19, 20, 21, 22, 23, 24, 25, 26, 27, 28, 29, 30, 31, 32, 33, 34, 35, 36, 37, 38, 39, 40, 41, 42, 43, 44, 45, 46, 47, 48, 49, 50, 51, 52, 53, 54, 55, 56, 57, 58, 59, 67, 68, 69, 70, 71, 72, 73, 74, 75, 76, 77, 78, 79, 80, 81, 82, 83, 84, 85, 86, 87, 88, 89, 90, 91, 92, 93, 94, 95] (by decide +kernel) (by decide +kernel)
set_option maxRecDepth 20000 in
theorem gX6_mark_X1_copyFrom : GoodIn wsX6_mark (wsV RX6 43 RX1 yX1_copyFrom wsX1_copyFrom) := goodIn_app (goodIn_of _ (by decide +kernel)) ggX6_mark_X1_copyFrom
theorem dX6_mark_0 : decode cX6_mark 0 = .ok (.aload_n 0, 1) := by decide +kernel
theorem dX6_mark_1 : decode cX6_mark 1 = .ok (.getfield 22, 3) := by decide +kernel
theorem dX6_mark_4 : decode cX6_mark 4 = .ok (.aload_n 0, 1) := by decide +kernel
theorem dX6_mark_5 : decode cX6_mark 5 = .ok (.getfield 10, 3) := by decide +kernel
theorem dX6_mark_8 : decode cX6_mark 8 = .ok (.invokevirtual 43, 3) := by decide +kernel
theorem dX6_mark_11 : decode cX6_mark 11 = .ok (.aload_n 0, 1) := by decide +kernel
theorem dX6_mark_12 : decode cX6_mark 12 = .ok (.iconst 1, 1) := by decide +kernel
theorem dX6_mark_13 : decode cX6_mark 13 = .ok (.putfield 39, 3) := by decide +kernel
theorem dX6_mark_16 : decode cX6_mark 16 = .ok (.aload_n 0, 1) := by decide +kernel
theorem dX6_mark_17 : decode cX6_mark 17 = .ok (.getfield 10, 3) := by decide +kernel
theorem dX6_mark_20 : decode cX6_mark 20 = .ok (.getfield 155, 3) := by decide +kernel
theorem dX6_mark_23 : decode cX6_mark 23 = .ok (.ireturn, 1) := by decide +kernel
set_option maxRecDepth 20000 in
theorem ggX6_restore_X0_push : GoodIn wsX6_restore wsX0_push := goodIn_r _ [10, 11, 12, 13, 14, 15, 16, 17, 18, 19, 20, 21, 22, 23, 24, 25, 26, 27, 28, 29, 30, 31, 32, 33, 34, 35, 36, 37, 38, 39, 40, 41, 42, 43, 44, 45, 46, 47, 48, 49, 50, 51, 52, 53, 54, 55, 56, 57, 58, 59, 60, 61, 62, 63, 64, 65, 66, 67, 68, 69, 70, 71, 72, 73, 91, 92, 93, 82, 83, 84, 85, 86, 87, 88, 89, 90, 94, 95, 96, 97, 98, 99, 100, 101, 102, 103, 104, 105, 106, 107, 108, 109, 110, 111, 112, 113] (by decide +kernel) (by decide +kernel)
set_option maxRecDepth 20000 in
theorem gX6_restore_X0_push : GoodIn wsX6_restore (wsV RX6 159 RX0 yX0_push wsX0_push) := goodIn_app (goodIn_of _ (by decide +kernel)) ggX6_restore_X0_push
set_option maxRecDepth 20000 in
theorem ggX6_restore_X1_copyFrom : GoodIn wsX6_restore wsX1_copyFrom := goodIn_r _ [22, 23, 24, 25, 26, 27, 28, 29, 30, 31, 32, 33, 34, 35, 36, 37, 38, 39, 40, 41, 42, 43, 44, 45, 46, 47, 48, 49, 50, 51, 52, 53, 54, 55, 56, 57, 58, 59, 60, 61, 62, 63, 64, 65, 66, 67, 68, 69, 70, 71, 72, 73, 82, 83, 84, 85, 86, 87, 88, 89, 90, 94, 95, 96, 97, 98, 99, 100, 101, 102, 103, 104, 105, 106, 107, 108, 109, 110, 111, 112, 113] (by decide +kernel) (by decide +kernel)
set_option maxRecDepth 20000 in
theorem gX6_restore_X1_copyFrom : GoodIn wsX6_restore (wsV RX6 43 RX1 yX1_copyFrom wsX1_copyFrom) := goodIn_app (goodIn_of _ (by decide +kernel)) ggX6_restore_X1_copyFrom
theorem dX6_restore_0 : decode cX6_restore 0 = .ok (.aload_n 0, 1) := by decide +kernel
theorem dX6_restore_1 : decode cX6_restore 1 = .ok (.getfield 39, 3) := by decide +kernel
theorem dX6_restore_4 : decode cX6_restore 4 = .ok (.ifCond .ne 6, 3) := by decide +kernel
theorem dX6_restore_7 : decode cX6_restore 7 = .ok (.ldc 158, 2) := by decide +kernel
theorem dX6_restore_9 : decode cX6_restore 9 = .ok (.ireturn, 1) := by decide +kernel
theorem dX6_restore_10 : decode cX6_restore 10 = .ok (.aload_n 0, 1) := by decide +kernel
theorem dX6_restore_11 : decode cX6_restore 11 = .ok (.getfield 28, 3) := by decide +kernel
theorem dX6_restore_14 : decode cX6_restore 14 = .ok (.aload_n 0, 1) := by decide +kernel
theorem dX6_restore_15 : decode cX6_restore 15 = .ok (.getfield 10, 3) := by decide +kernel
theorem dX6_restore_18 : decode cX6_restore 18 = .ok (.invokevirtual 159, 3) := by decide +kernel
theorem dX6_restore_21 : decode cX6_restore 21 = .ok (.aload_n 0, 1) := by decide +kernel
theorem dX6_restore_22 : decode cX6_restore 22 = .ok (.getfield 10, 3) := by decide +kernel
theorem dX6_restore_25 : decode cX6_restore 25 = .ok (.aload_n 0, 1) := by decide +kernel
theorem dX6_restore_26 : decode cX6_restore 26 = .ok (.getfield 22, 3) := by decide +kernel
theorem dX6_restore_29 : decode cX6_restore 29 = .ok (.invokevirtual 43, 3) := by decide +kernel
theorem dX6_restore_32 : decode cX6_restore 32 = .ok (.aload_n 0, 1) := by decide +kernel
theorem dX6_restore_33 : decode cX6_restore 33 = .ok (.getfield 10, 3) := by decide +kernel
theorem dX6_restore_36 : decode cX6_restore 36 = .ok (.getfield 155, 3) := by decide +kernel
theorem dX6_restore_39 : decode cX6_restore 39 = .ok (.ireturn, 1) := by decide +kernel
set_option maxRecDepth 20000 in
theorem ggX6_undo_X0_popInto : GoodIn wsX6_undo wsX0_popInto := goodIn_r _ [8, 9, 10, 11, 12, 13, 14, 15, 16, 17, 18, 19, 20, 21, 22, 23, 24, 25, 26, 27, 28, 29, 30, 31, 32, 33, 34, 35, 36, 37, 38, 39, 40, 41, 42, 43, 44, 45, 46, 47, 48, 49, 50, 51, 52, 53, 54, 55, 56, 57, 58, 59, 60, 61, 62, 63, 64, 65, 66, 67, 68, 69, 70, 71, 79, 80, 81, 82, 83, 84, 85, 86, 87, 88, 89, 90, 91, 92, 93, 94, 95, 96, 97, 98, 99, 100, 101, 102, 103, 104, 105, 106, 107, 108, 109, 110] (by decide +kernel) (by decide +kernel)
set_option maxRecDepth 20000 in
theorem gX6_undo_X0_popInto : GoodIn wsX6_undo (wsV RX6 162 RX0 yX0_popInto wsX0_popInto) := goodIn_app (goodIn_of _ (by decide +kernel)) ggX6_undo_X0_popInto
theorem dX6_undo_0 : decode cX6_undo 0 = .ok (.aload_n 0, 1) := by decide +kernel
theorem dX6_undo_1 : decode cX6_undo 1 = .ok (.getfield 28, 3) := by decide +kernel
theorem dX6_undo_4 : decode cX6_undo 4 = .ok (.getfield 135, 3) := by decide +kernel
theorem dX6_undo_7 : decode cX6_undo 7 = .ok (.ifCond .ne 6, 3) := by decide +kernel
theorem dX6_undo_10 : decode cX6_undo 10 = .ok (.ldc 158, 2) := by decide +kernel
theorem dX6_undo_12 : decode cX6_undo 12 = .ok (.ireturn, 1) := by decide +kernel
theorem dX6_undo_13 : decode cX6_undo 13 = .ok (.aload_n 0, 1) := by decide +kernel
theorem dX6_undo_14 : decode cX6_undo 14 = .ok (.getfield 28, 3) := by decide +kernel
theorem dX6_undo_17 : decode cX6_undo 17 = .ok (.aload_n 0, 1) := by decide +kernel
theorem dX6_undo_18 : decode cX6_undo 18 = .ok (.getfield 10, 3) := by decide +kernel
theorem dX6_undo_21 : decode cX6_undo 21 = .ok (.invokevirtual 162, 3) := by decide +kernel
theorem dX6_undo_24 : decode cX6_undo 24 = .ok (.aload_n 0, 1) := by decide +kernel
theorem dX6_undo_25 : decode cX6_undo 25 = .ok (.getfield 28, 3) := by decide +kernel
theorem dX6_undo_28 : decode cX6_undo 28 = .ok (.getfield 135, 3) := by decide +kernel
theorem dX6_undo_31 : decode cX6_undo 31 = .ok (.ireturn, 1) := by decide +kernel
set_option maxRecDepth 20000 in
theorem ggX6_type_X4_append : GoodIn wsX6_type wsX4_append := goodIn_r _ [7, 8, 9, 10, 18, 19, 20, 21, 22, 23, 24, 25] (by decide +kernel) (by decide +kernel)
set_option maxRecDepth 20000 in
theorem gX6_type_X4_append : GoodIn wsX6_type (wsV RX6 165 RX4 yX4_append wsX4_append) := goodIn_app (goodIn_of _ (by decide +kernel)) ggX6_type_X4_append
theorem dX6_type_0 : decode cX6_type 0 = .ok (.iload_n 1, 1) := by decide +kernel
theorem dX6_type_1 : decode cX6_type 1 = .ok (.bipush 32, 2) := by decide +kernel
theorem dX6_type_3 : decode cX6_type 3 = .ok (.if_icmp .lt 9, 3) := by decide +kernel
theorem dX6_type_6 : decode cX6_type 6 = .ok (.iload_n 1, 1) := by decide +kernel
theorem dX6_type_7 : decode cX6_type 7 = .ok (.bipush 126, 2) := by decide +kernel
theorem dX6_type_9 : decode cX6_type 9 = .ok (.if_icmp .le 6, 3) := by decide +kernel
theorem dX6_type_12 : decode cX6_type 12 = .ok (.ldc 98, 2) := by decide +kernel
theorem dX6_type_14 : decode cX6_type 14 = .ok (.ireturn, 1) := by decide +kernel
theorem dX6_type_15 : decode cX6_type 15 = .ok (.aload_n 0, 1) := by decide +kernel
theorem dX6_type_16 : decode cX6_type 16 = .ok (.getfield 35, 3) := by decide +kernel
theorem dX6_type_19 : decode cX6_type 19 = .ok (.iload_n 1, 1) := by decide +kernel
theorem dX6_type_20 : decode cX6_type 20 = .ok (.i2c, 1) := by decide +kernel
theorem dX6_type_21 : decode cX6_type 21 = .ok (.invokevirtual 165, 3) := by decide +kernel
theorem dX6_type_24 : decode cX6_type 24 = .ok (.ireturn, 1) := by decide +kernel
theorem dX6_clearText_0 : decode cX6_clearText 0 = .ok (.aload_n 0, 1) := by decide +kernel
theorem dX6_clearText_1 : decode cX6_clearText 1 = .ok (.getfield 35, 3) := by decide +kernel
theorem dX6_clearText_4 : decode cX6_clearText 4 = .ok (.getfield 139, 3) := by decide +kernel
theorem dX6_clearText_7 : decode cX6_clearText 7 = .ok (.istore_n 1, 1) := by decide +kernel
theorem dX6_clearText_8 : decode cX6_clearText 8 = .ok (.aload_n 0, 1) := by decide +kernel
theorem dX6_clearText_9 : decode cX6_clearText 9 = .ok (.getfield 35, 3) := by decide +kernel
theorem dX6_clearText_12 : decode cX6_clearText 12 = .ok (.iconst 0, 1) := by decide +kernel
theorem dX6_clearText_13 : decode cX6_clearText 13 = .ok (.putfield 139, 3) := by decide +kernel
theorem dX6_clearText_16 : decode cX6_clearText 16 = .ok (.iload_n 1, 1) := by decide +kernel
theorem dX6_clearText_17 : decode cX6_clearText 17 = .ok (.ireturn, 1) := by decide +kernel
set_option maxRecDepth 20000 in
theorem ggX6_fault_X1_copyFrom : GoodIn wsX6_fault wsX1_copyFrom := goodIn_r _ [9, 10, 11, 12, 13, 14, 15, 16, 17, 18, 19, 20, 21, 22, 23, 24, 25, 26, 27, 28, 29, 30, 31, 32, 33, 34, 35, 36, 37, 38, 39, 40, 41, 42, 43, 44, 45, 46, 47, 48, 49, 50, 51, 52, 53, 54, 55, 56, 57, 58, 59, 60, 290, 291, 292, 293, 294, 295, 296, 297, 298, 299, 300, 301, 302, 303, 304, 305, 306, 307, 308, 309, 310, 311, 312, 313, 314, 315, 316, 317, 318] (by decide +kernel) (by decide +kernel)
set_option maxRecDepth 20000 in
theorem gX6_fault_X1_copyFrom : GoodIn wsX6_fault (wsV RX6 43 RX1 yX1_copyFrom wsX1_copyFrom) := goodIn_app (goodIn_of _ (by decide +kernel)) ggX6_fault_X1_copyFrom
set_option maxRecDepth 20000 in
theorem ggX6_fault_X4_runOn : GoodIn wsX6_fault wsX4_runOn := goodIn_r _ [65, 66, 67, 68, 69, 70, 71, 72, 64, 73, 74, 75, 76, 77, 78, 79, 80, 81, 82, 83, 84, 85, 86, 87, 88, 89, 90, 91, 92, 93, 94, 95, 96, 97, 98, 99, 100, 101, 102, 103, 104, 105, 106, 107, 108, 109, 110, 111, 112, 113, 114, 115, 116, 117, 118, 119, 120, 121, 122, 123, 124, 125, 126, 127, 128, 129, 130, 131, 132, 133, 134, 135, 136, 137, 138, 139, 140, 141, 142, 143, 144, 145, 146, 147, 148, 149, 150, 151, 152, 153, 154, 155, 156, 157, 158, 159, 160, 161, 162, 163, 164, 165, 166, 167, 36, 168, 38, 169, 170, 171, 8, 172, 11, 173, 174, 12, 19, 175, 176, 177, 178, 179, 18, 180, 181, 182, 183, 184, 185, 186, 187, 10, 188, 189, 190, 191, 39, 192, 193, 194, 26, 195, 32, 28, 30, 31, 196, 197, 198, 52, 199, 54, 55, 57, 58, 59, 60, 200, 201, 202, 203, 204, 205, 206, 207, 208, 45, 209, 210, 211, 212, 213, 214, 215, 216, 217, 218, 219, 220, 221, 222, 223, 224, 225, 226, 227, 13, 228, 229, 230, 231, 232, 233, 234, 235, 236, 237, 238, 239, 240, 47, 241, 242, 243, 244, 245, 246, 247, 248, 249, 250, 251, 252, 253, 254, 255, 256, 257, 258, 259, 260, 261, 262, 263, 264, 265, 266, 267, 268, 269, 270, 271, 272, 273, 274, 22, 275, 276, 277, 278, 20, 21, 319, 320, 321, 322, 323, 324, 325, 326, 290, 291, 292, 293, 294, 295, 296, 297, 298, 303, 304, 305, 306, 307, 308, 309, 310, 311, 312, 299, 300, 301, 302, 313, 314, 315, 316, 317, 318] (by decide +kernel) (by decide +kernel)
set_option maxRecDepth 20000 in
theorem gX6_fault_X4_runOn : GoodIn wsX6_fault (wsV RX6 169 RX4 yX4_runOn wsX4_runOn) := goodIn_app (goodIn_of _ (by decide +kernel)) ggX6_fault_X4_runOn
set_option maxRecDepth 20000 in
theorem ggX6_fault_X4_tellFault : GoodIn wsX6_fault wsX4_tellFault := goodIn_r _ [282, 66, 68, 159, 160, 319, 320, 321, 322, 323, 324, 325, 326] (by decide +kernel) (by decide +kernel)
set_option maxRecDepth 20000 in
theorem gX6_fault_X4_tellFault : GoodIn wsX6_fault (wsV RX6 173 RX4 yX4_tellFault wsX4_tellFault) := goodIn_app (goodIn_of _ (by decide +kernel)) ggX6_fault_X4_tellFault
theorem dX6_fault_0 : decode cX6_fault 0 = .ok (.iload_n 1, 1) := by decide +kernel
theorem dX6_fault_1 : decode cX6_fault 1 = .ok (.ifCond .lt 8, 3) := by decide +kernel
theorem dX6_fault_4 : decode cX6_fault 4 = .ok (.iload_n 1, 1) := by decide +kernel
theorem dX6_fault_5 : decode cX6_fault 5 = .ok (.iconst 2, 1) := by decide +kernel
theorem dX6_fault_6 : decode cX6_fault 6 = .ok (.if_icmp .le 6, 3) := by decide +kernel
theorem dX6_fault_9 : decode cX6_fault 9 = .ok (.ldc 98, 2) := by decide +kernel
theorem dX6_fault_11 : decode cX6_fault 11 = .ok (.ireturn, 1) := by decide +kernel
theorem dX6_fault_12 : decode cX6_fault 12 = .ok (.aload_n 0, 1) := by decide +kernel
theorem dX6_fault_13 : decode cX6_fault 13 = .ok (.getfield 19, 3) := by decide +kernel
theorem dX6_fault_16 : decode cX6_fault 16 = .ok (.aload_n 0, 1) := by decide +kernel
theorem dX6_fault_17 : decode cX6_fault 17 = .ok (.getfield 10, 3) := by decide +kernel
theorem dX6_fault_20 : decode cX6_fault 20 = .ok (.invokevirtual 43, 3) := by decide +kernel
theorem dX6_fault_23 : decode cX6_fault 23 = .ok (.aload_n 0, 1) := by decide +kernel
theorem dX6_fault_24 : decode cX6_fault 24 = .ok (.getfield 35, 3) := by decide +kernel
theorem dX6_fault_27 : decode cX6_fault 27 = .ok (.aload_n 0, 1) := by decide +kernel
theorem dX6_fault_28 : decode cX6_fault 28 = .ok (.getfield 19, 3) := by decide +kernel
theorem dX6_fault_31 : decode cX6_fault 31 = .ok (.invokevirtual 169, 3) := by decide +kernel
theorem dX6_fault_34 : decode cX6_fault 34 = .ok (.pop, 1) := by decide +kernel
theorem dX6_fault_35 : decode cX6_fault 35 = .ok (.aload_n 0, 1) := by decide +kernel
theorem dX6_fault_36 : decode cX6_fault 36 = .ok (.getfield 35, 3) := by decide +kernel
theorem dX6_fault_39 : decode cX6_fault 39 = .ok (.iload_n 1, 1) := by decide +kernel
theorem dX6_fault_40 : decode cX6_fault 40 = .ok (.invokevirtual 173, 3) := by decide +kernel
theorem dX6_fault_43 : decode cX6_fault 43 = .ok (.ireturn, 1) := by decide +kernel
set_option maxRecDepth 20000 in
theorem ggX6_play_X1_copyFrom : GoodIn wsX6_play wsX1_copyFrom := goodIn_r _ [10, 11, 12, 13, 14, 15, 16, 17, 18, 19, 20, 21, 22, 23, 24, 25, 26, 27, 28, 29, 30, 31, 32, 33, 34, 35, 36, 37, 38, 39, 40, 41, 42, 43, 44, 45, 46, 47, 48, 49, 50, 51, 52, 53, 54, 55, 56, 57, 58, 59, 60, 61, 304, 305, 306, 307, 308, 309, 310, 311, 312, 313, 314, 315, 316, 317, 318, 319, 320, 321, 322, 323, 324, 325, 326, 327, 328, 329, 330, 331, 332] (by decide +kernel) (by decide +kernel)
set_option maxRecDepth 20000 in
theorem gX6_play_X1_copyFrom : GoodIn wsX6_play (wsV RX6 43 RX1 yX1_copyFrom wsX1_copyFrom) := goodIn_app (goodIn_of _ (by decide +kernel)) ggX6_play_X1_copyFrom
set_option maxRecDepth 20000 in
theorem ggX6_play_X4_runOn : GoodIn wsX6_play wsX4_runOn := goodIn_r _ [66, 67, 68, 69, 70, 71, 72, 73, 65, 74, 75, 76, 77, 78, 79, 80, 81, 82, 83, 84, 85, 86, 87, 88, 89, 90, 91, 92, 93, 94, 95, 96, 97, 98, 99, 100, 101, 102, 103, 104, 105, 106, 107, 108, 109, 110, 111, 112, 113, 114, 115, 116, 117, 118, 119, 120, 121, 122, 123, 124, 125, 126, 127, 128, 129, 130, 131, 132, 133, 134, 135, 136, 137, 138, 139, 140, 141, 142, 143, 144, 145, 146, 147, 148, 149, 150, 151, 152, 153, 154, 155, 156, 157, 158, 159, 160, 161, 162, 163, 164, 165, 166, 167, 168, 37, 169, 39, 170, 171, 172, 9, 173, 12, 174, 175, 13, 20, 176, 177, 178, 179, 180, 19, 181, 182, 183, 184, 185, 186, 187, 188, 11, 189, 190, 191, 192, 40, 193, 194, 195, 27, 196, 33, 29, 31, 32, 197, 198, 199, 53, 200, 55, 56, 58, 59, 60, 61, 201, 202, 203, 204, 205, 206, 207, 208, 209, 46, 210, 211, 212, 213, 214, 215, 216, 217, 218, 219, 220, 221, 222, 223, 224, 225, 226, 227, 228, 14, 229, 230, 231, 232, 233, 234, 235, 236, 237, 238, 239, 240, 241, 48, 242, 243, 244, 245, 246, 247, 248, 249, 250, 251, 252, 253, 254, 255, 256, 257, 258, 259, 260, 261, 262, 263, 264, 265, 266, 267, 268, 269, 270, 271, 272, 273, 274, 275, 23, 276, 277, 278, 279, 21, 22, 333, 334, 335, 336, 337, 338, 339, 340, 304, 305, 306, 307, 308, 309, 310, 311, 312, 317, 318, 319, 320, 321, 322, 323, 324, 325, 326, 313, 314, 315, 316, 327, 328, 329, 330, 331, 332] (by decide +kernel) (by decide +kernel)
set_option maxRecDepth 20000 in
theorem gX6_play_X4_runOn : GoodIn wsX6_play (wsV RX6 169 RX4 yX4_runOn wsX4_runOn) := goodIn_app (goodIn_of _ (by decide +kernel)) ggX6_play_X4_runOn
set_option maxRecDepth 20000 in
theorem ggX6_play_X4_hasFault : GoodIn wsX6_play wsX4_hasFault := goodIn_r _ [283, 67, 333, 334, 335, 336, 337, 338, 339, 340] (by decide +kernel) (by decide +kernel)
set_option maxRecDepth 20000 in
theorem gX6_play_X4_hasFault : GoodIn wsX6_play (wsV RX6 176 RX4 yX4_hasFault wsX4_hasFault) := goodIn_app (goodIn_of _ (by decide +kernel)) ggX6_play_X4_hasFault
set_option maxRecDepth 20000 in
theorem ggX6_play_X0_push : GoodIn wsX6_play wsX0_push := goodIn_r _ [288, 289, 290, 291, 292, 293, 294, 295, 296, 7, 8, 9, 10, 11, 12, 13, 14, 15, 16, 17, 18, 19, 20, 21, 22, 23, 24, 25, 26, 27, 28, 29, 30, 31, 32, 33, 34, 35, 36, 37, 38, 39, 40, 41, 42, 43, 44, 45, 46, 47, 48, 49, 50, 51, 52, 53, 54, 55, 56, 57, 58, 59, 60, 61, 341, 342, 343, 304, 305, 306, 307, 308, 309, 310, 311, 312, 313, 314, 315, 316, 317, 318, 319, 320, 321, 322, 323, 324, 325, 326, 327, 328, 329, 330, 331, 332] (by decide +kernel) (by decide +kernel)
set_option maxRecDepth 20000 in
theorem gX6_play_X0_push : GoodIn wsX6_play (wsV RX6 159 RX0 yX0_push wsX0_push) := goodIn_app (goodIn_of _ (by decide +kernel)) ggX6_play_X0_push
theorem dX6_play_0 : decode cX6_play 0 = .ok (.aload_n 0, 1) := by decide +kernel
theorem dX6_play_1 : decode cX6_play 1 = .ok (.getfield 19, 3) := by decide +kernel
theorem dX6_play_4 : decode cX6_play 4 = .ok (.aload_n 0, 1) := by decide +kernel
theorem dX6_play_5 : decode cX6_play 5 = .ok (.getfield 10, 3) := by decide +kernel
theorem dX6_play_8 : decode cX6_play 8 = .ok (.invokevirtual 43, 3) := by decide +kernel
theorem dX6_play_11 : decode cX6_play 11 = .ok (.aload_n 0, 1) := by decide +kernel
theorem dX6_play_12 : decode cX6_play 12 = .ok (.getfield 35, 3) := by decide +kernel
theorem dX6_play_15 : decode cX6_play 15 = .ok (.aload_n 0, 1) := by decide +kernel
theorem dX6_play_16 : decode cX6_play 16 = .ok (.getfield 19, 3) := by decide +kernel
theorem dX6_play_19 : decode cX6_play 19 = .ok (.invokevirtual 169, 3) := by decide +kernel
theorem dX6_play_22 : decode cX6_play 22 = .ok (.istore_n 1, 1) := by decide +kernel
theorem dX6_play_23 : decode cX6_play 23 = .ok (.aload_n 0, 1) := by decide +kernel
theorem dX6_play_24 : decode cX6_play 24 = .ok (.getfield 35, 3) := by decide +kernel
theorem dX6_play_27 : decode cX6_play 27 = .ok (.invokevirtual 176, 3) := by decide +kernel
theorem dX6_play_30 : decode cX6_play 30 = .ok (.ifCond .eq 6, 3) := by decide +kernel
theorem dX6_play_33 : decode cX6_play 33 = .ok (.ldc 158, 2) := by decide +kernel
theorem dX6_play_35 : decode cX6_play 35 = .ok (.ireturn, 1) := by decide +kernel
theorem dX6_play_36 : decode cX6_play 36 = .ok (.aload_n 0, 1) := by decide +kernel
theorem dX6_play_37 : decode cX6_play 37 = .ok (.getfield 28, 3) := by decide +kernel
theorem dX6_play_40 : decode cX6_play 40 = .ok (.aload_n 0, 1) := by decide +kernel
theorem dX6_play_41 : decode cX6_play 41 = .ok (.getfield 10, 3) := by decide +kernel
theorem dX6_play_44 : decode cX6_play 44 = .ok (.invokevirtual 159, 3) := by decide +kernel
theorem dX6_play_47 : decode cX6_play 47 = .ok (.aload_n 0, 1) := by decide +kernel
theorem dX6_play_48 : decode cX6_play 48 = .ok (.getfield 10, 3) := by decide +kernel
theorem dX6_play_51 : decode cX6_play 51 = .ok (.aload_n 0, 1) := by decide +kernel
theorem dX6_play_52 : decode cX6_play 52 = .ok (.getfield 19, 3) := by decide +kernel
theorem dX6_play_55 : decode cX6_play 55 = .ok (.invokevirtual 43, 3) := by decide +kernel
theorem dX6_play_58 : decode cX6_play 58 = .ok (.iload_n 1, 1) := by decide +kernel
theorem dX6_play_59 : decode cX6_play 59 = .ok (.ireturn, 1) := by decide +kernel
set_option maxRecDepth 20000 in
theorem ggX6_recorded_X0_push : GoodIn wsX6_recorded wsX0_push := goodIn_r _ [7, 8, 9, 10, 11, 12, 13, 14, 15, 16, 17, 18, 19, 20, 21, 22, 23, 24, 25, 26, 27, 28, 29, 30, 31, 32, 33, 34, 35, 36, 37, 38, 39, 40, 41, 42, 43, 44, 45, 46, 47, 48, 49, 50, 51, 52, 53, 54, 55, 56, 57, 58, 59, 60, 61, 62, 63, 64, 65, 66, 67, 68, 69, 70, 78, 79, 80, 81, 82, 83, 84, 85, 86, 87, 88, 89, 90, 91, 92, 93, 94, 95, 96, 97, 98, 99, 100, 101, 102, 103, 104, 105, 106, 107, 108, 109] (by decide +kernel) (by decide +kernel)
set_option maxRecDepth 20000 in
theorem gX6_recorded_X0_push : GoodIn wsX6_recorded (wsV RX6 159 RX0 yX0_push wsX0_push) := goodIn_app (goodIn_of _ (by decide +kernel)) ggX6_recorded_X0_push
theorem dX6_recorded_0 : decode cX6_recorded 0 = .ok (.iload_n 1, 1) := by decide +kernel
end
section
theorem dX6_recorded_1 : decode cX6_recorded 1 = .ok (.ifCond .lt 14, 3) := by decide +kernel
theorem dX6_recorded_4 : decode cX6_recorded 4 = .ok (.aload_n 0, 1) := by decide +kernel
theorem dX6_recorded_5 : decode cX6_recorded 5 = .ok (.getfield 28, 3) := by decide +kernel
theorem dX6_recorded_8 : decode cX6_recorded 8 = .ok (.aload_n 0, 1) := by decide +kernel
theorem dX6_recorded_9 : decode cX6_recorded 9 = .ok (.getfield 16, 3) := by decide +kernel
theorem dX6_recorded_12 : decode cX6_recorded 12 = .ok (.invokevirtual 159, 3) := by decide +kernel
theorem dX6_recorded_15 : decode cX6_recorded 15 = .ok (.iload_n 1, 1) := by decide +kernel
theorem dX6_recorded_16 : decode cX6_recorded 16 = .ok (.ireturn, 1) := by decide +kernel
set_option maxRecDepth 20000 in
theorem ggX6_isGrade_X6_isLook : GoodIn wsX6_isGrade wsX6_isLook := goodIn_r _ [4] (by decide +kernel) (by decide +kernel)
set_option maxRecDepth 20000 in
theorem gX6_isGrade_X6_isLook : GoodIn wsX6_isGrade (va_wsS RX6 180 yX6_isLook wsX6_isLook) := goodIn_app (goodIn_of _ (by decide +kernel)) ggX6_isGrade_X6_isLook
theorem dX6_isGrade_0 : decode cX6_isGrade 0 = .ok (.iload_n 0, 1) := by decide +kernel
theorem dX6_isGrade_1 : decode cX6_isGrade 1 = .ok (.ifCond .lt 20, 3) := by decide +kernel
theorem dX6_isGrade_4 : decode cX6_isGrade 4 = .ok (.iload_n 0, 1) := by decide +kernel
theorem dX6_isGrade_5 : decode cX6_isGrade 5 = .ok (.iconst 5, 1) := by decide +kernel
theorem dX6_isGrade_6 : decode cX6_isGrade 6 = .ok (.if_icmp .ge 15, 3) := by decide +kernel
theorem dX6_isGrade_9 : decode cX6_isGrade 9 = .ok (.iload_n 1, 1) := by decide +kernel
theorem dX6_isGrade_10 : decode cX6_isGrade 10 = .ok (.iload_n 2, 1) := by decide +kernel
theorem dX6_isGrade_11 : decode cX6_isGrade 11 = .ok (.invokestatic 180, 3) := by decide +kernel
theorem dX6_isGrade_14 : decode cX6_isGrade 14 = .ok (.ifCond .eq 7, 3) := by decide +kernel
theorem dX6_isGrade_17 : decode cX6_isGrade 17 = .ok (.iconst 1, 1) := by decide +kernel
theorem dX6_isGrade_18 : decode cX6_isGrade 18 = .ok (.goto 4, 3) := by decide +kernel
theorem dX6_isGrade_21 : decode cX6_isGrade 21 = .ok (.iconst 0, 1) := by decide +kernel
theorem dX6_isGrade_22 : decode cX6_isGrade 22 = .ok (.ireturn, 1) := by decide +kernel
theorem dX6_isLook_0 : decode cX6_isLook 0 = .ok (.iload_n 0, 1) := by decide +kernel
theorem dX6_isLook_1 : decode cX6_isLook 1 = .ok (.ifCond .lt 23, 3) := by decide +kernel
theorem dX6_isLook_4 : decode cX6_isLook 4 = .ok (.iload_n 0, 1) := by decide +kernel
theorem dX6_isLook_5 : decode cX6_isLook 5 = .ok (.bipush 10, 2) := by decide +kernel
theorem dX6_isLook_7 : decode cX6_isLook 7 = .ok (.if_icmp .ge 17, 3) := by decide +kernel
theorem dX6_isLook_10 : decode cX6_isLook 10 = .ok (.iload_n 1, 1) := by decide +kernel
theorem dX6_isLook_11 : decode cX6_isLook 11 = .ok (.ifCond .lt 13, 3) := by decide +kernel
theorem dX6_isLook_14 : decode cX6_isLook 14 = .ok (.iload_n 1, 1) := by decide +kernel
theorem dX6_isLook_15 : decode cX6_isLook 15 = .ok (.bipush 8, 2) := by decide +kernel
theorem dX6_isLook_17 : decode cX6_isLook 17 = .ok (.if_icmp .ge 7, 3) := by decide +kernel
theorem dX6_isLook_20 : decode cX6_isLook 20 = .ok (.iconst 1, 1) := by decide +kernel
theorem dX6_isLook_21 : decode cX6_isLook 21 = .ok (.goto 4, 3) := by decide +kernel
theorem dX6_isLook_24 : decode cX6_isLook 24 = .ok (.iconst 0, 1) := by decide +kernel
theorem dX6_isLook_25 : decode cX6_isLook 25 = .ok (.ireturn, 1) := by decide +kernel
theorem dJ6_bitCount_0f7a4_0 : decode cJ6_bitCount_0f7a4 0 = .ok (.iload_n 0, 1) := by decide +kernel
theorem dJ6_bitCount_0f7a4_1 : decode cJ6_bitCount_0f7a4 1 = .ok (.iload_n 0, 1) := by decide +kernel
theorem dJ6_bitCount_0f7a4_2 : decode cJ6_bitCount_0f7a4 2 = .ok (.iconst 1, 1) := by decide +kernel
theorem dJ6_bitCount_0f7a4_3 : decode cJ6_bitCount_0f7a4 3 = .ok (.iushr, 1) := by decide +kernel
theorem dJ6_bitCount_0f7a4_4 : decode cJ6_bitCount_0f7a4 4 = .ok (.ldc_w 265, 3) := by decide +kernel
theorem dJ6_bitCount_0f7a4_7 : decode cJ6_bitCount_0f7a4 7 = .ok (.iand, 1) := by decide +kernel
theorem dJ6_bitCount_0f7a4_8 : decode cJ6_bitCount_0f7a4 8 = .ok (.isub, 1) := by decide +kernel
theorem dJ6_bitCount_0f7a4_9 : decode cJ6_bitCount_0f7a4 9 = .ok (.istore_n 0, 1) := by decide +kernel
theorem dJ6_bitCount_0f7a4_10 : decode cJ6_bitCount_0f7a4 10 = .ok (.iload_n 0, 1) := by decide +kernel
theorem dJ6_bitCount_0f7a4_11 : decode cJ6_bitCount_0f7a4 11 = .ok (.ldc_w 266, 3) := by decide +kernel
theorem dJ6_bitCount_0f7a4_14 : decode cJ6_bitCount_0f7a4 14 = .ok (.iand, 1) := by decide +kernel
theorem dJ6_bitCount_0f7a4_15 : decode cJ6_bitCount_0f7a4 15 = .ok (.iload_n 0, 1) := by decide +kernel
theorem dJ6_bitCount_0f7a4_16 : decode cJ6_bitCount_0f7a4 16 = .ok (.iconst 2, 1) := by decide +kernel
theorem dJ6_bitCount_0f7a4_17 : decode cJ6_bitCount_0f7a4 17 = .ok (.iushr, 1) := by decide +kernel
theorem dJ6_bitCount_0f7a4_18 : decode cJ6_bitCount_0f7a4 18 = .ok (.ldc_w 266, 3) := by decide +kernel
theorem dJ6_bitCount_0f7a4_21 : decode cJ6_bitCount_0f7a4 21 = .ok (.iand, 1) := by decide +kernel
theorem dJ6_bitCount_0f7a4_22 : decode cJ6_bitCount_0f7a4 22 = .ok (.iadd, 1) := by decide +kernel
theorem dJ6_bitCount_0f7a4_23 : decode cJ6_bitCount_0f7a4 23 = .ok (.istore_n 0, 1) := by decide +kernel
theorem dJ6_bitCount_0f7a4_24 : decode cJ6_bitCount_0f7a4 24 = .ok (.iload_n 0, 1) := by decide +kernel
theorem dJ6_bitCount_0f7a4_25 : decode cJ6_bitCount_0f7a4 25 = .ok (.iload_n 0, 1) := by decide +kernel
theorem dJ6_bitCount_0f7a4_26 : decode cJ6_bitCount_0f7a4 26 = .ok (.iconst 4, 1) := by decide +kernel
theorem dJ6_bitCount_0f7a4_27 : decode cJ6_bitCount_0f7a4 27 = .ok (.iushr, 1) := by decide +kernel
theorem dJ6_bitCount_0f7a4_28 : decode cJ6_bitCount_0f7a4 28 = .ok (.iadd, 1) := by decide +kernel
theorem dJ6_bitCount_0f7a4_29 : decode cJ6_bitCount_0f7a4 29 = .ok (.ldc_w 267, 3) := by decide +kernel
theorem dJ6_bitCount_0f7a4_32 : decode cJ6_bitCount_0f7a4 32 = .ok (.iand, 1) := by decide +kernel
theorem dJ6_bitCount_0f7a4_33 : decode cJ6_bitCount_0f7a4 33 = .ok (.istore_n 0, 1) := by decide +kernel
theorem dJ6_bitCount_0f7a4_34 : decode cJ6_bitCount_0f7a4 34 = .ok (.iload_n 0, 1) := by decide +kernel
theorem dJ6_bitCount_0f7a4_35 : decode cJ6_bitCount_0f7a4 35 = .ok (.iload_n 0, 1) := by decide +kernel
theorem dJ6_bitCount_0f7a4_36 : decode cJ6_bitCount_0f7a4 36 = .ok (.bipush 8, 2) := by decide +kernel
theorem dJ6_bitCount_0f7a4_38 : decode cJ6_bitCount_0f7a4 38 = .ok (.iushr, 1) := by decide +kernel
theorem dJ6_bitCount_0f7a4_39 : decode cJ6_bitCount_0f7a4 39 = .ok (.iadd, 1) := by decide +kernel
theorem dJ6_bitCount_0f7a4_40 : decode cJ6_bitCount_0f7a4 40 = .ok (.istore_n 0, 1) := by decide +kernel
theorem dJ6_bitCount_0f7a4_41 : decode cJ6_bitCount_0f7a4 41 = .ok (.iload_n 0, 1) := by decide +kernel
theorem dJ6_bitCount_0f7a4_42 : decode cJ6_bitCount_0f7a4 42 = .ok (.iload_n 0, 1) := by decide +kernel
theorem dJ6_bitCount_0f7a4_43 : decode cJ6_bitCount_0f7a4 43 = .ok (.bipush 16, 2) := by decide +kernel
theorem dJ6_bitCount_0f7a4_45 : decode cJ6_bitCount_0f7a4 45 = .ok (.iushr, 1) := by decide +kernel
theorem dJ6_bitCount_0f7a4_46 : decode cJ6_bitCount_0f7a4 46 = .ok (.iadd, 1) := by decide +kernel
theorem dJ6_bitCount_0f7a4_47 : decode cJ6_bitCount_0f7a4 47 = .ok (.istore_n 0, 1) := by decide +kernel
theorem dJ6_bitCount_0f7a4_48 : decode cJ6_bitCount_0f7a4 48 = .ok (.iload_n 0, 1) := by decide +kernel
theorem dJ6_bitCount_0f7a4_49 : decode cJ6_bitCount_0f7a4 49 = .ok (.bipush 63, 2) := by decide +kernel
theorem dJ6_bitCount_0f7a4_51 : decode cJ6_bitCount_0f7a4 51 = .ok (.iand, 1) := by decide +kernel
theorem dJ6_bitCount_0f7a4_52 : decode cJ6_bitCount_0f7a4 52 = .ok (.ireturn, 1) := by decide +kernel
theorem dJ9_floorMod_7cf53_0 : decode cJ9_floorMod_7cf53 0 = .ok (.iload_n 0, 1) := by decide +kernel
theorem dJ9_floorMod_7cf53_1 : decode cJ9_floorMod_7cf53 1 = .ok (.iload_n 1, 1) := by decide +kernel
theorem dJ9_floorMod_7cf53_2 : decode cJ9_floorMod_7cf53 2 = .ok (.irem, 1) := by decide +kernel
theorem dJ9_floorMod_7cf53_3 : decode cJ9_floorMod_7cf53 3 = .ok (.istore_n 2, 1) := by decide +kernel
theorem dJ9_floorMod_7cf53_4 : decode cJ9_floorMod_7cf53 4 = .ok (.iload_n 0, 1) := by decide +kernel
theorem dJ9_floorMod_7cf53_5 : decode cJ9_floorMod_7cf53 5 = .ok (.iload_n 1, 1) := by decide +kernel
theorem dJ9_floorMod_7cf53_6 : decode cJ9_floorMod_7cf53 6 = .ok (.ixor, 1) := by decide +kernel
theorem dJ9_floorMod_7cf53_7 : decode cJ9_floorMod_7cf53 7 = .ok (.ifCond .ge 11, 3) := by decide +kernel
theorem dJ9_floorMod_7cf53_10 : decode cJ9_floorMod_7cf53 10 = .ok (.iload_n 2, 1) := by decide +kernel
theorem dJ9_floorMod_7cf53_11 : decode cJ9_floorMod_7cf53 11 = .ok (.ifCond .eq 7, 3) := by decide +kernel
theorem dJ9_floorMod_7cf53_14 : decode cJ9_floorMod_7cf53 14 = .ok (.iload_n 2, 1) := by decide +kernel
theorem dJ9_floorMod_7cf53_15 : decode cJ9_floorMod_7cf53 15 = .ok (.iload_n 1, 1) := by decide +kernel
theorem dJ9_floorMod_7cf53_16 : decode cJ9_floorMod_7cf53 16 = .ok (.iadd, 1) := by decide +kernel
theorem dJ9_floorMod_7cf53_17 : decode cJ9_floorMod_7cf53 17 = .ok (.ireturn, 1) := by decide +kernel
theorem dJ9_floorMod_7cf53_18 : decode cJ9_floorMod_7cf53 18 = .ok (.iload_n 2, 1) := by decide +kernel
theorem dJ9_floorMod_7cf53_19 : decode cJ9_floorMod_7cf53 19 = .ok (.ireturn, 1) := by decide +kernel
theorem dJ9_max_7cf53_0 : decode cJ9_max_7cf53 0 = .ok (.iload_n 0, 1) := by decide +kernel
theorem dJ9_max_7cf53_1 : decode cJ9_max_7cf53 1 = .ok (.iload_n 1, 1) := by decide +kernel
theorem dJ9_max_7cf53_2 : decode cJ9_max_7cf53 2 = .ok (.if_icmp .lt 7, 3) := by decide +kernel
theorem dJ9_max_7cf53_5 : decode cJ9_max_7cf53 5 = .ok (.iload_n 0, 1) := by decide +kernel
theorem dJ9_max_7cf53_6 : decode cJ9_max_7cf53 6 = .ok (.goto 4, 3) := by decide +kernel
theorem dJ9_max_7cf53_9 : decode cJ9_max_7cf53 9 = .ok (.iload_n 1, 1) := by decide +kernel
theorem dJ9_max_7cf53_10 : decode cJ9_max_7cf53 10 = .ok (.ireturn, 1) := by decide +kernel
set_option maxRecDepth 20000 in
theorem ggJ0_length_8abf5_J0_coder_7d493 : GoodIn wsJ0_length_8abf5 wsJ0_coder_7d493 := goodIn_r _ [6, 7, 8] (by decide +kernel) (by decide +kernel)
set_option maxRecDepth 20000 in
theorem gJ0_length_8abf5_J0_coder_7d493 : GoodIn wsJ0_length_8abf5 (wsV RJ0 335 RJ0 yJ0_coder_7d493 wsJ0_coder_7d493) := goodIn_app (goodIn_of _ (by decide +kernel)) ggJ0_length_8abf5_J0_coder_7d493
theorem dJ0_length_8abf5_0 : decode cJ0_length_8abf5 0 = .ok (.aload_n 0, 1) := by decide +kernel
theorem dJ0_length_8abf5_1 : decode cJ0_length_8abf5 1 = .ok (.getfield 9, 3) := by decide +kernel
theorem dJ0_length_8abf5_4 : decode cJ0_length_8abf5 4 = .ok (.arraylength, 1) := by decide +kernel
theorem dJ0_length_8abf5_5 : decode cJ0_length_8abf5 5 = .ok (.aload_n 0, 1) := by decide +kernel
theorem dJ0_length_8abf5_6 : decode cJ0_length_8abf5 6 = .ok (.invokevirtual 335, 3) := by decide +kernel
theorem dJ0_length_8abf5_9 : decode cJ0_length_8abf5 9 = .ok (.ishr, 1) := by decide +kernel
theorem dJ0_length_8abf5_10 : decode cJ0_length_8abf5 10 = .ok (.ireturn, 1) := by decide +kernel
set_option maxRecDepth 20000 in
theorem ggJ0_charAt_5068e_J0_isLatin1_aae02 : GoodIn wsJ0_charAt_5068e wsJ0_isLatin1_aae02 := goodIn_r _ [6, 7, 8] (by decide +kernel) (by decide +kernel)
set_option maxRecDepth 20000 in
theorem gJ0_charAt_5068e_J0_isLatin1_aae02 : GoodIn wsJ0_charAt_5068e (wsV RJ0 492 RJ0 yJ0_isLatin1_aae02 wsJ0_isLatin1_aae02) := goodIn_app (goodIn_of _ (by decide +kernel)) ggJ0_charAt_5068e_J0_isLatin1_aae02
set_option maxRecDepth 20000 in
theorem ggJ0_charAt_5068e_J1_charAt_3b067 : GoodIn wsJ0_charAt_5068e wsJ1_charAt_3b067 := goodIn_r _ [12, 13, 14, 5, 15, 16, 17, 18, 19, 20] (by decide +kernel) (by decide +kernel)
set_option maxRecDepth 20000 in
theorem gJ0_charAt_5068e_J1_charAt_3b067 : GoodIn wsJ0_charAt_5068e (va_wsS RJ0 495 yJ1_charAt_3b067 wsJ1_charAt_3b067) := goodIn_app (goodIn_of _ (by decide +kernel)) ggJ0_charAt_5068e_J1_charAt_3b067
set_option maxRecDepth 20000 in
theorem ggJ0_charAt_5068e_J2_charAt_3b067 : GoodIn wsJ0_charAt_5068e wsJ2_charAt_3b067 := goodIn_r _ [24, 25, 26, 23, 27, 28, 29, 30, 31, 14, 5, 15, 16, 17, 18, 19, 20, 32, 33, 34, 35, 36, 37] (by decide +kernel) (by decide +kernel)
set_option maxRecDepth 20000 in
theorem gJ0_charAt_5068e_J2_charAt_3b067 : GoodIn wsJ0_charAt_5068e (va_wsS RJ0 498 yJ2_charAt_3b067 wsJ2_charAt_3b067) := goodIn_app (goodIn_of _ (by decide +kernel)) ggJ0_charAt_5068e_J2_charAt_3b067
theorem dJ0_charAt_5068e_0 : decode cJ0_charAt_5068e 0 = .ok (.aload_n 0, 1) := by decide +kernel
theorem dJ0_charAt_5068e_1 : decode cJ0_charAt_5068e 1 = .ok (.invokevirtual 492, 3) := by decide +kernel
theorem dJ0_charAt_5068e_4 : decode cJ0_charAt_5068e 4 = .ok (.ifCond .eq 12, 3) := by decide +kernel
theorem dJ0_charAt_5068e_7 : decode cJ0_charAt_5068e 7 = .ok (.aload_n 0, 1) := by decide +kernel
theorem dJ0_charAt_5068e_8 : decode cJ0_charAt_5068e 8 = .ok (.getfield 9, 3) := by decide +kernel
theorem dJ0_charAt_5068e_11 : decode cJ0_charAt_5068e 11 = .ok (.iload_n 1, 1) := by decide +kernel
theorem dJ0_charAt_5068e_12 : decode cJ0_charAt_5068e 12 = .ok (.invokestatic 495, 3) := by decide +kernel
theorem dJ0_charAt_5068e_15 : decode cJ0_charAt_5068e 15 = .ok (.ireturn, 1) := by decide +kernel
theorem dJ0_charAt_5068e_16 : decode cJ0_charAt_5068e 16 = .ok (.aload_n 0, 1) := by decide +kernel
theorem dJ0_charAt_5068e_17 : decode cJ0_charAt_5068e 17 = .ok (.getfield 9, 3) := by decide +kernel
theorem dJ0_charAt_5068e_20 : decode cJ0_charAt_5068e 20 = .ok (.iload_n 1, 1) := by decide +kernel
theorem dJ0_charAt_5068e_21 : decode cJ0_charAt_5068e 21 = .ok (.invokestatic 498, 3) := by decide +kernel
theorem dJ0_charAt_5068e_24 : decode cJ0_charAt_5068e 24 = .ok (.ireturn, 1) := by decide +kernel
theorem dJ0_coder_7d493_0 : decode cJ0_coder_7d493 0 = .ok (.getstatic 38, 3) := by decide +kernel
theorem dJ0_coder_7d493_3 : decode cJ0_coder_7d493 3 = .ok (.ifCond .eq 10, 3) := by decide +kernel
theorem dJ0_coder_7d493_6 : decode cJ0_coder_7d493 6 = .ok (.aload_n 0, 1) := by decide +kernel
theorem dJ0_coder_7d493_7 : decode cJ0_coder_7d493 7 = .ok (.getfield 15, 3) := by decide +kernel
theorem dJ0_coder_7d493_10 : decode cJ0_coder_7d493 10 = .ok (.goto 4, 3) := by decide +kernel
theorem dJ0_coder_7d493_13 : decode cJ0_coder_7d493 13 = .ok (.iconst 1, 1) := by decide +kernel
theorem dJ0_coder_7d493_14 : decode cJ0_coder_7d493 14 = .ok (.ireturn, 1) := by decide +kernel
theorem dJ0_isLatin1_aae02_0 : decode cJ0_isLatin1_aae02 0 = .ok (.getstatic 38, 3) := by decide +kernel
theorem dJ0_isLatin1_aae02_3 : decode cJ0_isLatin1_aae02 3 = .ok (.ifCond .eq 14, 3) := by decide +kernel
theorem dJ0_isLatin1_aae02_6 : decode cJ0_isLatin1_aae02 6 = .ok (.aload_n 0, 1) := by decide +kernel
theorem dJ0_isLatin1_aae02_7 : decode cJ0_isLatin1_aae02 7 = .ok (.getfield 15, 3) := by decide +kernel
theorem dJ0_isLatin1_aae02_10 : decode cJ0_isLatin1_aae02 10 = .ok (.ifCond .ne 7, 3) := by decide +kernel
theorem dJ0_isLatin1_aae02_13 : decode cJ0_isLatin1_aae02 13 = .ok (.iconst 1, 1) := by decide +kernel
theorem dJ0_isLatin1_aae02_14 : decode cJ0_isLatin1_aae02 14 = .ok (.goto 4, 3) := by decide +kernel
theorem dJ0_isLatin1_aae02_17 : decode cJ0_isLatin1_aae02 17 = .ok (.iconst 0, 1) := by decide +kernel
theorem dJ0_isLatin1_aae02_18 : decode cJ0_isLatin1_aae02 18 = .ok (.ireturn, 1) := by decide +kernel
set_option maxRecDepth 20000 in
theorem ggJ0_checkIndex_df160_J3_checkIndex_8e157 : GoodIn wsJ0_checkIndex_df160 wsJ3_checkIndex_8e157 := goodIn_r _ [5] (by decide +kernel) (by decide +kernel)
set_option maxRecDepth 20000 in
theorem gJ0_checkIndex_df160_J3_checkIndex_8e157 : GoodIn wsJ0_checkIndex_df160 (va_wsS RJ0 1059 yJ3_checkIndex_8e157 wsJ3_checkIndex_8e157) := goodIn_app (goodIn_of _ (by decide +kernel)) ggJ0_checkIndex_df160_J3_checkIndex_8e157
theorem dJ0_checkIndex_df160_0 : decode cJ0_checkIndex_df160 0 = .ok (.iload_n 0, 1) := by decide +kernel
theorem dJ0_checkIndex_df160_1 : decode cJ0_checkIndex_df160 1 = .ok (.iload_n 1, 1) := by decide +kernel
theorem dJ0_checkIndex_df160_2 : decode cJ0_checkIndex_df160 2 = .ok (.getstatic 1053, 3) := by decide +kernel
theorem dJ0_checkIndex_df160_5 : decode cJ0_checkIndex_df160 5 = .ok (.invokestatic 1059, 3) := by decide +kernel
theorem dJ0_checkIndex_df160_8 : decode cJ0_checkIndex_df160 8 = .ok (.pop, 1) := by decide +kernel
theorem dJ0_checkIndex_df160_9 : decode cJ0_checkIndex_df160 9 = .ok (.return_, 1) := by decide +kernel
set_option maxRecDepth 20000 in
theorem ggJ1_charAt_3b067_J0_checkIndex_df160 : GoodIn wsJ1_charAt_3b067 wsJ0_checkIndex_df160 := goodIn_r _ [4, 5, 6, 7, 8, 9] (by decide +kernel) (by decide +kernel)
set_option maxRecDepth 20000 in
theorem gJ1_charAt_3b067_J0_checkIndex_df160 : GoodIn wsJ1_charAt_3b067 (va_wsS RJ1 9 yJ0_checkIndex_df160 wsJ0_checkIndex_df160) := goodIn_app (goodIn_of _ (by decide +kernel)) ggJ1_charAt_3b067_J0_checkIndex_df160
theorem dJ1_charAt_3b067_0 : decode cJ1_charAt_3b067 0 = .ok (.iload_n 1, 1) := by decide +kernel
theorem dJ1_charAt_3b067_1 : decode cJ1_charAt_3b067 1 = .ok (.aload_n 0, 1) := by decide +kernel
theorem dJ1_charAt_3b067_2 : decode cJ1_charAt_3b067 2 = .ok (.arraylength, 1) := by decide +kernel
theorem dJ1_charAt_3b067_3 : decode cJ1_charAt_3b067 3 = .ok (.invokestatic 9, 3) := by decide +kernel
theorem dJ1_charAt_3b067_6 : decode cJ1_charAt_3b067 6 = .ok (.aload_n 0, 1) := by decide +kernel
theorem dJ1_charAt_3b067_7 : decode cJ1_charAt_3b067 7 = .ok (.iload_n 1, 1) := by decide +kernel
theorem dJ1_charAt_3b067_8 : decode cJ1_charAt_3b067 8 = .ok (.baload, 1) := by decide +kernel
theorem dJ1_charAt_3b067_9 : decode cJ1_charAt_3b067 9 = .ok (.sipush 255, 3) := by decide +kernel
theorem dJ1_charAt_3b067_12 : decode cJ1_charAt_3b067 12 = .ok (.iand, 1) := by decide +kernel
theorem dJ1_charAt_3b067_13 : decode cJ1_charAt_3b067 13 = .ok (.i2c, 1) := by decide +kernel
theorem dJ1_charAt_3b067_14 : decode cJ1_charAt_3b067 14 = .ok (.ireturn, 1) := by decide +kernel
set_option maxRecDepth 20000 in
theorem ggJ2_getChar_3b067_J2_length_9d52b : GoodIn wsJ2_getChar_3b067 wsJ2_length_9d52b := goodIn_r _ [7] (by decide +kernel) (by decide +kernel)
set_option maxRecDepth 20000 in
theorem gJ2_getChar_3b067_J2_length_9d52b : GoodIn wsJ2_getChar_3b067 (va_wsS RJ2 48 yJ2_length_9d52b wsJ2_length_9d52b) := goodIn_app (goodIn_of _ (by decide +kernel)) ggJ2_getChar_3b067_J2_length_9d52b
theorem dJ2_getChar_3b067_0 : decode cJ2_getChar_3b067 0 = .ok (.getstatic 44, 3) := by decide +kernel
theorem dJ2_getChar_3b067_3 : decode cJ2_getChar_3b067 3 = .ok (.ifCond .ne 25, 3) := by decide +kernel
theorem dJ2_getChar_3b067_6 : decode cJ2_getChar_3b067 6 = .ok (.iload_n 1, 1) := by decide +kernel
theorem dJ2_getChar_3b067_7 : decode cJ2_getChar_3b067 7 = .ok (.ifCond .lt 11, 3) := by decide +kernel
theorem dJ2_getChar_3b067_10 : decode cJ2_getChar_3b067 10 = .ok (.iload_n 1, 1) := by decide +kernel
theorem dJ2_getChar_3b067_11 : decode cJ2_getChar_3b067 11 = .ok (.aload_n 0, 1) := by decide +kernel
theorem dJ2_getChar_3b067_12 : decode cJ2_getChar_3b067 12 = .ok (.invokestatic 48, 3) := by decide +kernel
theorem dJ2_getChar_3b067_15 : decode cJ2_getChar_3b067 15 = .ok (.if_icmp .lt 13, 3) := by decide +kernel
theorem dJ2_getChar_3b067_18 : decode cJ2_getChar_3b067 18 = .ok (.new 52, 3) := by decide +kernel
theorem dJ2_getChar_3b067_21 : decode cJ2_getChar_3b067 21 = .ok (.dup, 1) := by decide +kernel
theorem dJ2_getChar_3b067_22 : decode cJ2_getChar_3b067 22 = .ok (.ldc 54, 2) := by decide +kernel
theorem dJ2_getChar_3b067_24 : decode cJ2_getChar_3b067 24 = .ok (.invokespecial 56, 3) := by decide +kernel
theorem dJ2_getChar_3b067_27 : decode cJ2_getChar_3b067 27 = .ok (.athrow, 1) := by decide +kernel
theorem dJ2_getChar_3b067_28 : decode cJ2_getChar_3b067 28 = .ok (.iload_n 1, 1) := by decide +kernel
theorem dJ2_getChar_3b067_29 : decode cJ2_getChar_3b067 29 = .ok (.iconst 1, 1) := by decide +kernel
theorem dJ2_getChar_3b067_30 : decode cJ2_getChar_3b067 30 = .ok (.ishl, 1) := by decide +kernel
theorem dJ2_getChar_3b067_31 : decode cJ2_getChar_3b067 31 = .ok (.istore_n 1, 1) := by decide +kernel
theorem dJ2_getChar_3b067_32 : decode cJ2_getChar_3b067 32 = .ok (.aload_n 0, 1) := by decide +kernel
theorem dJ2_getChar_3b067_33 : decode cJ2_getChar_3b067 33 = .ok (.iload_n 1, 1) := by decide +kernel
theorem dJ2_getChar_3b067_34 : decode cJ2_getChar_3b067 34 = .ok (.iinc 1 1, 3) := by decide +kernel
theorem dJ2_getChar_3b067_37 : decode cJ2_getChar_3b067 37 = .ok (.baload, 1) := by decide +kernel
theorem dJ2_getChar_3b067_38 : decode cJ2_getChar_3b067 38 = .ok (.sipush 255, 3) := by decide +kernel
theorem dJ2_getChar_3b067_41 : decode cJ2_getChar_3b067 41 = .ok (.iand, 1) := by decide +kernel
theorem dJ2_getChar_3b067_42 : decode cJ2_getChar_3b067 42 = .ok (.getstatic 59, 3) := by decide +kernel
theorem dJ2_getChar_3b067_45 : decode cJ2_getChar_3b067 45 = .ok (.ishl, 1) := by decide +kernel
theorem dJ2_getChar_3b067_46 : decode cJ2_getChar_3b067 46 = .ok (.aload_n 0, 1) := by decide +kernel
theorem dJ2_getChar_3b067_47 : decode cJ2_getChar_3b067 47 = .ok (.iload_n 1, 1) := by decide +kernel
theorem dJ2_getChar_3b067_48 : decode cJ2_getChar_3b067 48 = .ok (.baload, 1) := by decide +kernel
theorem dJ2_getChar_3b067_49 : decode cJ2_getChar_3b067 49 = .ok (.sipush 255, 3) := by decide +kernel
theorem dJ2_getChar_3b067_52 : decode cJ2_getChar_3b067 52 = .ok (.iand, 1) := by decide +kernel
theorem dJ2_getChar_3b067_53 : decode cJ2_getChar_3b067 53 = .ok (.getstatic 63, 3) := by decide +kernel
theorem dJ2_getChar_3b067_56 : decode cJ2_getChar_3b067 56 = .ok (.ishl, 1) := by decide +kernel
theorem dJ2_getChar_3b067_57 : decode cJ2_getChar_3b067 57 = .ok (.ior, 1) := by decide +kernel
theorem dJ2_getChar_3b067_58 : decode cJ2_getChar_3b067 58 = .ok (.i2c, 1) := by decide +kernel
theorem dJ2_getChar_3b067_59 : decode cJ2_getChar_3b067 59 = .ok (.ireturn, 1) := by decide +kernel
theorem dJ2_length_9d52b_0 : decode cJ2_length_9d52b 0 = .ok (.aload_n 0, 1) := by decide +kernel
theorem dJ2_length_9d52b_1 : decode cJ2_length_9d52b 1 = .ok (.arraylength, 1) := by decide +kernel
theorem dJ2_length_9d52b_2 : decode cJ2_length_9d52b 2 = .ok (.iconst 1, 1) := by decide +kernel
theorem dJ2_length_9d52b_3 : decode cJ2_length_9d52b 3 = .ok (.ishr, 1) := by decide +kernel
theorem dJ2_length_9d52b_4 : decode cJ2_length_9d52b 4 = .ok (.ireturn, 1) := by decide +kernel
set_option maxRecDepth 20000 in
theorem ggJ2_charAt_3b067_J2_checkIndex_2214a : GoodIn wsJ2_charAt_3b067 wsJ2_checkIndex_2214a := goodIn_r _ [4, 5, 6, 3, 7, 8, 9, 10, 11, 12, 13, 14, 15, 16] (by decide +kernel) (by decide +kernel)
set_option maxRecDepth 20000 in
theorem gJ2_charAt_3b067_J2_checkIndex_2214a : GoodIn wsJ2_charAt_3b067 (va_wsS RJ2 67 yJ2_checkIndex_2214a wsJ2_checkIndex_2214a) := goodIn_app (goodIn_of _ (by decide +kernel)) ggJ2_charAt_3b067_J2_checkIndex_2214a
set_option maxRecDepth 20000 in
theorem ggJ2_charAt_3b067_J2_getChar_3b067 : GoodIn wsJ2_charAt_3b067 wsJ2_getChar_3b067 := goodIn_r _ [19, 20, 21, 22, 5, 6, 3, 7] (by decide +kernel) (by decide +kernel)
set_option maxRecDepth 20000 in
theorem gJ2_charAt_3b067_J2_getChar_3b067 : GoodIn wsJ2_charAt_3b067 (va_wsS RJ2 71 yJ2_getChar_3b067 wsJ2_getChar_3b067) := goodIn_app (goodIn_of _ (by decide +kernel)) ggJ2_charAt_3b067_J2_getChar_3b067
theorem dJ2_charAt_3b067_0 : decode cJ2_charAt_3b067 0 = .ok (.iload_n 1, 1) := by decide +kernel
theorem dJ2_charAt_3b067_1 : decode cJ2_charAt_3b067 1 = .ok (.aload_n 0, 1) := by decide +kernel
theorem dJ2_charAt_3b067_2 : decode cJ2_charAt_3b067 2 = .ok (.invokestatic 67, 3) := by decide +kernel
theorem dJ2_charAt_3b067_5 : decode cJ2_charAt_3b067 5 = .ok (.aload_n 0, 1) := by decide +kernel
theorem dJ2_charAt_3b067_6 : decode cJ2_charAt_3b067 6 = .ok (.iload_n 1, 1) := by decide +kernel
theorem dJ2_charAt_3b067_7 : decode cJ2_charAt_3b067 7 = .ok (.invokestatic 71, 3) := by decide +kernel
theorem dJ2_charAt_3b067_10 : decode cJ2_charAt_3b067 10 = .ok (.ireturn, 1) := by decide +kernel
set_option maxRecDepth 20000 in
theorem ggJ2_checkIndex_2214a_J2_length_9d52b : GoodIn wsJ2_checkIndex_2214a wsJ2_length_9d52b := goodIn_r _ [4] (by decide +kernel) (by decide +kernel)
set_option maxRecDepth 20000 in
theorem gJ2_checkIndex_2214a_J2_length_9d52b : GoodIn wsJ2_checkIndex_2214a (va_wsS RJ2 48 yJ2_length_9d52b wsJ2_length_9d52b) := goodIn_app (goodIn_of _ (by decide +kernel)) ggJ2_checkIndex_2214a_J2_length_9d52b
set_option maxRecDepth 20000 in
theorem ggJ2_checkIndex_2214a_J0_checkIndex_df160 : GoodIn wsJ2_checkIndex_2214a wsJ0_checkIndex_df160 := goodIn_r _ [8, 9, 10, 11, 12, 13] (by decide +kernel) (by decide +kernel)
set_option maxRecDepth 20000 in
theorem gJ2_checkIndex_2214a_J0_checkIndex_df160 : GoodIn wsJ2_checkIndex_2214a (va_wsS RJ2 414 yJ0_checkIndex_df160 wsJ0_checkIndex_df160) := goodIn_app (goodIn_of _ (by decide +kernel)) ggJ2_checkIndex_2214a_J0_checkIndex_df160
theorem dJ2_checkIndex_2214a_0 : decode cJ2_checkIndex_2214a 0 = .ok (.iload_n 0, 1) := by decide +kernel
theorem dJ2_checkIndex_2214a_1 : decode cJ2_checkIndex_2214a 1 = .ok (.aload_n 1, 1) := by decide +kernel
theorem dJ2_checkIndex_2214a_2 : decode cJ2_checkIndex_2214a 2 = .ok (.invokestatic 48, 3) := by decide +kernel
theorem dJ2_checkIndex_2214a_5 : decode cJ2_checkIndex_2214a 5 = .ok (.invokestatic 414, 3) := by decide +kernel
theorem dJ2_checkIndex_2214a_8 : decode cJ2_checkIndex_2214a 8 = .ok (.return_, 1) := by decide +kernel
theorem dJ3_checkIndex_8e157_0 : decode cJ3_checkIndex_8e157 0 = .ok (.iload_n 0, 1) := by decide +kernel
theorem dJ3_checkIndex_8e157_1 : decode cJ3_checkIndex_8e157 1 = .ok (.ifCond .lt 8, 3) := by decide +kernel
theorem dJ3_checkIndex_8e157_4 : decode cJ3_checkIndex_8e157 4 = .ok (.iload_n 0, 1) := by decide +kernel
theorem dJ3_checkIndex_8e157_5 : decode cJ3_checkIndex_8e157 5 = .ok (.iload_n 1, 1) := by decide +kernel
theorem dJ3_checkIndex_8e157_6 : decode cJ3_checkIndex_8e157 6 = .ok (.if_icmp .lt 10, 3) := by decide +kernel
theorem dJ3_checkIndex_8e157_9 : decode cJ3_checkIndex_8e157 9 = .ok (.aload_n 2, 1) := by decide +kernel
theorem dJ3_checkIndex_8e157_10 : decode cJ3_checkIndex_8e157 10 = .ok (.iload_n 0, 1) := by decide +kernel
theorem dJ3_checkIndex_8e157_11 : decode cJ3_checkIndex_8e157 11 = .ok (.iload_n 1, 1) := by decide +kernel
theorem dJ3_checkIndex_8e157_12 : decode cJ3_checkIndex_8e157 12 = .ok (.invokestatic 95, 3) := by decide +kernel
theorem dJ3_checkIndex_8e157_15 : decode cJ3_checkIndex_8e157 15 = .ok (.athrow, 1) := by decide +kernel
theorem dJ3_checkIndex_8e157_16 : decode cJ3_checkIndex_8e157 16 = .ok (.iload_n 0, 1) := by decide +kernel
theorem dJ3_checkIndex_8e157_17 : decode cJ3_checkIndex_8e157 17 = .ok (.ireturn, 1) := by decide +kernel
theorem dL_lot_0 : decode cL_lot 0 = .ok (.iload_n 1, 1) := by decide +kernel
theorem dL_lot_1 : decode cL_lot 1 = .ok (.aload_n 0, 1) := by decide +kernel
theorem dL_lot_2 : decode cL_lot 2 = .ok (.arraylength, 1) := by decide +kernel
theorem dL_lot_3 : decode cL_lot 3 = .ok (.if_icmp .ge 9, 3) := by decide +kernel
theorem dL_lot_6 : decode cL_lot 6 = .ok (.aload_n 0, 1) := by decide +kernel
theorem dL_lot_7 : decode cL_lot 7 = .ok (.iload_n 1, 1) := by decide +kernel
theorem dL_lot_8 : decode cL_lot 8 = .ok (.iaload, 1) := by decide +kernel
theorem dL_lot_9 : decode cL_lot 9 = .ok (.goto 15, 3) := by decide +kernel
theorem dL_lot_12 : decode cL_lot 12 = .ok (.ldc 7, 2) := by decide +kernel
theorem dL_lot_14 : decode cL_lot 14 = .ok (.iload_n 1, 1) := by decide +kernel
theorem dL_lot_15 : decode cL_lot 15 = .ok (.sipush 3019, 3) := by decide +kernel
theorem dL_lot_18 : decode cL_lot 18 = .ok (.iadd, 1) := by decide +kernel
theorem dL_lot_19 : decode cL_lot 19 = .ok (.imul, 1) := by decide +kernel
theorem dL_lot_20 : decode cL_lot 20 = .ok (.sipush 2789, 3) := by decide +kernel
theorem dL_lot_23 : decode cL_lot 23 = .ok (.iadd, 1) := by decide +kernel
theorem dL_lot_24 : decode cL_lot 24 = .ok (.ireturn, 1) := by decide +kernel
theorem dL_low_0 : decode cL_low 0 = .ok (.iload_n 0, 1) := by decide +kernel
theorem dL_low_1 : decode cL_low 1 = .ok (.ldc 8, 2) := by decide +kernel
theorem dL_low_3 : decode cL_low 3 = .ok (.iand, 1) := by decide +kernel
theorem dL_low_4 : decode cL_low 4 = .ok (.iload_n 1, 1) := by decide +kernel
theorem dL_low_5 : decode cL_low 5 = .ok (.irem, 1) := by decide +kernel
theorem dL_low_6 : decode cL_low 6 = .ok (.ireturn, 1) := by decide +kernel
set_option maxRecDepth 20000 in
theorem ggL_digest_X6_count : GoodIn wsL_digest wsX6_count := goodIn_r _ [7, 8, 9, 10, 11, 12, 13, 14, 15, 16, 17, 18, 19, 20, 21, 22, 23, 24, 25, 26, 27, 28, 29, 30, 31, 32, 33, 34, 35, 36, 37, 38, 39, 40, 41, 42, 43, 44, 45, 46, 47, 48, 49, 50, 51, 52, 53, 54, 55, 56, 57, 58, 59, 60, 61, 62, 63, 64, 65, 66, 67, 68, 69, 70, 71, 72, 73, 165, 166, 167, 168, 169, 170, 171, 172, 173, 174, 175, 176, 177, 178, 179, 180, 181, 182, 183, 184, 185, 186, 187, 188, 189, 190, 191, 192, 193, 194, 195, 196, 197, 198, 199, 200, 201, 202, 203, 204, 205, 206, 207, 208, 209, 210, 211] (by decide +kernel) (by decide +kernel)
set_option maxRecDepth 20000 in
theorem gL_digest_X6_count : GoodIn wsL_digest (wsV RL 13 RX6 yX6_count wsX6_count) := goodIn_app (goodIn_of _ (by decide +kernel)) ggL_digest_X6_count
set_option maxRecDepth 20000 in
theorem ggL_digest_X6_stoneOf : GoodIn wsL_digest wsX6_stoneOf := goodIn_r _ [77, 11, 78, 79, 80, 81, 30, 82, 32, 83, 84, 85, 15, 86, 18, 87, 26, 88, 89, 90, 91, 92, 93, 34, 35, 36, 37, 94, 95, 96, 97, 20, 98, 99, 100, 62, 101, 64, 102, 103, 104, 105, 43, 44, 45, 46, 165, 166, 167, 168, 169, 170, 171, 183, 184, 185, 186, 187, 188, 189, 190, 191, 192, 193, 194, 195, 196, 197, 198, 199, 200, 201, 208, 209, 210, 211] (by decide +kernel) (by decide +kernel)
set_option maxRecDepth 20000 in
theorem gL_digest_X6_stoneOf : GoodIn wsL_digest (wsV RL 19 RX6 yX6_stoneOf wsX6_stoneOf) := goodIn_app (goodIn_of _ (by decide +kernel)) ggL_digest_X6_stoneOf
set_option maxRecDepth 20000 in
theorem ggL_digest_X6_dealerOf : GoodIn wsL_digest wsX6_dealerOf := goodIn_r _ [109, 11, 78, 110, 111, 112, 15, 113, 17, 114, 115, 116, 117, 69, 22, 18, 26, 55, 56, 57, 30, 58, 32, 118, 119, 120, 121, 94, 95, 96, 97, 20, 88, 89, 90, 91, 92, 98, 99, 100, 62, 101, 64, 102, 103, 104, 122, 123, 124, 125, 126, 42, 43, 44, 45, 46, 165, 166, 167, 168, 169, 170, 171, 183, 184, 185, 186, 187, 188, 189, 190, 191, 192, 193, 194, 195, 196, 197, 198, 199, 200, 201, 208, 209, 210, 211] (by decide +kernel) (by decide +kernel)
set_option maxRecDepth 20000 in
theorem gL_digest_X6_dealerOf : GoodIn wsL_digest (wsV RL 23 RX6 yX6_dealerOf wsX6_dealerOf) := goodIn_app (goodIn_of _ (by decide +kernel)) ggL_digest_X6_dealerOf
set_option maxRecDepth 20000 in
theorem ggL_digest_X6_memoOf : GoodIn wsL_digest wsX6_memoOf := goodIn_r _ [130, 11, 78, 131, 132, 133, 134, 135, 136, 137, 138, 139, 15, 140, 19, 18, 21, 141, 142, 143, 144, 26, 55, 56, 57, 30, 58, 32, 51, 52, 53, 54, 165, 166, 167, 168, 169, 170, 171, 183, 184, 185, 186, 187, 188, 189, 190, 191, 202, 203, 204, 205, 206, 207, 192, 193, 194, 195, 196, 197, 198, 199, 200, 201] (by decide +kernel) (by decide +kernel)
set_option maxRecDepth 20000 in
theorem gL_digest_X6_memoOf : GoodIn wsL_digest (wsV RL 26 RX6 yX6_memoOf wsX6_memoOf) := goodIn_app (goodIn_of _ (by decide +kernel)) ggL_digest_X6_memoOf
set_option maxRecDepth 20000 in
theorem ggL_digest_X6_rateOf : GoodIn wsL_digest wsX6_rateOf := goodIn_r _ [148, 78, 11, 149, 150, 151, 6, 152, 153, 154, 155, 156, 157, 158, 62, 159, 64, 160, 161, 162, 163, 102, 103, 104, 164, 99, 100, 101, 165, 166, 167, 168, 169, 170, 171, 183, 184, 185, 186, 187, 188, 189, 190, 191, 208, 209, 210, 211] (by decide +kernel) (by decide +kernel)
set_option maxRecDepth 20000 in
theorem gL_digest_X6_rateOf : GoodIn wsL_digest (wsV RL 29 RX6 yX6_rateOf wsX6_rateOf) := goodIn_app (goodIn_of _ (by decide +kernel)) ggL_digest_X6_rateOf
theorem dL_digest_0 : decode cL_digest 0 = .ok (.ldc2_w 9, 3) := by decide +kernel
theorem dL_digest_3 : decode cL_digest 3 = .ok (.lstore_n 1, 1) := by decide +kernel
theorem dL_digest_4 : decode cL_digest 4 = .ok (.iconst 0, 1) := by decide +kernel
theorem dL_digest_5 : decode cL_digest 5 = .ok (.istore_n 3, 1) := by decide +kernel
theorem dL_digest_6 : decode cL_digest 6 = .ok (.iload_n 3, 1) := by decide +kernel
theorem dL_digest_7 : decode cL_digest 7 = .ok (.bipush 16, 2) := by decide +kernel
theorem dL_digest_9 : decode cL_digest 9 = .ok (.if_icmp .ge 38, 3) := by decide +kernel
theorem dL_digest_12 : decode cL_digest 12 = .ok (.ldc2_w 11, 3) := by decide +kernel
theorem dL_digest_15 : decode cL_digest 15 = .ok (.lload_n 1, 1) := by decide +kernel
theorem dL_digest_16 : decode cL_digest 16 = .ok (.lmul, 1) := by decide +kernel
theorem dL_digest_17 : decode cL_digest 17 = .ok (.iload_n 3, 1) := by decide +kernel
theorem dL_digest_18 : decode cL_digest 18 = .ok (.bipush 10, 2) := by decide +kernel
theorem dL_digest_20 : decode cL_digest 20 = .ok (.if_icmp .le 13, 3) := by decide +kernel
theorem dL_digest_23 : decode cL_digest 23 = .ok (.iload_n 3, 1) := by decide +kernel
theorem dL_digest_24 : decode cL_digest 24 = .ok (.bipush 14, 2) := by decide +kernel
theorem dL_digest_26 : decode cL_digest 26 = .ok (.if_icmp .ge 7, 3) := by decide +kernel
theorem dL_digest_29 : decode cL_digest 29 = .ok (.iconst 0, 1) := by decide +kernel
theorem dL_digest_30 : decode cL_digest 30 = .ok (.goto 8, 3) := by decide +kernel
theorem dL_digest_33 : decode cL_digest 33 = .ok (.aload_n 0, 1) := by decide +kernel
theorem dL_digest_34 : decode cL_digest 34 = .ok (.iload_n 3, 1) := by decide +kernel
theorem dL_digest_35 : decode cL_digest 35 = .ok (.invokevirtual 13, 3) := by decide +kernel
theorem dL_digest_38 : decode cL_digest 38 = .ok (.i2l, 1) := by decide +kernel
theorem dL_digest_39 : decode cL_digest 39 = .ok (.ladd, 1) := by decide +kernel
theorem dL_digest_40 : decode cL_digest 40 = .ok (.lstore_n 1, 1) := by decide +kernel
theorem dL_digest_41 : decode cL_digest 41 = .ok (.iinc 3 1, 3) := by decide +kernel
theorem dL_digest_44 : decode cL_digest 44 = .ok (.goto (-38), 3) := by decide +kernel
theorem dL_digest_47 : decode cL_digest 47 = .ok (.iconst 0, 1) := by decide +kernel
theorem dL_digest_48 : decode cL_digest 48 = .ok (.istore_n 3, 1) := by decide +kernel
theorem dL_digest_49 : decode cL_digest 49 = .ok (.iload_n 3, 1) := by decide +kernel
theorem dL_digest_50 : decode cL_digest 50 = .ok (.aload_n 0, 1) := by decide +kernel
theorem dL_digest_51 : decode cL_digest 51 = .ok (.iconst 1, 1) := by decide +kernel
theorem dL_digest_52 : decode cL_digest 52 = .ok (.invokevirtual 13, 3) := by decide +kernel
theorem dL_digest_55 : decode cL_digest 55 = .ok (.bipush 11, 2) := by decide +kernel
theorem dL_digest_57 : decode cL_digest 57 = .ok (.imul, 1) := by decide +kernel
theorem dL_digest_58 : decode cL_digest 58 = .ok (.if_icmp .ge 29, 3) := by decide +kernel
theorem dL_digest_61 : decode cL_digest 61 = .ok (.ldc2_w 11, 3) := by decide +kernel
theorem dL_digest_64 : decode cL_digest 64 = .ok (.lload_n 1, 1) := by decide +kernel
theorem dL_digest_65 : decode cL_digest 65 = .ok (.lmul, 1) := by decide +kernel
theorem dL_digest_66 : decode cL_digest 66 = .ok (.aload_n 0, 1) := by decide +kernel
theorem dL_digest_67 : decode cL_digest 67 = .ok (.iload_n 3, 1) := by decide +kernel
theorem dL_digest_68 : decode cL_digest 68 = .ok (.bipush 11, 2) := by decide +kernel
theorem dL_digest_70 : decode cL_digest 70 = .ok (.idiv, 1) := by decide +kernel
theorem dL_digest_71 : decode cL_digest 71 = .ok (.iload_n 3, 1) := by decide +kernel
theorem dL_digest_72 : decode cL_digest 72 = .ok (.bipush 11, 2) := by decide +kernel
theorem dL_digest_74 : decode cL_digest 74 = .ok (.irem, 1) := by decide +kernel
theorem dL_digest_75 : decode cL_digest 75 = .ok (.invokevirtual 19, 3) := by decide +kernel
theorem dL_digest_78 : decode cL_digest 78 = .ok (.i2l, 1) := by decide +kernel
theorem dL_digest_79 : decode cL_digest 79 = .ok (.ladd, 1) := by decide +kernel
theorem dL_digest_80 : decode cL_digest 80 = .ok (.lstore_n 1, 1) := by decide +kernel
theorem dL_digest_81 : decode cL_digest 81 = .ok (.iinc 3 1, 3) := by decide +kernel
theorem dL_digest_84 : decode cL_digest 84 = .ok (.goto (-35), 3) := by decide +kernel
theorem dL_digest_87 : decode cL_digest 87 = .ok (.iconst 0, 1) := by decide +kernel
theorem dL_digest_88 : decode cL_digest 88 = .ok (.istore_n 3, 1) := by decide +kernel
theorem dL_digest_89 : decode cL_digest 89 = .ok (.iload_n 3, 1) := by decide +kernel
theorem dL_digest_90 : decode cL_digest 90 = .ok (.aload_n 0, 1) := by decide +kernel
theorem dL_digest_91 : decode cL_digest 91 = .ok (.iconst 0, 1) := by decide +kernel
theorem dL_digest_92 : decode cL_digest 92 = .ok (.invokevirtual 13, 3) := by decide +kernel
theorem dL_digest_95 : decode cL_digest 95 = .ok (.bipush 6, 2) := by decide +kernel
theorem dL_digest_97 : decode cL_digest 97 = .ok (.imul, 1) := by decide +kernel
theorem dL_digest_98 : decode cL_digest 98 = .ok (.if_icmp .ge 29, 3) := by decide +kernel
theorem dL_digest_101 : decode cL_digest 101 = .ok (.ldc2_w 11, 3) := by decide +kernel
theorem dL_digest_104 : decode cL_digest 104 = .ok (.lload_n 1, 1) := by decide +kernel
theorem dL_digest_105 : decode cL_digest 105 = .ok (.lmul, 1) := by decide +kernel
theorem dL_digest_106 : decode cL_digest 106 = .ok (.aload_n 0, 1) := by decide +kernel
theorem dL_digest_107 : decode cL_digest 107 = .ok (.iload_n 3, 1) := by decide +kernel
theorem dL_digest_108 : decode cL_digest 108 = .ok (.bipush 6, 2) := by decide +kernel
theorem dL_digest_110 : decode cL_digest 110 = .ok (.idiv, 1) := by decide +kernel
theorem dL_digest_111 : decode cL_digest 111 = .ok (.iload_n 3, 1) := by decide +kernel
theorem dL_digest_112 : decode cL_digest 112 = .ok (.bipush 6, 2) := by decide +kernel
theorem dL_digest_114 : decode cL_digest 114 = .ok (.irem, 1) := by decide +kernel
theorem dL_digest_115 : decode cL_digest 115 = .ok (.invokevirtual 23, 3) := by decide +kernel
theorem dL_digest_118 : decode cL_digest 118 = .ok (.i2l, 1) := by decide +kernel
theorem dL_digest_119 : decode cL_digest 119 = .ok (.ladd, 1) := by decide +kernel
theorem dL_digest_120 : decode cL_digest 120 = .ok (.lstore_n 1, 1) := by decide +kernel
theorem dL_digest_121 : decode cL_digest 121 = .ok (.iinc 3 1, 3) := by decide +kernel
theorem dL_digest_124 : decode cL_digest 124 = .ok (.goto (-35), 3) := by decide +kernel
theorem dL_digest_127 : decode cL_digest 127 = .ok (.iconst 0, 1) := by decide +kernel
theorem dL_digest_128 : decode cL_digest 128 = .ok (.istore_n 3, 1) := by decide +kernel
theorem dL_digest_129 : decode cL_digest 129 = .ok (.iload_n 3, 1) := by decide +kernel
theorem dL_digest_130 : decode cL_digest 130 = .ok (.aload_n 0, 1) := by decide +kernel
theorem dL_digest_131 : decode cL_digest 131 = .ok (.iconst 4, 1) := by decide +kernel
theorem dL_digest_132 : decode cL_digest 132 = .ok (.invokevirtual 13, 3) := by decide +kernel
theorem dL_digest_135 : decode cL_digest 135 = .ok (.bipush 8, 2) := by decide +kernel
theorem dL_digest_137 : decode cL_digest 137 = .ok (.imul, 1) := by decide +kernel
theorem dL_digest_138 : decode cL_digest 138 = .ok (.if_icmp .ge 29, 3) := by decide +kernel
theorem dL_digest_141 : decode cL_digest 141 = .ok (.ldc2_w 11, 3) := by decide +kernel
theorem dL_digest_144 : decode cL_digest 144 = .ok (.lload_n 1, 1) := by decide +kernel
theorem dL_digest_145 : decode cL_digest 145 = .ok (.lmul, 1) := by decide +kernel
theorem dL_digest_146 : decode cL_digest 146 = .ok (.aload_n 0, 1) := by decide +kernel
theorem dL_digest_147 : decode cL_digest 147 = .ok (.iload_n 3, 1) := by decide +kernel
theorem dL_digest_148 : decode cL_digest 148 = .ok (.bipush 8, 2) := by decide +kernel
theorem dL_digest_150 : decode cL_digest 150 = .ok (.idiv, 1) := by decide +kernel
theorem dL_digest_151 : decode cL_digest 151 = .ok (.iload_n 3, 1) := by decide +kernel
theorem dL_digest_152 : decode cL_digest 152 = .ok (.bipush 8, 2) := by decide +kernel
theorem dL_digest_154 : decode cL_digest 154 = .ok (.irem, 1) := by decide +kernel
theorem dL_digest_155 : decode cL_digest 155 = .ok (.invokevirtual 26, 3) := by decide +kernel
theorem dL_digest_158 : decode cL_digest 158 = .ok (.i2l, 1) := by decide +kernel
theorem dL_digest_159 : decode cL_digest 159 = .ok (.ladd, 1) := by decide +kernel
theorem dL_digest_160 : decode cL_digest 160 = .ok (.lstore_n 1, 1) := by decide +kernel
theorem dL_digest_161 : decode cL_digest 161 = .ok (.iinc 3 1, 3) := by decide +kernel
theorem dL_digest_164 : decode cL_digest 164 = .ok (.goto (-35), 3) := by decide +kernel
theorem dL_digest_167 : decode cL_digest 167 = .ok (.iconst 0, 1) := by decide +kernel
theorem dL_digest_168 : decode cL_digest 168 = .ok (.istore_n 3, 1) := by decide +kernel
theorem dL_digest_169 : decode cL_digest 169 = .ok (.iload_n 3, 1) := by decide +kernel
theorem dL_digest_170 : decode cL_digest 170 = .ok (.sipush 400, 3) := by decide +kernel
theorem dL_digest_173 : decode cL_digest 173 = .ok (.if_icmp .ge 37, 3) := by decide +kernel
theorem dL_digest_176 : decode cL_digest 176 = .ok (.ldc2_w 11, 3) := by decide +kernel
theorem dL_digest_179 : decode cL_digest 179 = .ok (.lload_n 1, 1) := by decide +kernel
theorem dL_digest_180 : decode cL_digest 180 = .ok (.lmul, 1) := by decide +kernel
theorem dL_digest_181 : decode cL_digest 181 = .ok (.aload_n 0, 1) := by decide +kernel
theorem dL_digest_182 : decode cL_digest 182 = .ok (.iload_n 3, 1) := by decide +kernel
theorem dL_digest_183 : decode cL_digest 183 = .ok (.bipush 80, 2) := by decide +kernel
theorem dL_digest_185 : decode cL_digest 185 = .ok (.idiv, 1) := by decide +kernel
theorem dL_digest_186 : decode cL_digest 186 = .ok (.iload_n 3, 1) := by decide +kernel
theorem dL_digest_187 : decode cL_digest 187 = .ok (.bipush 8, 2) := by decide +kernel
theorem dL_digest_189 : decode cL_digest 189 = .ok (.idiv, 1) := by decide +kernel
theorem dL_digest_190 : decode cL_digest 190 = .ok (.bipush 10, 2) := by decide +kernel
theorem dL_digest_192 : decode cL_digest 192 = .ok (.irem, 1) := by decide +kernel
theorem dL_digest_193 : decode cL_digest 193 = .ok (.iload_n 3, 1) := by decide +kernel
theorem dL_digest_194 : decode cL_digest 194 = .ok (.bipush 8, 2) := by decide +kernel
theorem dL_digest_196 : decode cL_digest 196 = .ok (.irem, 1) := by decide +kernel
theorem dL_digest_197 : decode cL_digest 197 = .ok (.iconst 1, 1) := by decide +kernel
theorem dL_digest_198 : decode cL_digest 198 = .ok (.invokevirtual 29, 3) := by decide +kernel
theorem dL_digest_201 : decode cL_digest 201 = .ok (.i2l, 1) := by decide +kernel
theorem dL_digest_202 : decode cL_digest 202 = .ok (.ladd, 1) := by decide +kernel
theorem dL_digest_203 : decode cL_digest 203 = .ok (.lstore_n 1, 1) := by decide +kernel
theorem dL_digest_204 : decode cL_digest 204 = .ok (.iinc 3 1, 3) := by decide +kernel
theorem dL_digest_207 : decode cL_digest 207 = .ok (.goto (-38), 3) := by decide +kernel
theorem dL_digest_210 : decode cL_digest 210 = .ok (.lload_n 1, 1) := by decide +kernel
theorem dL_digest_211 : decode cL_digest 211 = .ok (.lreturn, 1) := by decide +kernel
set_option maxRecDepth 20000 in
theorem ggL_holds_X6_rateOf : GoodIn wsL_holds wsX6_rateOf := goodIn_r _ [6, 7, 8, 9, 10, 11, 5, 12, 13, 14, 15, 16, 17, 18, 19, 20, 21, 22, 23, 24, 25, 26, 27, 28, 29, 30, 31, 32, 172, 173, 174, 175, 176, 177, 178, 179, 180, 181, 182, 183, 184, 185, 186, 187, 188, 189, 190, 191] (by decide +kernel) (by decide +kernel)
set_option maxRecDepth 20000 in
theorem gL_holds_X6_rateOf : GoodIn wsL_holds (wsV RL 29 RX6 yX6_rateOf wsX6_rateOf) := goodIn_app (goodIn_of _ (by decide +kernel)) ggL_holds_X6_rateOf
set_option maxRecDepth 20000 in
theorem ggL_holds_X6_count : GoodIn wsL_holds wsX6_count := goodIn_r _ [36, 37, 38, 39, 8, 40, 41, 42, 43, 44, 45, 46, 47, 48, 49, 50, 51, 52, 53, 54, 55, 56, 57, 58, 59, 60, 61, 62, 63, 64, 65, 66, 67, 68, 69, 70, 71, 72, 73, 74, 75, 76, 77, 78, 79, 80, 81, 82, 83, 84, 85, 86, 87, 88, 89, 19, 90, 21, 91, 92, 93, 94, 95, 96, 97, 98, 99, 172, 173, 174, 175, 176, 177, 178, 192, 193, 194, 195, 196, 197, 198, 199, 200, 201, 202, 179, 180, 181, 182, 183, 184, 185, 186, 187, 203, 204, 205, 206, 207, 208, 209, 210, 211, 212, 213, 214, 215, 216, 217, 218, 188, 189, 190, 191] (by decide +kernel) (by decide +kernel)
set_option maxRecDepth 20000 in
theorem gL_holds_X6_count : GoodIn wsL_holds (wsV RL 13 RX6 yX6_count wsX6_count) := goodIn_app (goodIn_of _ (by decide +kernel)) ggL_holds_X6_count
set_option maxRecDepth 20000 in
theorem ggL_holds_X6_memoOf : GoodIn wsL_holds wsX6_memoOf := goodIn_r _ [103, 8, 7, 104, 105, 106, 107, 108, 109, 110, 111, 112, 43, 113, 47, 46, 49, 114, 115, 116, 117, 54, 83, 84, 85, 58, 86, 60, 79, 80, 81, 82, 172, 173, 174, 175, 176, 177, 178, 179, 180, 181, 182, 183, 184, 185, 186, 187, 213, 214, 215, 216, 217, 218, 203, 204, 205, 206, 207, 208, 209, 210, 211, 212] (by decide +kernel) (by decide +kernel)
set_option maxRecDepth 20000 in
theorem gL_holds_X6_memoOf : GoodIn wsL_holds (wsV RL 26 RX6 yX6_memoOf wsX6_memoOf) := goodIn_app (goodIn_of _ (by decide +kernel)) ggL_holds_X6_memoOf
set_option maxRecDepth 20000 in
theorem ggL_holds_X6_stoneOf : GoodIn wsL_holds wsX6_stoneOf := goodIn_r _ [121, 8, 7, 122, 123, 124, 58, 125, 60, 126, 127, 128, 43, 129, 46, 130, 54, 131, 132, 133, 134, 135, 136, 62, 63, 64, 65, 137, 138, 139, 140, 48, 141, 30, 31, 19, 32, 21, 26, 27, 28, 142, 71, 72, 73, 74, 172, 173, 174, 175, 176, 177, 178, 179, 180, 181, 182, 183, 184, 185, 186, 187, 203, 204, 205, 206, 207, 208, 209, 210, 211, 212, 188, 189, 190, 191] (by decide +kernel) (by decide +kernel)
set_option maxRecDepth 20000 in
theorem gL_holds_X6_stoneOf : GoodIn wsL_holds (wsV RL 19 RX6 yX6_stoneOf wsX6_stoneOf) := goodIn_app (goodIn_of _ (by decide +kernel)) ggL_holds_X6_stoneOf
set_option maxRecDepth 20000 in
theorem ggL_holds_L_low : GoodIn wsL_holds wsL_low := goodIn_r _ [146, 147] (by decide +kernel) (by decide +kernel)
set_option maxRecDepth 20000 in
theorem gL_holds_L_low : GoodIn wsL_holds (va_wsS RL 33 yL_low wsL_low) := goodIn_app (goodIn_of _ (by decide +kernel)) ggL_holds_L_low
set_option maxRecDepth 20000 in
theorem ggL_holds_X6_grades : GoodIn wsL_holds wsX6_grades := goodIn_r _ [151, 8, 7, 152, 153, 154, 43, 155, 45, 156, 157, 158, 58, 159, 60, 160, 161, 162, 163, 164, 165, 166, 167, 168, 169, 170, 171, 132, 133, 134, 135, 172, 173, 174, 175, 176, 177, 178, 179, 180, 181, 182, 183, 184, 185, 186, 187, 203, 204, 205, 206, 207, 208, 209, 210, 211, 212] (by decide +kernel) (by decide +kernel)
set_option maxRecDepth 20000 in
theorem gL_holds_X6_grades : GoodIn wsL_holds (wsV RL 38 RX6 yX6_grades wsX6_grades) := goodIn_app (goodIn_of _ (by decide +kernel)) ggL_holds_X6_grades
theorem dL_holds_0 : decode cL_holds 0 = .ok (.iconst 0, 1) := by decide +kernel
theorem dL_holds_1 : decode cL_holds 1 = .ok (.istore_n 2, 1) := by decide +kernel
theorem dL_holds_2 : decode cL_holds 2 = .ok (.iconst 0, 1) := by decide +kernel
theorem dL_holds_3 : decode cL_holds 3 = .ok (.istore_n 3, 1) := by decide +kernel
theorem dL_holds_4 : decode cL_holds 4 = .ok (.iload_n 3, 1) := by decide +kernel
theorem dL_holds_5 : decode cL_holds 5 = .ok (.sipush 400, 3) := by decide +kernel
theorem dL_holds_8 : decode cL_holds 8 = .ok (.if_icmp .ge 76, 3) := by decide +kernel
theorem dL_holds_11 : decode cL_holds 11 = .ok (.aload_n 0, 1) := by decide +kernel
theorem dL_holds_12 : decode cL_holds 12 = .ok (.iload_n 3, 1) := by decide +kernel
theorem dL_holds_13 : decode cL_holds 13 = .ok (.bipush 80, 2) := by decide +kernel
theorem dL_holds_15 : decode cL_holds 15 = .ok (.idiv, 1) := by decide +kernel
theorem dL_holds_16 : decode cL_holds 16 = .ok (.iload_n 3, 1) := by decide +kernel
theorem dL_holds_17 : decode cL_holds 17 = .ok (.bipush 8, 2) := by decide +kernel
theorem dL_holds_19 : decode cL_holds 19 = .ok (.idiv, 1) := by decide +kernel
theorem dL_holds_20 : decode cL_holds 20 = .ok (.bipush 10, 2) := by decide +kernel
theorem dL_holds_22 : decode cL_holds 22 = .ok (.irem, 1) := by decide +kernel
theorem dL_holds_23 : decode cL_holds 23 = .ok (.iload_n 3, 1) := by decide +kernel
theorem dL_holds_24 : decode cL_holds 24 = .ok (.bipush 8, 2) := by decide +kernel
theorem dL_holds_26 : decode cL_holds 26 = .ok (.irem, 1) := by decide +kernel
theorem dL_holds_27 : decode cL_holds 27 = .ok (.iconst 1, 1) := by decide +kernel
theorem dL_holds_28 : decode cL_holds 28 = .ok (.invokevirtual 29, 3) := by decide +kernel
theorem dL_holds_31 : decode cL_holds 31 = .ok (.istore 4, 2) := by decide +kernel
theorem dL_holds_33 : decode cL_holds 33 = .ok (.iload_n 2, 1) := by decide +kernel
theorem dL_holds_34 : decode cL_holds 34 = .ok (.iload 4, 2) := by decide +kernel
theorem dL_holds_36 : decode cL_holds 36 = .ok (.ifCond .le 7, 3) := by decide +kernel
theorem dL_holds_39 : decode cL_holds 39 = .ok (.iconst 1, 1) := by decide +kernel
theorem dL_holds_40 : decode cL_holds 40 = .ok (.goto 4, 3) := by decide +kernel
theorem dL_holds_43 : decode cL_holds 43 = .ok (.iconst 0, 1) := by decide +kernel
theorem dL_holds_44 : decode cL_holds 44 = .ok (.iadd, 1) := by decide +kernel
theorem dL_holds_45 : decode cL_holds 45 = .ok (.istore_n 2, 1) := by decide +kernel
theorem dL_holds_46 : decode cL_holds 46 = .ok (.iload 4, 2) := by decide +kernel
theorem dL_holds_48 : decode cL_holds 48 = .ok (.ifCond .le 30, 3) := by decide +kernel
theorem dL_holds_51 : decode cL_holds 51 = .ok (.aload_n 0, 1) := by decide +kernel
theorem dL_holds_52 : decode cL_holds 52 = .ok (.iload_n 3, 1) := by decide +kernel
theorem dL_holds_53 : decode cL_holds 53 = .ok (.bipush 80, 2) := by decide +kernel
theorem dL_holds_55 : decode cL_holds 55 = .ok (.idiv, 1) := by decide +kernel
theorem dL_holds_56 : decode cL_holds 56 = .ok (.iload_n 3, 1) := by decide +kernel
theorem dL_holds_57 : decode cL_holds 57 = .ok (.bipush 8, 2) := by decide +kernel
theorem dL_holds_59 : decode cL_holds 59 = .ok (.idiv, 1) := by decide +kernel
theorem dL_holds_60 : decode cL_holds 60 = .ok (.bipush 10, 2) := by decide +kernel
theorem dL_holds_62 : decode cL_holds 62 = .ok (.irem, 1) := by decide +kernel
theorem dL_holds_63 : decode cL_holds 63 = .ok (.iload_n 3, 1) := by decide +kernel
theorem dL_holds_64 : decode cL_holds 64 = .ok (.bipush 8, 2) := by decide +kernel
theorem dL_holds_66 : decode cL_holds 66 = .ok (.irem, 1) := by decide +kernel
theorem dL_holds_67 : decode cL_holds 67 = .ok (.iconst 0, 1) := by decide +kernel
theorem dL_holds_68 : decode cL_holds 68 = .ok (.invokevirtual 29, 3) := by decide +kernel
theorem dL_holds_71 : decode cL_holds 71 = .ok (.iload 4, 2) := by decide +kernel
theorem dL_holds_73 : decode cL_holds 73 = .ok (.if_icmp .eq 5, 3) := by decide +kernel
theorem dL_holds_76 : decode cL_holds 76 = .ok (.iconst 0, 1) := by decide +kernel
theorem dL_holds_77 : decode cL_holds 77 = .ok (.ireturn, 1) := by decide +kernel
theorem dL_holds_78 : decode cL_holds 78 = .ok (.iinc 3 1, 3) := by decide +kernel
theorem dL_holds_81 : decode cL_holds 81 = .ok (.goto (-77), 3) := by decide +kernel
theorem dL_holds_84 : decode cL_holds 84 = .ok (.iconst 0, 1) := by decide +kernel
theorem dL_holds_85 : decode cL_holds 85 = .ok (.istore_n 3, 1) := by decide +kernel
theorem dL_holds_86 : decode cL_holds 86 = .ok (.iconst 0, 1) := by decide +kernel
theorem dL_holds_87 : decode cL_holds 87 = .ok (.istore 4, 2) := by decide +kernel
theorem dL_holds_89 : decode cL_holds 89 = .ok (.iload 4, 2) := by decide +kernel
theorem dL_holds_91 : decode cL_holds 91 = .ok (.aload_n 0, 1) := by decide +kernel
theorem dL_holds_92 : decode cL_holds 92 = .ok (.iconst 4, 1) := by decide +kernel
theorem dL_holds_93 : decode cL_holds 93 = .ok (.invokevirtual 13, 3) := by decide +kernel
theorem dL_holds_96 : decode cL_holds 96 = .ok (.if_icmp .ge 52, 3) := by decide +kernel
theorem dL_holds_99 : decode cL_holds 99 = .ok (.iload_n 3, 1) := by decide +kernel
theorem dL_holds_100 : decode cL_holds 100 = .ok (.aload_n 0, 1) := by decide +kernel
theorem dL_holds_101 : decode cL_holds 101 = .ok (.iload 4, 2) := by decide +kernel
theorem dL_holds_103 : decode cL_holds 103 = .ok (.bipush 6, 2) := by decide +kernel
theorem dL_holds_105 : decode cL_holds 105 = .ok (.invokevirtual 26, 3) := by decide +kernel
theorem dL_holds_108 : decode cL_holds 108 = .ok (.iadd, 1) := by decide +kernel
theorem dL_holds_109 : decode cL_holds 109 = .ok (.istore_n 3, 1) := by decide +kernel
theorem dL_holds_110 : decode cL_holds 110 = .ok (.aload_n 0, 1) := by decide +kernel
theorem dL_holds_111 : decode cL_holds 111 = .ok (.iload 4, 2) := by decide +kernel
theorem dL_holds_113 : decode cL_holds 113 = .ok (.iconst 0, 1) := by decide +kernel
theorem dL_holds_114 : decode cL_holds 114 = .ok (.invokevirtual 26, 3) := by decide +kernel
theorem dL_holds_117 : decode cL_holds 117 = .ok (.aload_n 0, 1) := by decide +kernel
theorem dL_holds_118 : decode cL_holds 118 = .ok (.iload 4, 2) := by decide +kernel
theorem dL_holds_120 : decode cL_holds 120 = .ok (.iconst 1, 1) := by decide +kernel
theorem dL_holds_121 : decode cL_holds 121 = .ok (.invokevirtual 26, 3) := by decide +kernel
theorem dL_holds_124 : decode cL_holds 124 = .ok (.if_icmp .eq 16, 3) := by decide +kernel
theorem dL_holds_127 : decode cL_holds 127 = .ok (.aload_n 0, 1) := by decide +kernel
theorem dL_holds_128 : decode cL_holds 128 = .ok (.iload 4, 2) := by decide +kernel
theorem dL_holds_130 : decode cL_holds 130 = .ok (.bipush 7, 2) := by decide +kernel
theorem dL_holds_132 : decode cL_holds 132 = .ok (.invokevirtual 26, 3) := by decide +kernel
theorem dL_holds_135 : decode cL_holds 135 = .ok (.bipush 90, 2) := by decide +kernel
theorem dL_holds_137 : decode cL_holds 137 = .ok (.if_icmp .le 5, 3) := by decide +kernel
theorem dL_holds_140 : decode cL_holds 140 = .ok (.iconst 0, 1) := by decide +kernel
theorem dL_holds_141 : decode cL_holds 141 = .ok (.ireturn, 1) := by decide +kernel
theorem dL_holds_142 : decode cL_holds 142 = .ok (.iinc 4 1, 3) := by decide +kernel
theorem dL_holds_145 : decode cL_holds 145 = .ok (.goto (-56), 3) := by decide +kernel
theorem dL_holds_148 : decode cL_holds 148 = .ok (.iconst 0, 1) := by decide +kernel
theorem dL_holds_149 : decode cL_holds 149 = .ok (.istore 4, 2) := by decide +kernel
theorem dL_holds_151 : decode cL_holds 151 = .ok (.iconst 0, 1) := by decide +kernel
theorem dL_holds_152 : decode cL_holds 152 = .ok (.istore 5, 2) := by decide +kernel
theorem dL_holds_154 : decode cL_holds 154 = .ok (.iload 5, 2) := by decide +kernel
theorem dL_holds_156 : decode cL_holds 156 = .ok (.aload_n 0, 1) := by decide +kernel
theorem dL_holds_157 : decode cL_holds 157 = .ok (.iconst 1, 1) := by decide +kernel
theorem dL_holds_158 : decode cL_holds 158 = .ok (.invokevirtual 13, 3) := by decide +kernel
theorem dL_holds_161 : decode cL_holds 161 = .ok (.if_icmp .ge 89, 3) := by decide +kernel
theorem dL_holds_164 : decode cL_holds 164 = .ok (.aload_n 0, 1) := by decide +kernel
theorem dL_holds_165 : decode cL_holds 165 = .ok (.iload 5, 2) := by decide +kernel
theorem dL_holds_167 : decode cL_holds 167 = .ok (.bipush 7, 2) := by decide +kernel
theorem dL_holds_169 : decode cL_holds 169 = .ok (.invokevirtual 19, 3) := by decide +kernel
theorem dL_holds_172 : decode cL_holds 172 = .ok (.istore 6, 2) := by decide +kernel
theorem dL_holds_174 : decode cL_holds 174 = .ok (.iload 4, 2) := by decide +kernel
theorem dL_holds_176 : decode cL_holds 176 = .ok (.aload_n 0, 1) := by decide +kernel
theorem dL_holds_177 : decode cL_holds 177 = .ok (.iload 5, 2) := by decide +kernel
theorem dL_holds_179 : decode cL_holds 179 = .ok (.bipush 10, 2) := by decide +kernel
theorem dL_holds_181 : decode cL_holds 181 = .ok (.invokevirtual 19, 3) := by decide +kernel
theorem dL_holds_184 : decode cL_holds 184 = .ok (.iadd, 1) := by decide +kernel
theorem dL_holds_185 : decode cL_holds 185 = .ok (.istore 4, 2) := by decide +kernel
theorem dL_holds_187 : decode cL_holds 187 = .ok (.iload 6, 2) := by decide +kernel
theorem dL_holds_189 : decode cL_holds 189 = .ok (.ifCond .lt 55, 3) := by decide +kernel
theorem dL_holds_192 : decode cL_holds 192 = .ok (.aload_n 0, 1) := by decide +kernel
theorem dL_holds_193 : decode cL_holds 193 = .ok (.iload 6, 2) := by decide +kernel
theorem dL_holds_195 : decode cL_holds 195 = .ok (.iconst 0, 1) := by decide +kernel
theorem dL_holds_196 : decode cL_holds 196 = .ok (.invokevirtual 26, 3) := by decide +kernel
theorem dL_holds_199 : decode cL_holds 199 = .ok (.aload_n 0, 1) := by decide +kernel
theorem dL_holds_200 : decode cL_holds 200 = .ok (.iload 5, 2) := by decide +kernel
theorem dL_holds_202 : decode cL_holds 202 = .ok (.iconst 4, 1) := by decide +kernel
theorem dL_holds_203 : decode cL_holds 203 = .ok (.invokevirtual 19, 3) := by decide +kernel
theorem dL_holds_206 : decode cL_holds 206 = .ok (.if_icmp .ne 36, 3) := by decide +kernel
theorem dL_holds_209 : decode cL_holds 209 = .ok (.aload_n 0, 1) := by decide +kernel
theorem dL_holds_210 : decode cL_holds 210 = .ok (.iload 6, 2) := by decide +kernel
theorem dL_holds_212 : decode cL_holds 212 = .ok (.iconst 1, 1) := by decide +kernel
theorem dL_holds_213 : decode cL_holds 213 = .ok (.invokevirtual 26, 3) := by decide +kernel
theorem dL_holds_216 : decode cL_holds 216 = .ok (.aload_n 0, 1) := by decide +kernel
theorem dL_holds_217 : decode cL_holds 217 = .ok (.iload 5, 2) := by decide +kernel
theorem dL_holds_219 : decode cL_holds 219 = .ok (.iconst 5, 1) := by decide +kernel
theorem dL_holds_220 : decode cL_holds 220 = .ok (.invokevirtual 19, 3) := by decide +kernel
theorem dL_holds_223 : decode cL_holds 223 = .ok (.if_icmp .ne 19, 3) := by decide +kernel
theorem dL_holds_226 : decode cL_holds 226 = .ok (.aload_n 0, 1) := by decide +kernel
theorem dL_holds_227 : decode cL_holds 227 = .ok (.iload 6, 2) := by decide +kernel
theorem dL_holds_229 : decode cL_holds 229 = .ok (.iconst 3, 1) := by decide +kernel
theorem dL_holds_230 : decode cL_holds 230 = .ok (.invokevirtual 26, 3) := by decide +kernel
theorem dL_holds_233 : decode cL_holds 233 = .ok (.iload 5, 2) := by decide +kernel
theorem dL_holds_235 : decode cL_holds 235 = .ok (.ishr, 1) := by decide +kernel
theorem dL_holds_236 : decode cL_holds 236 = .ok (.iconst 1, 1) := by decide +kernel
theorem dL_holds_237 : decode cL_holds 237 = .ok (.iand, 1) := by decide +kernel
theorem dL_holds_238 : decode cL_holds 238 = .ok (.iconst 1, 1) := by decide +kernel
theorem dL_holds_239 : decode cL_holds 239 = .ok (.if_icmp .eq 5, 3) := by decide +kernel
theorem dL_holds_242 : decode cL_holds 242 = .ok (.iconst 0, 1) := by decide +kernel
theorem dL_holds_243 : decode cL_holds 243 = .ok (.ireturn, 1) := by decide +kernel
theorem dL_holds_244 : decode cL_holds 244 = .ok (.iinc 5 1, 3) := by decide +kernel
theorem dL_holds_247 : decode cL_holds 247 = .ok (.goto (-93), 3) := by decide +kernel
theorem dL_holds_250 : decode cL_holds 250 = .ok (.aload_n 0, 1) := by decide +kernel
theorem dL_holds_251 : decode cL_holds 251 = .ok (.iconst 0, 1) := by decide +kernel
theorem dL_holds_252 : decode cL_holds 252 = .ok (.invokevirtual 13, 3) := by decide +kernel
theorem dL_holds_255 : decode cL_holds 255 = .ok (.ifCond .eq 19, 3) := by decide +kernel
theorem dL_holds_258 : decode cL_holds 258 = .ok (.aload_n 0, 1) := by decide +kernel
theorem dL_holds_259 : decode cL_holds 259 = .ok (.iload_n 1, 1) := by decide +kernel
theorem dL_holds_260 : decode cL_holds 260 = .ok (.aload_n 0, 1) := by decide +kernel
theorem dL_holds_261 : decode cL_holds 261 = .ok (.iconst 0, 1) := by decide +kernel
theorem dL_holds_262 : decode cL_holds 262 = .ok (.invokevirtual 13, 3) := by decide +kernel
theorem dL_holds_265 : decode cL_holds 265 = .ok (.invokestatic 33, 3) := by decide +kernel
theorem dL_holds_268 : decode cL_holds 268 = .ok (.invokevirtual 38, 3) := by decide +kernel
theorem dL_holds_271 : decode cL_holds 271 = .ok (.ifCond .lt 7, 3) := by decide +kernel
theorem dL_holds_274 : decode cL_holds 274 = .ok (.iconst 1, 1) := by decide +kernel
theorem dL_holds_275 : decode cL_holds 275 = .ok (.goto 4, 3) := by decide +kernel
theorem dL_holds_278 : decode cL_holds 278 = .ok (.iconst 0, 1) := by decide +kernel
theorem dL_holds_279 : decode cL_holds 279 = .ok (.istore 5, 2) := by decide +kernel
theorem dL_holds_281 : decode cL_holds 281 = .ok (.iload 5, 2) := by decide +kernel
theorem dL_holds_283 : decode cL_holds 283 = .ok (.ifCond .eq 55, 3) := by decide +kernel
theorem dL_holds_286 : decode cL_holds 286 = .ok (.iload_n 2, 1) := by decide +kernel
theorem dL_holds_287 : decode cL_holds 287 = .ok (.aload_n 0, 1) := by decide +kernel
theorem dL_holds_288 : decode cL_holds 288 = .ok (.bipush 6, 2) := by decide +kernel
theorem dL_holds_290 : decode cL_holds 290 = .ok (.invokevirtual 13, 3) := by decide +kernel
theorem dL_holds_293 : decode cL_holds 293 = .ok (.if_icmp .ne 45, 3) := by decide +kernel
theorem dL_holds_296 : decode cL_holds 296 = .ok (.iload_n 3, 1) := by decide +kernel
theorem dL_holds_297 : decode cL_holds 297 = .ok (.aload_n 0, 1) := by decide +kernel
theorem dL_holds_298 : decode cL_holds 298 = .ok (.iconst 5, 1) := by decide +kernel
theorem dL_holds_299 : decode cL_holds 299 = .ok (.invokevirtual 13, 3) := by decide +kernel
theorem dL_holds_302 : decode cL_holds 302 = .ok (.if_icmp .ne 36, 3) := by decide +kernel
theorem dL_holds_305 : decode cL_holds 305 = .ok (.iload 4, 2) := by decide +kernel
theorem dL_holds_307 : decode cL_holds 307 = .ok (.aload_n 0, 1) := by decide +kernel
theorem dL_holds_308 : decode cL_holds 308 = .ok (.bipush 10, 2) := by decide +kernel
theorem dL_holds_310 : decode cL_holds 310 = .ok (.invokevirtual 13, 3) := by decide +kernel
theorem dL_holds_313 : decode cL_holds 313 = .ok (.if_icmp .lt 25, 3) := by decide +kernel
theorem dL_holds_316 : decode cL_holds 316 = .ok (.aload_n 0, 1) := by decide +kernel
theorem dL_holds_317 : decode cL_holds 317 = .ok (.bipush 8, 2) := by decide +kernel
theorem dL_holds_319 : decode cL_holds 319 = .ok (.invokevirtual 13, 3) := by decide +kernel
theorem dL_holds_322 : decode cL_holds 322 = .ok (.ldc 41, 2) := by decide +kernel
theorem dL_holds_324 : decode cL_holds 324 = .ok (.isub, 1) := by decide +kernel
theorem dL_holds_325 : decode cL_holds 325 = .ok (.aload_n 0, 1) := by decide +kernel
theorem dL_holds_326 : decode cL_holds 326 = .ok (.bipush 9, 2) := by decide +kernel
theorem dL_holds_328 : decode cL_holds 328 = .ok (.invokevirtual 13, 3) := by decide +kernel
theorem dL_holds_331 : decode cL_holds 331 = .ok (.if_icmp .ne 7, 3) := by decide +kernel
theorem dL_holds_334 : decode cL_holds 334 = .ok (.iconst 1, 1) := by decide +kernel
theorem dL_holds_335 : decode cL_holds 335 = .ok (.goto 4, 3) := by decide +kernel
theorem dL_holds_338 : decode cL_holds 338 = .ok (.iconst 0, 1) := by decide +kernel
theorem dL_holds_339 : decode cL_holds 339 = .ok (.ireturn, 1) := by decide +kernel
set_option maxRecDepth 20000 in
theorem ggL_digits_X6_type : GoodIn wsL_digits wsX6_type := goodIn_r _ [5, 6, 7, 8, 9, 10, 11, 12, 13, 14, 15, 16, 17, 18, 19, 20, 21, 22, 23, 24, 25, 26, 27, 28, 29, 30] (by decide +kernel) (by decide +kernel)
set_option maxRecDepth 20000 in
theorem gL_digits_X6_type : GoodIn wsL_digits (wsV RL 42 RX6 yX6_type wsX6_type) := goodIn_app (goodIn_of _ (by decide +kernel)) ggL_digits_X6_type
theorem dL_digits_0 : decode cL_digits 0 = .ok (.iload_n 1, 1) := by decide +kernel
theorem dL_digits_1 : decode cL_digits 1 = .ok (.sipush 1000, 3) := by decide +kernel
theorem dL_digits_4 : decode cL_digits 4 = .ok (.if_icmp .lt 18, 3) := by decide +kernel
theorem dL_digits_7 : decode cL_digits 7 = .ok (.aload_n 0, 1) := by decide +kernel
theorem dL_digits_8 : decode cL_digits 8 = .ok (.bipush 48, 2) := by decide +kernel
theorem dL_digits_10 : decode cL_digits 10 = .ok (.iload_n 1, 1) := by decide +kernel
theorem dL_digits_11 : decode cL_digits 11 = .ok (.sipush 1000, 3) := by decide +kernel
theorem dL_digits_14 : decode cL_digits 14 = .ok (.idiv, 1) := by decide +kernel
theorem dL_digits_15 : decode cL_digits 15 = .ok (.iadd, 1) := by decide +kernel
theorem dL_digits_16 : decode cL_digits 16 = .ok (.invokevirtual 42, 3) := by decide +kernel
theorem dL_digits_19 : decode cL_digits 19 = .ok (.ifCond .le 53, 3) := by decide +kernel
theorem dL_digits_22 : decode cL_digits 22 = .ok (.iload_n 1, 1) := by decide +kernel
theorem dL_digits_23 : decode cL_digits 23 = .ok (.bipush 100, 2) := by decide +kernel
theorem dL_digits_25 : decode cL_digits 25 = .ok (.if_icmp .lt 20, 3) := by decide +kernel
theorem dL_digits_28 : decode cL_digits 28 = .ok (.aload_n 0, 1) := by decide +kernel
theorem dL_digits_29 : decode cL_digits 29 = .ok (.bipush 48, 2) := by decide +kernel
theorem dL_digits_31 : decode cL_digits 31 = .ok (.iload_n 1, 1) := by decide +kernel
theorem dL_digits_32 : decode cL_digits 32 = .ok (.bipush 100, 2) := by decide +kernel
theorem dL_digits_34 : decode cL_digits 34 = .ok (.idiv, 1) := by decide +kernel
theorem dL_digits_35 : decode cL_digits 35 = .ok (.bipush 10, 2) := by decide +kernel
theorem dL_digits_37 : decode cL_digits 37 = .ok (.irem, 1) := by decide +kernel
theorem dL_digits_38 : decode cL_digits 38 = .ok (.iadd, 1) := by decide +kernel
theorem dL_digits_39 : decode cL_digits 39 = .ok (.invokevirtual 42, 3) := by decide +kernel
theorem dL_digits_42 : decode cL_digits 42 = .ok (.ifCond .le 30, 3) := by decide +kernel
theorem dL_digits_45 : decode cL_digits 45 = .ok (.iload_n 1, 1) := by decide +kernel
theorem dL_digits_46 : decode cL_digits 46 = .ok (.bipush 10, 2) := by decide +kernel
theorem dL_digits_48 : decode cL_digits 48 = .ok (.if_icmp .lt 20, 3) := by decide +kernel
theorem dL_digits_51 : decode cL_digits 51 = .ok (.aload_n 0, 1) := by decide +kernel
theorem dL_digits_52 : decode cL_digits 52 = .ok (.bipush 48, 2) := by decide +kernel
theorem dL_digits_54 : decode cL_digits 54 = .ok (.iload_n 1, 1) := by decide +kernel
theorem dL_digits_55 : decode cL_digits 55 = .ok (.bipush 10, 2) := by decide +kernel
theorem dL_digits_57 : decode cL_digits 57 = .ok (.idiv, 1) := by decide +kernel
theorem dL_digits_58 : decode cL_digits 58 = .ok (.bipush 10, 2) := by decide +kernel
theorem dL_digits_60 : decode cL_digits 60 = .ok (.irem, 1) := by decide +kernel
theorem dL_digits_61 : decode cL_digits 61 = .ok (.iadd, 1) := by decide +kernel
theorem dL_digits_62 : decode cL_digits 62 = .ok (.invokevirtual 42, 3) := by decide +kernel
theorem dL_digits_65 : decode cL_digits 65 = .ok (.ifCond .le 7, 3) := by decide +kernel
theorem dL_digits_68 : decode cL_digits 68 = .ok (.iconst 1, 1) := by decide +kernel
theorem dL_digits_69 : decode cL_digits 69 = .ok (.goto 4, 3) := by decide +kernel
theorem dL_digits_72 : decode cL_digits 72 = .ok (.iconst 0, 1) := by decide +kernel
theorem dL_digits_73 : decode cL_digits 73 = .ok (.istore_n 2, 1) := by decide +kernel
theorem dL_digits_74 : decode cL_digits 74 = .ok (.iload_n 2, 1) := by decide +kernel
theorem dL_digits_75 : decode cL_digits 75 = .ok (.ifCond .eq 21, 3) := by decide +kernel
theorem dL_digits_78 : decode cL_digits 78 = .ok (.aload_n 0, 1) := by decide +kernel
theorem dL_digits_79 : decode cL_digits 79 = .ok (.bipush 48, 2) := by decide +kernel
theorem dL_digits_81 : decode cL_digits 81 = .ok (.iload_n 1, 1) := by decide +kernel
theorem dL_digits_82 : decode cL_digits 82 = .ok (.bipush 10, 2) := by decide +kernel
end
section
theorem dL_digits_84 : decode cL_digits 84 = .ok (.irem, 1) := by decide +kernel
theorem dL_digits_85 : decode cL_digits 85 = .ok (.iadd, 1) := by decide +kernel
theorem dL_digits_86 : decode cL_digits 86 = .ok (.invokevirtual 42, 3) := by decide +kernel
theorem dL_digits_89 : decode cL_digits 89 = .ok (.ifCond .le 7, 3) := by decide +kernel
theorem dL_digits_92 : decode cL_digits 92 = .ok (.iconst 1, 1) := by decide +kernel
theorem dL_digits_93 : decode cL_digits 93 = .ok (.goto 4, 3) := by decide +kernel
theorem dL_digits_96 : decode cL_digits 96 = .ok (.iconst 0, 1) := by decide +kernel
theorem dL_digits_97 : decode cL_digits 97 = .ok (.ireturn, 1) := by decide +kernel
set_option maxRecDepth 20000 in
theorem ggL_signs_X6_type : GoodIn wsL_signs wsX6_type := goodIn_r _ [5, 6, 7, 8, 9, 10, 11, 12, 13, 14, 15, 16, 17, 18, 19, 20, 21, 22, 23, 24, 25, 26, 27, 28, 29, 30] (by decide +kernel) (by decide +kernel)
set_option maxRecDepth 20000 in
theorem gL_signs_X6_type : GoodIn wsL_signs (wsV RL 42 RX6 yX6_type wsX6_type) := goodIn_app (goodIn_of _ (by decide +kernel)) ggL_signs_X6_type
theorem dL_signs_0 : decode cL_signs 0 = .ok (.aload_n 0, 1) := by decide +kernel
theorem dL_signs_1 : decode cL_signs 1 = .ok (.iload_n 1, 1) := by decide +kernel
theorem dL_signs_2 : decode cL_signs 2 = .ok (.invokevirtual 42, 3) := by decide +kernel
theorem dL_signs_5 : decode cL_signs 5 = .ok (.ifCond .le 32, 3) := by decide +kernel
theorem dL_signs_8 : decode cL_signs 8 = .ok (.aload_n 0, 1) := by decide +kernel
theorem dL_signs_9 : decode cL_signs 9 = .ok (.iload_n 2, 1) := by decide +kernel
theorem dL_signs_10 : decode cL_signs 10 = .ok (.invokevirtual 42, 3) := by decide +kernel
theorem dL_signs_13 : decode cL_signs 13 = .ok (.ifCond .le 24, 3) := by decide +kernel
theorem dL_signs_16 : decode cL_signs 16 = .ok (.aload_n 0, 1) := by decide +kernel
theorem dL_signs_17 : decode cL_signs 17 = .ok (.iload_n 3, 1) := by decide +kernel
theorem dL_signs_18 : decode cL_signs 18 = .ok (.invokevirtual 42, 3) := by decide +kernel
theorem dL_signs_21 : decode cL_signs 21 = .ok (.ifCond .le 16, 3) := by decide +kernel
theorem dL_signs_24 : decode cL_signs 24 = .ok (.aload_n 0, 1) := by decide +kernel
theorem dL_signs_25 : decode cL_signs 25 = .ok (.iload 4, 2) := by decide +kernel
theorem dL_signs_27 : decode cL_signs 27 = .ok (.invokevirtual 42, 3) := by decide +kernel
theorem dL_signs_30 : decode cL_signs 30 = .ok (.ifCond .le 7, 3) := by decide +kernel
theorem dL_signs_33 : decode cL_signs 33 = .ok (.iconst 1, 1) := by decide +kernel
theorem dL_signs_34 : decode cL_signs 34 = .ok (.goto 4, 3) := by decide +kernel
theorem dL_signs_37 : decode cL_signs 37 = .ok (.iconst 0, 1) := by decide +kernel
theorem dL_signs_38 : decode cL_signs 38 = .ok (.ireturn, 1) := by decide +kernel
set_option maxRecDepth 20000 in
theorem ggL_types_L_low : GoodIn wsL_types wsL_low := goodIn_r _ [4, 5] (by decide +kernel) (by decide +kernel)
set_option maxRecDepth 20000 in
theorem gL_types_L_low : GoodIn wsL_types (va_wsS RL 33 yL_low wsL_low) := goodIn_app (goodIn_of _ (by decide +kernel)) ggL_types_L_low
set_option maxRecDepth 20000 in
theorem ggL_types_X6_clearText : GoodIn wsL_types wsX6_clearText := goodIn_r _ [10, 11, 31, 32, 33, 34, 35, 36, 37, 38, 39, 40, 41, 42, 43, 44, 45] (by decide +kernel) (by decide +kernel)
set_option maxRecDepth 20000 in
theorem gL_types_X6_clearText : GoodIn wsL_types (wsV RL 45 RX6 yX6_clearText wsX6_clearText) := goodIn_app (goodIn_of _ (by decide +kernel)) ggL_types_X6_clearText
set_option maxRecDepth 20000 in
theorem ggL_types_L_signs : GoodIn wsL_types wsL_signs := goodIn_r _ [14, 15, 16, 17, 9, 18, 19, 11, 20, 21, 22, 23, 24, 25, 26, 27, 31, 32, 33, 34, 35, 36, 37, 38, 39, 40, 41, 42, 43, 44, 45] (by decide +kernel) (by decide +kernel)
set_option maxRecDepth 20000 in
theorem gL_types_L_signs : GoodIn wsL_types (va_wsS RL 49 yL_signs wsL_signs) := goodIn_app (goodIn_of _ (by decide +kernel)) ggL_types_L_signs
set_option maxRecDepth 20000 in
theorem ggL_types_X6_type : GoodIn wsL_types wsX6_type := goodIn_r _ [18, 19, 11, 20, 21, 22, 23, 24, 25, 26, 27, 31, 32, 33, 34, 35, 36, 37, 38, 39, 40, 41, 42, 43, 44, 45] (by decide +kernel) (by decide +kernel)
set_option maxRecDepth 20000 in
theorem gL_types_X6_type : GoodIn wsL_types (wsV RL 42 RX6 yX6_type wsX6_type) := goodIn_app (goodIn_of _ (by decide +kernel)) ggL_types_X6_type
set_option maxRecDepth 20000 in
theorem ggL_types_L_digits : GoodIn wsL_types wsL_digits := goodIn_r _ [30, 15, 16, 17, 9, 18, 19, 11, 20, 21, 22, 23, 24, 25, 26, 27, 31, 32, 33, 34, 35, 36, 37, 38, 39, 40, 41, 42, 43, 44, 45] (by decide +kernel) (by decide +kernel)
set_option maxRecDepth 20000 in
theorem gL_types_L_digits : GoodIn wsL_types (va_wsS RL 53 yL_digits wsL_digits) := goodIn_app (goodIn_of _ (by decide +kernel)) ggL_types_L_digits
theorem dL_types_0 : decode cL_types 0 = .ok (.iload_n 1, 1) := by decide +kernel
theorem dL_types_1 : decode cL_types 1 = .ok (.iconst 4, 1) := by decide +kernel
theorem dL_types_2 : decode cL_types 2 = .ok (.invokestatic 33, 3) := by decide +kernel
theorem dL_types_5 : decode cL_types 5 = .ok (.istore_n 2, 1) := by decide +kernel
theorem dL_types_6 : decode cL_types 6 = .ok (.aload_n 0, 1) := by decide +kernel
theorem dL_types_7 : decode cL_types 7 = .ok (.invokevirtual 45, 3) := by decide +kernel
theorem dL_types_10 : decode cL_types 10 = .ok (.ifCond .lt 7, 3) := by decide +kernel
theorem dL_types_13 : decode cL_types 13 = .ok (.iconst 1, 1) := by decide +kernel
theorem dL_types_14 : decode cL_types 14 = .ok (.goto 4, 3) := by decide +kernel
theorem dL_types_17 : decode cL_types 17 = .ok (.iconst 0, 1) := by decide +kernel
theorem dL_types_18 : decode cL_types 18 = .ok (.istore_n 3, 1) := by decide +kernel
theorem dL_types_19 : decode cL_types 19 = .ok (.iconst 0, 1) := by decide +kernel
theorem dL_types_20 : decode cL_types 20 = .ok (.istore 4, 2) := by decide +kernel
theorem dL_types_22 : decode cL_types 22 = .ok (.iload 4, 2) := by decide +kernel
theorem dL_types_24 : decode cL_types 24 = .ok (.iload_n 2, 1) := by decide +kernel
theorem dL_types_25 : decode cL_types 25 = .ok (.if_icmp .ge 423, 3) := by decide +kernel
theorem dL_types_28 : decode cL_types 28 = .ok (.iload_n 1, 1) := by decide +kernel
theorem dL_types_29 : decode cL_types 29 = .ok (.iconst 2, 1) := by decide +kernel
theorem dL_types_30 : decode cL_types 30 = .ok (.bipush 6, 2) := by decide +kernel
theorem dL_types_32 : decode cL_types 32 = .ok (.iload 4, 2) := by decide +kernel
theorem dL_types_34 : decode cL_types 34 = .ok (.imul, 1) := by decide +kernel
theorem dL_types_35 : decode cL_types 35 = .ok (.iadd, 1) := by decide +kernel
theorem dL_types_36 : decode cL_types 36 = .ok (.ishr, 1) := by decide +kernel
theorem dL_types_37 : decode cL_types 37 = .ok (.istore 5, 2) := by decide +kernel
theorem dL_types_39 : decode cL_types 39 = .ok (.iload 5, 2) := by decide +kernel
theorem dL_types_41 : decode cL_types 41 = .ok (.bipush 8, 2) := by decide +kernel
theorem dL_types_43 : decode cL_types 43 = .ok (.invokestatic 33, 3) := by decide +kernel
theorem dL_types_46 : decode cL_types 46 = .ok (.istore 6, 2) := by decide +kernel
theorem dL_types_48 : decode cL_types 48 = .ok (.iload 6, 2) := by decide +kernel
theorem dL_types_50 : decode cL_types 50 = .ok (.iconst 2, 1) := by decide +kernel
theorem dL_types_51 : decode cL_types 51 = .ok (.if_icmp .lt 10, 3) := by decide +kernel
theorem dL_types_54 : decode cL_types 54 = .ok (.iload 6, 2) := by decide +kernel
theorem dL_types_56 : decode cL_types 56 = .ok (.bipush 6, 2) := by decide +kernel
theorem dL_types_58 : decode cL_types 58 = .ok (.if_icmp .ne 7, 3) := by decide +kernel
theorem dL_types_61 : decode cL_types 61 = .ok (.iconst 4, 1) := by decide +kernel
theorem dL_types_62 : decode cL_types 62 = .ok (.goto 24, 3) := by decide +kernel
theorem dL_types_65 : decode cL_types 65 = .ok (.iload 6, 2) := by decide +kernel
theorem dL_types_67 : decode cL_types 67 = .ok (.iconst 5, 1) := by decide +kernel
theorem dL_types_68 : decode cL_types 68 = .ok (.if_icmp .ne 7, 3) := by decide +kernel
theorem dL_types_71 : decode cL_types 71 = .ok (.iconst 3, 1) := by decide +kernel
theorem dL_types_72 : decode cL_types 72 = .ok (.goto 14, 3) := by decide +kernel
theorem dL_types_75 : decode cL_types 75 = .ok (.iload 6, 2) := by decide +kernel
theorem dL_types_77 : decode cL_types 77 = .ok (.iconst 4, 1) := by decide +kernel
theorem dL_types_78 : decode cL_types 78 = .ok (.if_icmp .ne 7, 3) := by decide +kernel
theorem dL_types_81 : decode cL_types 81 = .ok (.iconst 2, 1) := by decide +kernel
theorem dL_types_82 : decode cL_types 82 = .ok (.goto 4, 3) := by decide +kernel
theorem dL_types_85 : decode cL_types 85 = .ok (.iconst 1, 1) := by decide +kernel
theorem dL_types_86 : decode cL_types 86 = .ok (.istore 7, 2) := by decide +kernel
theorem dL_types_88 : decode cL_types 88 = .ok (.iload_n 3, 1) := by decide +kernel
theorem dL_types_89 : decode cL_types 89 = .ok (.ifCond .eq 176, 3) := by decide +kernel
theorem dL_types_92 : decode cL_types 92 = .ok (.iload 6, 2) := by decide +kernel
theorem dL_types_94 : decode cL_types 94 = .ok (.iconst 2, 1) := by decide +kernel
theorem dL_types_95 : decode cL_types 95 = .ok (.if_icmp .ge 21, 3) := by decide +kernel
theorem dL_types_98 : decode cL_types 98 = .ok (.aload_n 0, 1) := by decide +kernel
theorem dL_types_99 : decode cL_types 99 = .ok (.bipush 108, 2) := by decide +kernel
theorem dL_types_101 : decode cL_types 101 = .ok (.bipush 101, 2) := by decide +kernel
theorem dL_types_103 : decode cL_types 103 = .ok (.bipush 110, 2) := by decide +kernel
theorem dL_types_105 : decode cL_types 105 = .ok (.bipush 100, 2) := by decide +kernel
theorem dL_types_107 : decode cL_types 107 = .ok (.invokestatic 49, 3) := by decide +kernel
theorem dL_types_110 : decode cL_types 110 = .ok (.ifCond .eq 155, 3) := by decide +kernel
theorem dL_types_113 : decode cL_types 113 = .ok (.goto 148, 3) := by decide +kernel
theorem dL_types_116 : decode cL_types 116 = .ok (.iload 6, 2) := by decide +kernel
theorem dL_types_118 : decode cL_types 118 = .ok (.iconst 2, 1) := by decide +kernel
theorem dL_types_119 : decode cL_types 119 = .ok (.if_icmp .ne 21, 3) := by decide +kernel
theorem dL_types_122 : decode cL_types 122 = .ok (.aload_n 0, 1) := by decide +kernel
theorem dL_types_123 : decode cL_types 123 = .ok (.bipush 98, 2) := by decide +kernel
theorem dL_types_125 : decode cL_types 125 = .ok (.bipush 97, 2) := by decide +kernel
theorem dL_types_127 : decode cL_types 127 = .ok (.bipush 99, 2) := by decide +kernel
theorem dL_types_129 : decode cL_types 129 = .ok (.bipush 107, 2) := by decide +kernel
theorem dL_types_131 : decode cL_types 131 = .ok (.invokestatic 49, 3) := by decide +kernel
theorem dL_types_134 : decode cL_types 134 = .ok (.ifCond .eq 131, 3) := by decide +kernel
theorem dL_types_137 : decode cL_types 137 = .ok (.goto 124, 3) := by decide +kernel
theorem dL_types_140 : decode cL_types 140 = .ok (.iload 6, 2) := by decide +kernel
theorem dL_types_142 : decode cL_types 142 = .ok (.iconst 3, 1) := by decide +kernel
theorem dL_types_143 : decode cL_types 143 = .ok (.if_icmp .ne 21, 3) := by decide +kernel
theorem dL_types_146 : decode cL_types 146 = .ok (.aload_n 0, 1) := by decide +kernel
theorem dL_types_147 : decode cL_types 147 = .ok (.bipush 107, 2) := by decide +kernel
theorem dL_types_149 : decode cL_types 149 = .ok (.bipush 101, 2) := by decide +kernel
theorem dL_types_151 : decode cL_types 151 = .ok (.bipush 101, 2) := by decide +kernel
theorem dL_types_153 : decode cL_types 153 = .ok (.bipush 112, 2) := by decide +kernel
theorem dL_types_155 : decode cL_types 155 = .ok (.invokestatic 49, 3) := by decide +kernel
theorem dL_types_158 : decode cL_types 158 = .ok (.ifCond .eq 107, 3) := by decide +kernel
theorem dL_types_161 : decode cL_types 161 = .ok (.goto 100, 3) := by decide +kernel
theorem dL_types_164 : decode cL_types 164 = .ok (.iload 6, 2) := by decide +kernel
theorem dL_types_166 : decode cL_types 166 = .ok (.iconst 4, 1) := by decide +kernel
theorem dL_types_167 : decode cL_types 167 = .ok (.if_icmp .ne 21, 3) := by decide +kernel
theorem dL_types_170 : decode cL_types 170 = .ok (.aload_n 0, 1) := by decide +kernel
theorem dL_types_171 : decode cL_types 171 = .ok (.bipush 115, 2) := by decide +kernel
theorem dL_types_173 : decode cL_types 173 = .ok (.bipush 101, 2) := by decide +kernel
theorem dL_types_175 : decode cL_types 175 = .ok (.bipush 108, 2) := by decide +kernel
theorem dL_types_177 : decode cL_types 177 = .ok (.bipush 108, 2) := by decide +kernel
theorem dL_types_179 : decode cL_types 179 = .ok (.invokestatic 49, 3) := by decide +kernel
theorem dL_types_182 : decode cL_types 182 = .ok (.ifCond .eq 83, 3) := by decide +kernel
theorem dL_types_185 : decode cL_types 185 = .ok (.goto 76, 3) := by decide +kernel
theorem dL_types_188 : decode cL_types 188 = .ok (.iload 6, 2) := by decide +kernel
theorem dL_types_190 : decode cL_types 190 = .ok (.iconst 5, 1) := by decide +kernel
theorem dL_types_191 : decode cL_types 191 = .ok (.if_icmp .ne 30, 3) := by decide +kernel
theorem dL_types_194 : decode cL_types 194 = .ok (.aload_n 0, 1) := by decide +kernel
theorem dL_types_195 : decode cL_types 195 = .ok (.bipush 103, 2) := by decide +kernel
theorem dL_types_197 : decode cL_types 197 = .ok (.bipush 114, 2) := by decide +kernel
theorem dL_types_199 : decode cL_types 199 = .ok (.bipush 97, 2) := by decide +kernel
theorem dL_types_201 : decode cL_types 201 = .ok (.bipush 100, 2) := by decide +kernel
theorem dL_types_203 : decode cL_types 203 = .ok (.invokestatic 49, 3) := by decide +kernel
theorem dL_types_206 : decode cL_types 206 = .ok (.ifCond .eq 59, 3) := by decide +kernel
theorem dL_types_209 : decode cL_types 209 = .ok (.aload_n 0, 1) := by decide +kernel
theorem dL_types_210 : decode cL_types 210 = .ok (.bipush 101, 2) := by decide +kernel
theorem dL_types_212 : decode cL_types 212 = .ok (.invokevirtual 42, 3) := by decide +kernel
theorem dL_types_215 : decode cL_types 215 = .ok (.ifCond .le 50, 3) := by decide +kernel
theorem dL_types_218 : decode cL_types 218 = .ok (.goto 43, 3) := by decide +kernel
theorem dL_types_221 : decode cL_types 221 = .ok (.iload 6, 2) := by decide +kernel
theorem dL_types_223 : decode cL_types 223 = .ok (.bipush 6, 2) := by decide +kernel
theorem dL_types_225 : decode cL_types 225 = .ok (.if_icmp .ne 21, 3) := by decide +kernel
theorem dL_types_228 : decode cL_types 228 = .ok (.aload_n 0, 1) := by decide +kernel
theorem dL_types_229 : decode cL_types 229 = .ok (.bipush 114, 2) := by decide +kernel
theorem dL_types_231 : decode cL_types 231 = .ok (.bipush 97, 2) := by decide +kernel
theorem dL_types_233 : decode cL_types 233 = .ok (.bipush 116, 2) := by decide +kernel
theorem dL_types_235 : decode cL_types 235 = .ok (.bipush 101, 2) := by decide +kernel
theorem dL_types_237 : decode cL_types 237 = .ok (.invokestatic 49, 3) := by decide +kernel
theorem dL_types_240 : decode cL_types 240 = .ok (.ifCond .eq 25, 3) := by decide +kernel
theorem dL_types_243 : decode cL_types 243 = .ok (.goto 18, 3) := by decide +kernel
theorem dL_types_246 : decode cL_types 246 = .ok (.aload_n 0, 1) := by decide +kernel
theorem dL_types_247 : decode cL_types 247 = .ok (.bipush 119, 2) := by decide +kernel
theorem dL_types_249 : decode cL_types 249 = .ok (.bipush 97, 2) := by decide +kernel
theorem dL_types_251 : decode cL_types 251 = .ok (.bipush 105, 2) := by decide +kernel
theorem dL_types_253 : decode cL_types 253 = .ok (.bipush 116, 2) := by decide +kernel
theorem dL_types_255 : decode cL_types 255 = .ok (.invokestatic 49, 3) := by decide +kernel
theorem dL_types_258 : decode cL_types 258 = .ok (.ifCond .eq 7, 3) := by decide +kernel
theorem dL_types_261 : decode cL_types 261 = .ok (.iconst 1, 1) := by decide +kernel
theorem dL_types_262 : decode cL_types 262 = .ok (.goto 4, 3) := by decide +kernel
theorem dL_types_265 : decode cL_types 265 = .ok (.iconst 0, 1) := by decide +kernel
theorem dL_types_266 : decode cL_types 266 = .ok (.istore_n 3, 1) := by decide +kernel
theorem dL_types_267 : decode cL_types 267 = .ok (.iconst 0, 1) := by decide +kernel
theorem dL_types_268 : decode cL_types 268 = .ok (.istore 8, 2) := by decide +kernel
theorem dL_types_270 : decode cL_types 270 = .ok (.iload 8, 2) := by decide +kernel
theorem dL_types_272 : decode cL_types 272 = .ok (.iload 7, 2) := by decide +kernel
theorem dL_types_274 : decode cL_types 274 = .ok (.if_icmp .ge 112, 3) := by decide +kernel
theorem dL_types_277 : decode cL_types 277 = .ok (.iload 6, 2) := by decide +kernel
theorem dL_types_279 : decode cL_types 279 = .ok (.bipush 7, 2) := by decide +kernel
theorem dL_types_281 : decode cL_types 281 = .ok (.if_icmp .ne 8, 3) := by decide +kernel
theorem dL_types_284 : decode cL_types 284 = .ok (.bipush 20, 2) := by decide +kernel
theorem dL_types_286 : decode cL_types 286 = .ok (.goto 52, 3) := by decide +kernel
theorem dL_types_289 : decode cL_types 289 = .ok (.iload 6, 2) := by decide +kernel
theorem dL_types_291 : decode cL_types 291 = .ok (.iconst 4, 1) := by decide +kernel
theorem dL_types_292 : decode cL_types 292 = .ok (.if_icmp .ne 9, 3) := by decide +kernel
theorem dL_types_295 : decode cL_types 295 = .ok (.iload 8, 2) := by decide +kernel
theorem dL_types_297 : decode cL_types 297 = .ok (.iconst 1, 1) := by decide +kernel
theorem dL_types_298 : decode cL_types 298 = .ok (.if_icmp .eq 16, 3) := by decide +kernel
theorem dL_types_301 : decode cL_types 301 = .ok (.iload 6, 2) := by decide +kernel
theorem dL_types_303 : decode cL_types 303 = .ok (.bipush 6, 2) := by decide +kernel
theorem dL_types_305 : decode cL_types 305 = .ok (.if_icmp .ne 15, 3) := by decide +kernel
theorem dL_types_308 : decode cL_types 308 = .ok (.iload 8, 2) := by decide +kernel
theorem dL_types_310 : decode cL_types 310 = .ok (.iconst 3, 1) := by decide +kernel
theorem dL_types_311 : decode cL_types 311 = .ok (.if_icmp .ne 9, 3) := by decide +kernel
theorem dL_types_314 : decode cL_types 314 = .ok (.sipush 3000, 3) := by decide +kernel
theorem dL_types_317 : decode cL_types 317 = .ok (.goto 21, 3) := by decide +kernel
theorem dL_types_320 : decode cL_types 320 = .ok (.iload 6, 2) := by decide +kernel
theorem dL_types_322 : decode cL_types 322 = .ok (.iconst 2, 1) := by decide +kernel
theorem dL_types_323 : decode cL_types 323 = .ok (.if_icmp .ge 13, 3) := by decide +kernel
theorem dL_types_326 : decode cL_types 326 = .ok (.iload 8, 2) := by decide +kernel
theorem dL_types_328 : decode cL_types 328 = .ok (.iconst 2, 1) := by decide +kernel
theorem dL_types_329 : decode cL_types 329 = .ok (.if_icmp .ge 7, 3) := by decide +kernel
theorem dL_types_332 : decode cL_types 332 = .ok (.iconst 3, 1) := by decide +kernel
theorem dL_types_333 : decode cL_types 333 = .ok (.goto 5, 3) := by decide +kernel
theorem dL_types_336 : decode cL_types 336 = .ok (.bipush 6, 2) := by decide +kernel
theorem dL_types_338 : decode cL_types 338 = .ok (.istore 9, 2) := by decide +kernel
theorem dL_types_340 : decode cL_types 340 = .ok (.iload_n 3, 1) := by decide +kernel
theorem dL_types_341 : decode cL_types 341 = .ok (.ifCond .eq 37, 3) := by decide +kernel
theorem dL_types_344 : decode cL_types 344 = .ok (.aload_n 0, 1) := by decide +kernel
theorem dL_types_345 : decode cL_types 345 = .ok (.bipush 32, 2) := by decide +kernel
theorem dL_types_347 : decode cL_types 347 = .ok (.invokevirtual 42, 3) := by decide +kernel
theorem dL_types_350 : decode cL_types 350 = .ok (.ifCond .le 28, 3) := by decide +kernel
theorem dL_types_353 : decode cL_types 353 = .ok (.aload_n 0, 1) := by decide +kernel
theorem dL_types_354 : decode cL_types 354 = .ok (.iload 5, 2) := by decide +kernel
theorem dL_types_356 : decode cL_types 356 = .ok (.iconst 3, 1) := by decide +kernel
theorem dL_types_357 : decode cL_types 357 = .ok (.iconst 2, 1) := by decide +kernel
theorem dL_types_358 : decode cL_types 358 = .ok (.iload 8, 2) := by decide +kernel
theorem dL_types_360 : decode cL_types 360 = .ok (.imul, 1) := by decide +kernel
theorem dL_types_361 : decode cL_types 361 = .ok (.iadd, 1) := by decide +kernel
theorem dL_types_362 : decode cL_types 362 = .ok (.ishr, 1) := by decide +kernel
theorem dL_types_363 : decode cL_types 363 = .ok (.iload 9, 2) := by decide +kernel
theorem dL_types_365 : decode cL_types 365 = .ok (.invokestatic 33, 3) := by decide +kernel
theorem dL_types_368 : decode cL_types 368 = .ok (.invokestatic 53, 3) := by decide +kernel
theorem dL_types_371 : decode cL_types 371 = .ok (.ifCond .eq 7, 3) := by decide +kernel
theorem dL_types_374 : decode cL_types 374 = .ok (.iconst 1, 1) := by decide +kernel
theorem dL_types_375 : decode cL_types 375 = .ok (.goto 4, 3) := by decide +kernel
theorem dL_types_378 : decode cL_types 378 = .ok (.iconst 0, 1) := by decide +kernel
theorem dL_types_379 : decode cL_types 379 = .ok (.istore_n 3, 1) := by decide +kernel
theorem dL_types_380 : decode cL_types 380 = .ok (.iinc 8 1, 3) := by decide +kernel
theorem dL_types_383 : decode cL_types 383 = .ok (.goto (-113), 3) := by decide +kernel
theorem dL_types_386 : decode cL_types 386 = .ok (.iload_n 3, 1) := by decide +kernel
theorem dL_types_387 : decode cL_types 387 = .ok (.ifCond .eq 53, 3) := by decide +kernel
theorem dL_types_390 : decode cL_types 390 = .ok (.iload_n 1, 1) := by decide +kernel
theorem dL_types_391 : decode cL_types 391 = .ok (.bipush 25, 2) := by decide +kernel
theorem dL_types_393 : decode cL_types 393 = .ok (.ishr, 1) := by decide +kernel
theorem dL_types_394 : decode cL_types 394 = .ok (.bipush 6, 2) := by decide +kernel
theorem dL_types_396 : decode cL_types 396 = .ok (.invokestatic 33, 3) := by decide +kernel
theorem dL_types_399 : decode cL_types 399 = .ok (.ifCond .ne 11, 3) := by decide +kernel
theorem dL_types_402 : decode cL_types 402 = .ok (.iload 4, 2) := by decide +kernel
theorem dL_types_404 : decode cL_types 404 = .ok (.iload_n 2, 1) := by decide +kernel
theorem dL_types_405 : decode cL_types 405 = .ok (.iconst 1, 1) := by decide +kernel
theorem dL_types_406 : decode cL_types 406 = .ok (.isub, 1) := by decide +kernel
theorem dL_types_407 : decode cL_types 407 = .ok (.if_icmp .eq 29, 3) := by decide +kernel
theorem dL_types_410 : decode cL_types 410 = .ok (.aload_n 0, 1) := by decide +kernel
theorem dL_types_411 : decode cL_types 411 = .ok (.iload_n 1, 1) := by decide +kernel
theorem dL_types_412 : decode cL_types 412 = .ok (.bipush 22, 2) := by decide +kernel
theorem dL_types_414 : decode cL_types 414 = .ok (.ishr, 1) := by decide +kernel
theorem dL_types_415 : decode cL_types 415 = .ok (.bipush 9, 2) := by decide +kernel
theorem dL_types_417 : decode cL_types 417 = .ok (.invokestatic 33, 3) := by decide +kernel
theorem dL_types_420 : decode cL_types 420 = .ok (.ifCond .ne 8, 3) := by decide +kernel
theorem dL_types_423 : decode cL_types 423 = .ok (.bipush 32, 2) := by decide +kernel
theorem dL_types_425 : decode cL_types 425 = .ok (.goto 5, 3) := by decide +kernel
theorem dL_types_428 : decode cL_types 428 = .ok (.bipush 59, 2) := by decide +kernel
theorem dL_types_430 : decode cL_types 430 = .ok (.invokevirtual 42, 3) := by decide +kernel
theorem dL_types_433 : decode cL_types 433 = .ok (.ifCond .le 7, 3) := by decide +kernel
theorem dL_types_436 : decode cL_types 436 = .ok (.iconst 1, 1) := by decide +kernel
theorem dL_types_437 : decode cL_types 437 = .ok (.goto 4, 3) := by decide +kernel
theorem dL_types_440 : decode cL_types 440 = .ok (.iconst 0, 1) := by decide +kernel
theorem dL_types_441 : decode cL_types 441 = .ok (.istore_n 3, 1) := by decide +kernel
theorem dL_types_442 : decode cL_types 442 = .ok (.iinc 4 1, 3) := by decide +kernel
theorem dL_types_445 : decode cL_types 445 = .ok (.goto (-423), 3) := by decide +kernel
theorem dL_types_448 : decode cL_types 448 = .ok (.iload_n 3, 1) := by decide +kernel
theorem dL_types_449 : decode cL_types 449 = .ok (.ireturn, 1) := by decide +kernel
set_option maxRecDepth 20000 in
theorem ggL_reads_X6_fault : GoodIn wsL_reads wsX6_fault := goodIn_r _ [8, 9, 10, 11, 12, 13, 14, 15, 16, 17, 18, 19, 20, 21, 22, 23, 24, 25, 26, 27, 28, 29, 30, 31, 32, 33, 34, 35, 36, 37, 38, 39, 40, 41, 42, 43, 44, 45, 46, 47, 48, 49, 50, 51, 52, 53, 54, 55, 56, 57, 58, 59, 60, 61, 62, 63, 64, 65, 66, 67, 68, 69, 70, 71, 72, 73, 74, 75, 76, 77, 78, 79, 80, 81, 82, 83, 84, 85, 86, 87, 88, 89, 90, 91, 92, 93, 94, 95, 96, 97, 98, 99, 100, 101, 102, 103, 104, 105, 106, 107, 108, 109, 110, 111, 112, 113, 114, 115, 116, 117, 118, 119, 120, 121, 122, 123, 124, 125, 126, 127, 128, 129, 130, 131, 132, 133, 134, 135, 136, 137, 138, 139, 140, 141, 142, 143, 144, 145, 146, 147, 148, 149, 150, 151, 152, 153, 154, 155, 156, 157, 158, 159, 160, 161, 162, 163, 164, 165, 166, 167, 168, 169, 170, 171, 172, 173, 174, 175, 176, 177, 178, 179, 180, 181, 182, 183, 184, 185, 186, 187, 188, 189, 190, 191, 192, 193, 194, 195, 196, 197, 198, 199, 200, 201, 202, 203, 204, 205, 206, 207, 208, 209, 210, 211, 212, 213, 214, 215, 216, 217, 218, 219, 220, 221, 222, 223, 224, 225, 226, 227, 228, 229, 230, 231, 232, 233, 234, 235, 236, 237, 238, 239, 240, 241, 242, 243, 244, 245, 246, 247, 248, 249, 250, 251, 252, 253, 7, 254, 255, 256, 257, 258, 259, 260, 261, 262, 263, 264, 265, 266, 267, 268, 269, 270, 271, 272, 273, 274, 275, 276, 277, 278, 279, 280, 281, 282, 283, 284, 285, 286, 287, 288, 289, 352, 353, 354, 355, 356, 357, 358, 359, 360, 361, 362, 363, 364, 365, 366, 367, 368, 369, 370, 371, 372, 373, 374, 375, 376, 377, 378, 379, 380, 381, 382, 383, 384, 385, 386, 387, 388, 389, 390, 391, 392, 393, 394, 395] (by decide +kernel) (by decide +kernel)
set_option maxRecDepth 20000 in
theorem gL_reads_X6_fault : GoodIn wsL_reads (wsV RL 57 RX6 yX6_fault wsX6_fault) := goodIn_app (goodIn_of _ (by decide +kernel)) ggL_reads_X6_fault
set_option maxRecDepth 20000 in
theorem ggL_reads_X6_count : GoodIn wsL_reads wsX6_count := goodIn_r _ [293, 294, 12, 295, 11, 296, 297, 298, 16, 299, 26, 19, 20, 18, 27, 244, 30, 28, 29, 181, 300, 301, 302, 44, 303, 46, 304, 246, 247, 248, 55, 305, 306, 307, 308, 309, 214, 215, 216, 53, 310, 311, 312, 313, 314, 315, 316, 317, 217, 218, 219, 220, 318, 319, 320, 34, 321, 40, 322, 323, 324, 325, 21, 326, 327, 328, 329, 352, 353, 354, 355, 356, 357, 358, 396, 397, 398, 388, 389, 390, 391, 392, 393, 394, 395, 359, 360, 361, 362, 363, 364, 365, 366, 367, 372, 373, 374, 375, 376, 377, 378, 379, 380, 381, 382, 383, 384, 385, 386, 387, 368, 369, 370, 371] (by decide +kernel) (by decide +kernel)
set_option maxRecDepth 20000 in
theorem gL_reads_X6_count : GoodIn wsL_reads (wsV RL 13 RX6 yX6_count wsX6_count) := goodIn_app (goodIn_of _ (by decide +kernel)) ggL_reads_X6_count
set_option maxRecDepth 20000 in
theorem ggL_reads_X6_play : GoodIn wsL_reads wsX6_play := goodIn_r _ [333, 10, 11, 12, 334, 294, 13, 14, 15, 16, 17, 18, 19, 20, 21, 22, 23, 24, 25, 26, 27, 28, 29, 30, 31, 32, 33, 34, 35, 36, 37, 38, 39, 40, 41, 42, 43, 44, 45, 46, 47, 48, 49, 50, 51, 52, 53, 54, 55, 56, 57, 58, 59, 60, 61, 62, 63, 64, 65, 66, 67, 68, 69, 70, 71, 72, 73, 74, 75, 76, 77, 78, 79, 80, 81, 82, 83, 84, 85, 86, 87, 88, 89, 90, 91, 92, 93, 94, 95, 96, 97, 98, 99, 100, 101, 102, 103, 104, 105, 106, 107, 108, 109, 110, 111, 112, 113, 114, 115, 116, 117, 118, 119, 120, 121, 122, 123, 124, 125, 126, 127, 128, 129, 130, 131, 132, 133, 134, 135, 136, 137, 138, 139, 140, 141, 142, 143, 144, 145, 146, 147, 148, 149, 150, 151, 152, 153, 154, 155, 156, 157, 158, 159, 160, 161, 162, 163, 164, 165, 166, 167, 168, 169, 170, 171, 172, 173, 174, 175, 176, 177, 178, 179, 180, 181, 182, 183, 184, 185, 186, 187, 188, 189, 190, 191, 192, 193, 194, 195, 196, 197, 198, 199, 200, 201, 202, 203, 204, 205, 206, 207, 208, 209, 210, 211, 212, 213, 214, 215, 216, 217, 218, 219, 220, 221, 222, 223, 224, 225, 226, 227, 228, 229, 230, 231, 232, 233, 234, 235, 236, 237, 238, 239, 240, 241, 242, 243, 244, 245, 246, 247, 248, 249, 250, 251, 252, 253, 7, 254, 255, 256, 257, 258, 259, 260, 261, 262, 263, 264, 265, 266, 267, 268, 269, 270, 271, 272, 273, 274, 275, 276, 277, 278, 279, 280, 281, 282, 283, 284, 285, 335, 336, 337, 338, 339, 340, 341, 342, 343, 344, 345, 346, 347, 348, 349, 350, 351, 352, 353, 354, 355, 356, 357, 358, 359, 360, 361, 362, 363, 364, 365, 366, 367, 368, 369, 370, 371, 372, 373, 374, 375, 376, 377, 378, 379, 380, 381, 382, 383, 384, 385, 386, 387, 388, 389, 390, 391, 392, 393, 394, 395, 396, 397, 398] (by decide +kernel) (by decide +kernel)
set_option maxRecDepth 20000 in
theorem gL_reads_X6_play : GoodIn wsL_reads (wsV RL 60 RX6 yX6_play wsX6_play) := goodIn_app (goodIn_of _ (by decide +kernel)) ggL_reads_X6_play
theorem dL_reads_0 : decode cL_reads 0 = .ok (.aload_n 0, 1) := by decide +kernel
theorem dL_reads_1 : decode cL_reads 1 = .ok (.iconst 0, 1) := by decide +kernel
theorem dL_reads_2 : decode cL_reads 2 = .ok (.invokevirtual 57, 3) := by decide +kernel
theorem dL_reads_5 : decode cL_reads 5 = .ok (.istore_n 1, 1) := by decide +kernel
theorem dL_reads_6 : decode cL_reads 6 = .ok (.aload_n 0, 1) := by decide +kernel
theorem dL_reads_7 : decode cL_reads 7 = .ok (.iconst 1, 1) := by decide +kernel
theorem dL_reads_8 : decode cL_reads 8 = .ok (.invokevirtual 57, 3) := by decide +kernel
theorem dL_reads_11 : decode cL_reads 11 = .ok (.istore_n 2, 1) := by decide +kernel
theorem dL_reads_12 : decode cL_reads 12 = .ok (.aload_n 0, 1) := by decide +kernel
theorem dL_reads_13 : decode cL_reads 13 = .ok (.iconst 2, 1) := by decide +kernel
theorem dL_reads_14 : decode cL_reads 14 = .ok (.invokevirtual 57, 3) := by decide +kernel
theorem dL_reads_17 : decode cL_reads 17 = .ok (.istore_n 3, 1) := by decide +kernel
theorem dL_reads_18 : decode cL_reads 18 = .ok (.aload_n 0, 1) := by decide +kernel
theorem dL_reads_19 : decode cL_reads 19 = .ok (.bipush 12, 2) := by decide +kernel
theorem dL_reads_21 : decode cL_reads 21 = .ok (.invokevirtual 13, 3) := by decide +kernel
theorem dL_reads_24 : decode cL_reads 24 = .ok (.istore 4, 2) := by decide +kernel
theorem dL_reads_26 : decode cL_reads 26 = .ok (.aload_n 0, 1) := by decide +kernel
theorem dL_reads_27 : decode cL_reads 27 = .ok (.invokevirtual 60, 3) := by decide +kernel
theorem dL_reads_30 : decode cL_reads 30 = .ok (.istore 5, 2) := by decide +kernel
theorem dL_reads_32 : decode cL_reads 32 = .ok (.iload_n 1, 1) := by decide +kernel
theorem dL_reads_33 : decode cL_reads 33 = .ok (.ldc 63, 2) := by decide +kernel
theorem dL_reads_35 : decode cL_reads 35 = .ok (.if_icmp .ne 34, 3) := by decide +kernel
theorem dL_reads_38 : decode cL_reads 38 = .ok (.iload_n 2, 1) := by decide +kernel
theorem dL_reads_39 : decode cL_reads 39 = .ok (.ldc 63, 2) := by decide +kernel
theorem dL_reads_41 : decode cL_reads 41 = .ok (.if_icmp .ne 28, 3) := by decide +kernel
theorem dL_reads_44 : decode cL_reads 44 = .ok (.iload_n 3, 1) := by decide +kernel
theorem dL_reads_45 : decode cL_reads 45 = .ok (.ldc 63, 2) := by decide +kernel
theorem dL_reads_47 : decode cL_reads 47 = .ok (.if_icmp .ne 22, 3) := by decide +kernel
theorem dL_reads_50 : decode cL_reads 50 = .ok (.iload 5, 2) := by decide +kernel
theorem dL_reads_52 : decode cL_reads 52 = .ok (.ifCond .lt 17, 3) := by decide +kernel
theorem dL_reads_55 : decode cL_reads 55 = .ok (.bipush 7, 2) := by decide +kernel
theorem dL_reads_57 : decode cL_reads 57 = .ok (.iload 5, 2) := by decide +kernel
theorem dL_reads_59 : decode cL_reads 59 = .ok (.imul, 1) := by decide +kernel
theorem dL_reads_60 : decode cL_reads 60 = .ok (.iload 4, 2) := by decide +kernel
theorem dL_reads_62 : decode cL_reads 62 = .ok (.if_icmp .gt 7, 3) := by decide +kernel
theorem dL_reads_65 : decode cL_reads 65 = .ok (.iconst 1, 1) := by decide +kernel
theorem dL_reads_66 : decode cL_reads 66 = .ok (.goto 4, 3) := by decide +kernel
theorem dL_reads_69 : decode cL_reads 69 = .ok (.iconst 0, 1) := by decide +kernel
theorem dL_reads_70 : decode cL_reads 70 = .ok (.istore 6, 2) := by decide +kernel
theorem dL_reads_72 : decode cL_reads 72 = .ok (.iload_n 1, 1) := by decide +kernel
theorem dL_reads_73 : decode cL_reads 73 = .ok (.ifCond .lt 48, 3) := by decide +kernel
theorem dL_reads_76 : decode cL_reads 76 = .ok (.iload_n 1, 1) := by decide +kernel
theorem dL_reads_77 : decode cL_reads 77 = .ok (.iload 4, 2) := by decide +kernel
theorem dL_reads_79 : decode cL_reads 79 = .ok (.if_icmp .ge 42, 3) := by decide +kernel
theorem dL_reads_82 : decode cL_reads 82 = .ok (.iload 5, 2) := by decide +kernel
theorem dL_reads_84 : decode cL_reads 84 = .ok (.ldc 64, 2) := by decide +kernel
theorem dL_reads_86 : decode cL_reads 86 = .ok (.if_icmp .ne 35, 3) := by decide +kernel
theorem dL_reads_89 : decode cL_reads 89 = .ok (.iload_n 2, 1) := by decide +kernel
theorem dL_reads_90 : decode cL_reads 90 = .ok (.iconst 1, 1) := by decide +kernel
theorem dL_reads_91 : decode cL_reads 91 = .ok (.if_icmp .ne 9, 3) := by decide +kernel
theorem dL_reads_94 : decode cL_reads 94 = .ok (.iload_n 3, 1) := by decide +kernel
theorem dL_reads_95 : decode cL_reads 95 = .ok (.ldc 63, 2) := by decide +kernel
theorem dL_reads_97 : decode cL_reads 97 = .ok (.if_icmp .eq 20, 3) := by decide +kernel
theorem dL_reads_100 : decode cL_reads 100 = .ok (.iload_n 2, 1) := by decide +kernel
theorem dL_reads_101 : decode cL_reads 101 = .ok (.iconst 2, 1) := by decide +kernel
theorem dL_reads_102 : decode cL_reads 102 = .ok (.if_icmp .ne 19, 3) := by decide +kernel
theorem dL_reads_105 : decode cL_reads 105 = .ok (.iload_n 3, 1) := by decide +kernel
theorem dL_reads_106 : decode cL_reads 106 = .ok (.ldc 65, 2) := by decide +kernel
theorem dL_reads_108 : decode cL_reads 108 = .ok (.if_icmp .gt 13, 3) := by decide +kernel
theorem dL_reads_111 : decode cL_reads 111 = .ok (.iload_n 3, 1) := by decide +kernel
theorem dL_reads_112 : decode cL_reads 112 = .ok (.ldc 63, 2) := by decide +kernel
theorem dL_reads_114 : decode cL_reads 114 = .ok (.if_icmp .le 7, 3) := by decide +kernel
theorem dL_reads_117 : decode cL_reads 117 = .ok (.iconst 1, 1) := by decide +kernel
theorem dL_reads_118 : decode cL_reads 118 = .ok (.goto 4, 3) := by decide +kernel
theorem dL_reads_121 : decode cL_reads 121 = .ok (.iconst 0, 1) := by decide +kernel
theorem dL_reads_122 : decode cL_reads 122 = .ok (.istore 7, 2) := by decide +kernel
theorem dL_reads_124 : decode cL_reads 124 = .ok (.iload 6, 2) := by decide +kernel
theorem dL_reads_126 : decode cL_reads 126 = .ok (.ifCond .ne 8, 3) := by decide +kernel
theorem dL_reads_129 : decode cL_reads 129 = .ok (.iload 7, 2) := by decide +kernel
theorem dL_reads_131 : decode cL_reads 131 = .ok (.ifCond .eq 18, 3) := by decide +kernel
theorem dL_reads_134 : decode cL_reads 134 = .ok (.aload_n 0, 1) := by decide +kernel
theorem dL_reads_135 : decode cL_reads 135 = .ok (.bipush 12, 2) := by decide +kernel
theorem dL_reads_137 : decode cL_reads 137 = .ok (.invokevirtual 13, 3) := by decide +kernel
theorem dL_reads_140 : decode cL_reads 140 = .ok (.iload 4, 2) := by decide +kernel
theorem dL_reads_142 : decode cL_reads 142 = .ok (.if_icmp .ne 7, 3) := by decide +kernel
theorem dL_reads_145 : decode cL_reads 145 = .ok (.iconst 1, 1) := by decide +kernel
theorem dL_reads_146 : decode cL_reads 146 = .ok (.goto 4, 3) := by decide +kernel
theorem dL_reads_149 : decode cL_reads 149 = .ok (.iconst 0, 1) := by decide +kernel
theorem dL_reads_150 : decode cL_reads 150 = .ok (.ireturn, 1) := by decide +kernel
set_option maxRecDepth 20000 in
theorem ggL_acts_L_low : GoodIn wsL_acts wsL_low := goodIn_r _ [7, 8] (by decide +kernel) (by decide +kernel)
set_option maxRecDepth 20000 in
theorem gL_acts_L_low : GoodIn wsL_acts (va_wsS RL 33 yL_low wsL_low) := goodIn_app (goodIn_of _ (by decide +kernel)) ggL_acts_L_low
set_option maxRecDepth 20000 in
theorem ggL_acts_X6_count : GoodIn wsL_acts wsX6_count := goodIn_r _ [13, 14, 15, 16, 17, 18, 19, 20, 21, 22, 23, 24, 25, 26, 27, 28, 29, 30, 31, 32, 33, 34, 35, 36, 37, 38, 39, 40, 41, 42, 43, 44, 45, 46, 47, 48, 49, 50, 51, 52, 53, 54, 55, 56, 57, 58, 59, 60, 61, 62, 63, 64, 65, 66, 67, 68, 69, 70, 71, 72, 73, 74, 75, 76, 77, 78, 79, 516, 517, 518, 519, 520, 521, 522, 523, 524, 525, 526, 527, 528, 529, 530, 531, 532, 533, 534, 535, 536, 537, 538, 539, 540, 541, 542, 543, 544, 545, 546, 547, 548, 549, 550, 551, 552, 553, 554, 555, 556, 557, 558, 559, 560, 561, 562] (by decide +kernel) (by decide +kernel)
set_option maxRecDepth 20000 in
theorem gL_acts_X6_count : GoodIn wsL_acts (wsV RL 13 RX6 yX6_count wsX6_count) := goodIn_app (goodIn_of _ (by decide +kernel)) ggL_acts_X6_count
end
section
set_option maxRecDepth 20000 in
theorem ggL_acts_X6_stoneOf : GoodIn wsL_acts wsX6_stoneOf := goodIn_r _ [83, 17, 84, 85, 86, 87, 36, 88, 38, 89, 90, 91, 21, 92, 24, 93, 32, 94, 95, 96, 97, 98, 99, 40, 41, 42, 43, 100, 101, 102, 103, 26, 104, 105, 106, 68, 107, 70, 108, 109, 110, 111, 49, 50, 51, 52, 516, 517, 518, 519, 520, 521, 522, 534, 535, 536, 537, 538, 539, 540, 541, 542, 543, 544, 545, 546, 547, 548, 549, 550, 551, 552, 559, 560, 561, 562] (by decide +kernel) (by decide +kernel)
set_option maxRecDepth 20000 in
theorem gL_acts_X6_stoneOf : GoodIn wsL_acts (wsV RL 19 RX6 yX6_stoneOf wsX6_stoneOf) := goodIn_app (goodIn_of _ (by decide +kernel)) ggL_acts_X6_stoneOf
set_option maxRecDepth 20000 in
theorem ggL_acts_X6_stone : GoodIn wsL_acts wsX6_stone := goodIn_r _ [115, 116, 17, 117, 118, 119, 21, 120, 26, 24, 25, 75, 121, 122, 123, 124, 23, 27, 30, 31, 29, 125, 126, 127, 68, 128, 108, 129, 109, 110, 70, 130, 131, 132, 36, 133, 38, 98, 134, 135, 136, 137, 138, 52, 139, 43, 140, 141, 142, 143, 144, 145, 146, 147, 148, 149, 150, 151, 152, 153, 154, 155, 156, 32, 157, 158, 159, 160, 161, 162, 12, 163, 164, 165, 166, 167, 168, 169, 170, 171, 14, 172, 173, 174, 175, 176, 177, 178, 179, 180, 181, 182, 183, 184, 516, 517, 518, 519, 520, 521, 522, 534, 535, 536, 537, 538, 539, 540, 541, 542, 559, 560, 561, 562, 543, 544, 545, 546, 547, 548, 549, 550, 551, 552, 553, 554, 555, 556, 557, 558, 523, 524, 525] (by decide +kernel) (by decide +kernel)
set_option maxRecDepth 20000 in
theorem gL_acts_X6_stone : GoodIn wsL_acts (wsV RL 66 RX6 yX6_stone wsX6_stone) := goodIn_app (goodIn_of _ (by decide +kernel)) ggL_acts_X6_stone
set_option maxRecDepth 20000 in
theorem ggL_acts_X6_dealer : GoodIn wsL_acts wsX6_dealer := goodIn_r _ [188, 116, 17, 117, 118, 119, 21, 120, 26, 24, 25, 75, 121, 122, 123, 124, 23, 27, 30, 31, 29, 125, 126, 127, 68, 128, 108, 129, 109, 110, 70, 130, 131, 132, 36, 133, 38, 98, 134, 135, 136, 137, 138, 52, 139, 43, 140, 141, 142, 143, 144, 145, 146, 147, 148, 149, 150, 151, 152, 189, 190, 191, 192, 157, 168, 169, 170, 12, 171, 14, 172, 173, 174, 175, 176, 177, 178, 179, 180, 181, 182, 183, 184, 516, 517, 518, 519, 520, 521, 522, 534, 535, 536, 537, 538, 539, 540, 541, 542, 559, 560, 561, 562, 543, 544, 545, 546, 547, 548, 549, 550, 551, 552, 553, 554, 555, 556, 557, 558, 523, 524, 525] (by decide +kernel) (by decide +kernel)
set_option maxRecDepth 20000 in
theorem gL_acts_X6_dealer : GoodIn wsL_acts (wsV RL 70 RX6 yX6_dealer wsX6_dealer) := goodIn_app (goodIn_of _ (by decide +kernel)) ggL_acts_X6_dealer
set_option maxRecDepth 20000 in
theorem ggL_acts_X6_rateOf : GoodIn wsL_acts wsX6_rateOf := goodIn_r _ [196, 84, 17, 197, 198, 199, 12, 200, 201, 162, 163, 202, 203, 204, 68, 205, 70, 206, 207, 208, 209, 108, 109, 110, 210, 105, 106, 107, 516, 517, 518, 519, 520, 521, 522, 534, 535, 536, 537, 538, 539, 540, 541, 542, 559, 560, 561, 562] (by decide +kernel) (by decide +kernel)
set_option maxRecDepth 20000 in
theorem gL_acts_X6_rateOf : GoodIn wsL_acts (wsV RL 29 RX6 yX6_rateOf wsX6_rateOf) := goodIn_app (goodIn_of _ (by decide +kernel)) ggL_acts_X6_rateOf
set_option maxRecDepth 20000 in
theorem ggL_acts_X6_unrate : GoodIn wsL_acts wsX6_unrate := goodIn_r _ [214, 116, 17, 117, 118, 119, 21, 120, 26, 24, 25, 75, 121, 122, 123, 124, 23, 27, 30, 31, 29, 125, 126, 127, 68, 128, 108, 129, 109, 110, 70, 130, 131, 132, 36, 133, 38, 98, 134, 135, 136, 137, 138, 52, 139, 43, 140, 141, 142, 143, 144, 145, 146, 147, 148, 149, 150, 151, 152, 215, 216, 217, 218, 32, 219, 199, 12, 200, 201, 162, 163, 220, 203, 204, 205, 206, 207, 208, 209, 221, 222, 223, 224, 168, 169, 170, 171, 14, 172, 173, 174, 175, 176, 177, 178, 179, 180, 181, 182, 183, 184, 516, 517, 518, 519, 520, 521, 522, 534, 535, 536, 537, 538, 539, 540, 541, 542, 559, 560, 561, 562, 543, 544, 545, 546, 547, 548, 549, 550, 551, 552, 553, 554, 555, 556, 557, 558, 523, 524, 525] (by decide +kernel) (by decide +kernel)
set_option maxRecDepth 20000 in
theorem gL_acts_X6_unrate : GoodIn wsL_acts (wsV RL 73 RX6 yX6_unrate wsX6_unrate) := goodIn_app (goodIn_of _ (by decide +kernel)) ggL_acts_X6_unrate
set_option maxRecDepth 20000 in
theorem ggL_acts_X6_rate : GoodIn wsL_acts wsX6_rate := goodIn_r _ [228, 116, 17, 117, 118, 119, 21, 120, 26, 24, 25, 75, 121, 122, 123, 124, 23, 27, 30, 31, 29, 125, 126, 127, 68, 128, 108, 129, 109, 110, 70, 130, 131, 132, 36, 133, 38, 98, 134, 135, 136, 137, 138, 52, 139, 43, 140, 141, 142, 143, 144, 145, 146, 147, 148, 149, 150, 151, 152, 229, 230, 231, 232, 32, 157, 199, 12, 200, 201, 162, 163, 220, 203, 204, 205, 206, 207, 208, 209, 221, 222, 223, 224, 233, 234, 235, 236, 168, 169, 170, 171, 14, 172, 173, 174, 175, 176, 177, 178, 179, 180, 181, 182, 183, 184, 516, 517, 518, 519, 520, 521, 522, 534, 535, 536, 537, 538, 539, 540, 541, 542, 559, 560, 561, 562, 543, 544, 545, 546, 547, 548, 549, 550, 551, 552, 553, 554, 555, 556, 557, 558, 523, 524, 525] (by decide +kernel) (by decide +kernel)
set_option maxRecDepth 20000 in
theorem gL_acts_X6_rate : GoodIn wsL_acts (wsV RL 77 RX6 yX6_rate wsX6_rate) := goodIn_app (goodIn_of _ (by decide +kernel)) ggL_acts_X6_rate
end
section
set_option maxRecDepth 20000 in
theorem ggL_acts_X6_lend : GoodIn wsL_acts wsX6_lend := goodIn_r _ [240, 116, 17, 117, 118, 119, 21, 120, 26, 24, 25, 75, 121, 122, 123, 124, 23, 27, 30, 31, 29, 125, 126, 127, 68, 128, 108, 129, 109, 110, 70, 130, 131, 132, 36, 133, 38, 98, 134, 135, 136, 137, 138, 52, 139, 43, 140, 141, 142, 143, 144, 145, 146, 147, 148, 149, 150, 151, 152, 241, 242, 243, 244, 32, 219, 157, 158, 159, 160, 161, 245, 246, 247, 248, 100, 101, 102, 103, 94, 95, 96, 97, 104, 105, 106, 107, 249, 250, 251, 252, 168, 169, 170, 12, 171, 14, 172, 173, 174, 175, 176, 177, 178, 179, 180, 181, 182, 183, 184, 516, 517, 518, 519, 520, 521, 522, 534, 535, 536, 537, 538, 539, 540, 541, 542, 559, 560, 561, 562, 543, 544, 545, 546, 547, 548, 549, 550, 551, 552, 553, 554, 555, 556, 557, 558, 523, 524, 525] (by decide +kernel) (by decide +kernel)
set_option maxRecDepth 20000 in
theorem gL_acts_X6_lend : GoodIn wsL_acts (wsV RL 80 RX6 yX6_lend wsX6_lend) := goodIn_app (goodIn_of _ (by decide +kernel)) ggL_acts_X6_lend
set_option maxRecDepth 20000 in
theorem ggL_acts_X6_memoOf : GoodIn wsL_acts wsX6_memoOf := goodIn_r _ [256, 17, 84, 257, 258, 259, 144, 260, 146, 261, 262, 263, 21, 264, 25, 24, 27, 265, 266, 267, 268, 32, 61, 62, 63, 36, 64, 38, 57, 58, 59, 60, 516, 517, 518, 519, 520, 521, 522, 534, 535, 536, 537, 538, 539, 540, 541, 542, 553, 554, 555, 556, 557, 558, 543, 544, 545, 546, 547, 548, 549, 550, 551, 552] (by decide +kernel) (by decide +kernel)
set_option maxRecDepth 20000 in
theorem gL_acts_X6_memoOf : GoodIn wsL_acts (wsV RL 26 RX6 yX6_memoOf wsX6_memoOf) := goodIn_app (goodIn_of _ (by decide +kernel)) ggL_acts_X6_memoOf
set_option maxRecDepth 20000 in
theorem ggL_acts_X6_back : GoodIn wsL_acts wsX6_back := goodIn_r _ [272, 116, 17, 117, 118, 119, 21, 120, 26, 24, 25, 75, 121, 122, 123, 124, 23, 27, 30, 31, 29, 125, 126, 127, 68, 128, 108, 129, 109, 110, 70, 130, 131, 132, 36, 133, 38, 98, 134, 135, 136, 137, 138, 52, 139, 43, 140, 141, 142, 143, 144, 145, 146, 147, 148, 149, 150, 151, 152, 273, 274, 275, 276, 32, 219, 277, 86, 87, 88, 111, 49, 50, 51, 61, 62, 63, 64, 278, 279, 280, 281, 282, 283, 284, 168, 169, 170, 12, 171, 14, 172, 173, 174, 175, 176, 177, 178, 179, 180, 181, 182, 183, 184, 516, 517, 518, 519, 520, 521, 522, 534, 535, 536, 537, 538, 539, 540, 541, 542, 559, 560, 561, 562, 543, 544, 545, 546, 547, 548, 549, 550, 551, 552, 553, 554, 555, 556, 557, 558, 523, 524, 525] (by decide +kernel) (by decide +kernel)
set_option maxRecDepth 20000 in
theorem gL_acts_X6_back : GoodIn wsL_acts (wsV RL 83 RX6 yX6_back wsX6_back) := goodIn_app (goodIn_of _ (by decide +kernel)) ggL_acts_X6_back
set_option maxRecDepth 20000 in
theorem ggL_acts_X6_keep : GoodIn wsL_acts wsX6_keep := goodIn_r _ [288, 116, 17, 117, 118, 119, 21, 120, 26, 24, 25, 75, 121, 122, 123, 124, 23, 27, 30, 31, 29, 125, 126, 127, 68, 128, 108, 129, 109, 110, 70, 130, 131, 132, 36, 133, 38, 98, 134, 135, 136, 137, 138, 52, 139, 43, 140, 141, 142, 143, 144, 145, 146, 147, 148, 149, 150, 151, 152, 289, 290, 291, 292, 32, 219, 277, 86, 87, 88, 111, 49, 50, 51, 293, 294, 295, 296, 158, 159, 160, 161, 297, 258, 259, 260, 168, 169, 170, 12, 171, 14, 172, 173, 174, 175, 176, 177, 178, 179, 180, 181, 182, 183, 184, 516, 517, 518, 519, 520, 521, 522, 534, 535, 536, 537, 538, 539, 540, 541, 542, 559, 560, 561, 562, 543, 544, 545, 546, 547, 548, 549, 550, 551, 552, 553, 554, 555, 556, 557, 558, 523, 524, 525] (by decide +kernel) (by decide +kernel)
set_option maxRecDepth 20000 in
theorem gL_acts_X6_keep : GoodIn wsL_acts (wsV RL 86 RX6 yX6_keep wsX6_keep) := goodIn_app (goodIn_of _ (by decide +kernel)) ggL_acts_X6_keep
set_option maxRecDepth 20000 in
theorem ggL_acts_X6_dealerOf : GoodIn wsL_acts wsX6_dealerOf := goodIn_r _ [301, 17, 84, 302, 159, 160, 21, 161, 23, 303, 304, 305, 306, 75, 28, 24, 32, 61, 62, 63, 36, 64, 38, 307, 308, 309, 310, 100, 101, 102, 103, 26, 94, 95, 96, 97, 98, 104, 105, 106, 68, 107, 70, 108, 109, 110, 311, 312, 313, 314, 139, 48, 49, 50, 51, 52, 516, 517, 518, 519, 520, 521, 522, 534, 535, 536, 537, 538, 539, 540, 541, 542, 543, 544, 545, 546, 547, 548, 549, 550, 551, 552, 559, 560, 561, 562] (by decide +kernel) (by decide +kernel)
set_option maxRecDepth 20000 in
theorem gL_acts_X6_dealerOf : GoodIn wsL_acts (wsV RL 23 RX6 yX6_dealerOf wsX6_dealerOf) := goodIn_app (goodIn_of _ (by decide +kernel)) ggL_acts_X6_dealerOf
set_option maxRecDepth 20000 in
theorem ggL_acts_X6_sell : GoodIn wsL_acts wsX6_sell := goodIn_r _ [318, 116, 17, 117, 118, 119, 21, 120, 26, 24, 25, 75, 121, 122, 123, 124, 23, 27, 30, 31, 29, 125, 126, 127, 68, 128, 108, 129, 109, 110, 70, 130, 131, 132, 36, 133, 38, 98, 134, 135, 136, 137, 138, 52, 139, 43, 140, 141, 142, 143, 144, 145, 146, 147, 148, 149, 150, 151, 152, 319, 320, 321, 322, 32, 219, 28, 277, 86, 87, 88, 111, 49, 50, 51, 99, 40, 41, 42, 158, 159, 160, 161, 168, 169, 170, 12, 171, 14, 172, 173, 174, 175, 176, 177, 178, 179, 180, 181, 182, 183, 184, 516, 517, 518, 519, 520, 521, 522, 534, 535, 536, 537, 538, 539, 540, 541, 542, 559, 560, 561, 562, 543, 544, 545, 546, 547, 548, 549, 550, 551, 552, 553, 554, 555, 556, 557, 558, 523, 524, 525] (by decide +kernel) (by decide +kernel)
set_option maxRecDepth 20000 in
theorem gL_acts_X6_sell : GoodIn wsL_acts (wsV RL 89 RX6 yX6_sell wsX6_sell) := goodIn_app (goodIn_of _ (by decide +kernel)) ggL_acts_X6_sell
end
section
set_option maxRecDepth 20000 in
theorem ggL_acts_X6_grade : GoodIn wsL_acts wsX6_grade := goodIn_r _ [326, 116, 17, 117, 118, 119, 21, 120, 26, 24, 25, 75, 121, 122, 123, 124, 23, 27, 30, 31, 29, 125, 126, 127, 68, 128, 108, 129, 109, 110, 70, 130, 131, 132, 36, 133, 38, 98, 134, 135, 136, 137, 138, 52, 139, 43, 140, 141, 142, 143, 144, 145, 146, 147, 148, 149, 150, 151, 152, 327, 328, 329, 330, 32, 219, 277, 86, 87, 88, 162, 12, 163, 99, 40, 41, 42, 100, 101, 102, 103, 94, 95, 96, 97, 104, 105, 106, 107, 111, 49, 50, 51, 168, 169, 170, 171, 14, 172, 173, 174, 175, 176, 177, 178, 179, 180, 181, 182, 183, 184, 516, 517, 518, 519, 520, 521, 522, 534, 535, 536, 537, 538, 539, 540, 541, 542, 559, 560, 561, 562, 543, 544, 545, 546, 547, 548, 549, 550, 551, 552, 553, 554, 555, 556, 557, 558, 523, 524, 525] (by decide +kernel) (by decide +kernel)
set_option maxRecDepth 20000 in
theorem gL_acts_X6_grade : GoodIn wsL_acts (wsV RL 92 RX6 yX6_grade wsX6_grade) := goodIn_app (goodIn_of _ (by decide +kernel)) ggL_acts_X6_grade
set_option maxRecDepth 20000 in
theorem ggL_acts_X6_pause : GoodIn wsL_acts wsX6_pause := goodIn_r _ [334, 116, 17, 117, 118, 119, 21, 120, 26, 24, 25, 75, 121, 122, 123, 124, 23, 27, 30, 31, 29, 125, 126, 127, 68, 128, 108, 129, 109, 110, 70, 130, 131, 132, 36, 133, 38, 98, 134, 135, 136, 137, 138, 52, 139, 43, 140, 141, 142, 143, 144, 145, 146, 147, 148, 149, 150, 151, 152, 335, 336, 337, 338, 32, 157, 339, 340, 341, 342, 293, 294, 295, 296, 158, 159, 160, 161, 297, 258, 259, 260, 168, 169, 170, 12, 171, 14, 172, 173, 174, 175, 176, 177, 178, 179, 180, 181, 182, 183, 184, 516, 517, 518, 519, 520, 521, 522, 534, 535, 536, 537, 538, 539, 540, 541, 542, 559, 560, 561, 562, 543, 544, 545, 546, 547, 548, 549, 550, 551, 552, 553, 554, 555, 556, 557, 558, 523, 524, 525] (by decide +kernel) (by decide +kernel)
set_option maxRecDepth 20000 in
theorem gL_acts_X6_pause : GoodIn wsL_acts (wsV RL 95 RX6 yX6_pause wsX6_pause) := goodIn_app (goodIn_of _ (by decide +kernel)) ggL_acts_X6_pause
set_option maxRecDepth 20000 in
theorem ggL_acts_X6_set : GoodIn wsL_acts wsX6_set := goodIn_r _ [346, 116, 17, 117, 118, 119, 21, 120, 26, 24, 25, 75, 121, 122, 123, 124, 23, 27, 30, 31, 29, 125, 126, 127, 68, 128, 108, 129, 109, 110, 70, 130, 131, 132, 36, 133, 38, 98, 134, 135, 136, 137, 138, 52, 139, 43, 140, 141, 142, 143, 144, 145, 146, 147, 148, 149, 150, 151, 152, 347, 348, 349, 350, 32, 168, 169, 170, 12, 171, 14, 172, 173, 174, 175, 176, 177, 178, 179, 180, 181, 182, 183, 184, 516, 517, 518, 519, 520, 521, 522, 534, 535, 536, 537, 538, 539, 540, 541, 542, 559, 560, 561, 562, 543, 544, 545, 546, 547, 548, 549, 550, 551, 552, 553, 554, 555, 556, 557, 558, 523, 524, 525] (by decide +kernel) (by decide +kernel)
set_option maxRecDepth 20000 in
theorem gL_acts_X6_set : GoodIn wsL_acts (wsV RL 98 RX6 yX6_set wsX6_set) := goodIn_app (goodIn_of _ (by decide +kernel)) ggL_acts_X6_set
set_option maxRecDepth 20000 in
theorem ggL_acts_X6_mark : GoodIn wsL_acts wsX6_mark := goodIn_r _ [354, 355, 17, 16, 117, 118, 119, 21, 120, 26, 24, 25, 75, 121, 122, 123, 124, 23, 27, 30, 31, 29, 125, 126, 127, 68, 128, 108, 129, 109, 110, 70, 130, 131, 132, 36, 133, 38, 98, 134, 135, 136, 137, 138, 52, 139, 43, 140, 141, 142, 143, 144, 145, 146, 147, 148, 149, 150, 151, 152, 516, 517, 518, 519, 520, 521, 522, 534, 535, 536, 537, 538, 539, 540, 541, 542, 559, 560, 561, 562, 543, 544, 545, 546, 547, 548, 549, 550, 551, 552, 553, 554, 555, 556, 557, 558] (by decide +kernel) (by decide +kernel)
set_option maxRecDepth 20000 in
theorem gL_acts_X6_mark : GoodIn wsL_acts (wsV RL 101 RX6 yX6_mark wsX6_mark) := goodIn_app (goodIn_of _ (by decide +kernel)) ggL_acts_X6_mark
set_option maxRecDepth 20000 in
theorem ggL_acts_X6_restore : GoodIn wsL_acts wsX6_restore := goodIn_r _ [359, 16, 360, 14, 17, 355, 172, 173, 174, 175, 176, 177, 178, 179, 180, 181, 182, 183, 184, 118, 119, 21, 120, 26, 24, 25, 75, 121, 122, 123, 124, 23, 27, 30, 31, 29, 125, 126, 127, 68, 128, 108, 129, 109, 110, 70, 130, 131, 132, 36, 133, 38, 98, 134, 135, 136, 137, 138, 52, 139, 43, 140, 141, 142, 143, 144, 145, 146, 147, 148, 149, 150, 151, 152, 117, 516, 517, 518, 519, 520, 521, 522, 534, 535, 536, 537, 538, 539, 540, 541, 542, 523, 524, 525, 559, 560, 561, 562, 543, 544, 545, 546, 547, 548, 549, 550, 551, 552, 553, 554, 555, 556, 557, 558] (by decide +kernel) (by decide +kernel)
set_option maxRecDepth 20000 in
theorem gL_acts_X6_restore : GoodIn wsL_acts (wsV RL 104 RX6 yX6_restore wsX6_restore) := goodIn_app (goodIn_of _ (by decide +kernel)) ggL_acts_X6_restore
set_option maxRecDepth 20000 in
theorem ggL_acts_L_types : GoodIn wsL_acts wsL_types := goodIn_r _ [363, 4, 5, 6, 7, 8, 364, 365, 366, 12, 367, 15, 368, 369, 370, 371, 372, 373, 374, 84, 375, 376, 377, 378, 379, 380, 381, 382, 383, 384, 385, 516, 517, 518, 519, 520, 521, 522, 526, 527, 528, 529, 530, 531, 532, 533] (by decide +kernel) (by decide +kernel)
set_option maxRecDepth 20000 in
theorem gL_acts_L_types : GoodIn wsL_acts (va_wsS RL 107 yL_types wsL_types) := goodIn_app (goodIn_of _ (by decide +kernel)) ggL_acts_L_types
end
section
set_option maxRecDepth 20000 in
theorem ggL_acts_L_reads : GoodIn wsL_acts wsL_reads := goodIn_r _ [388, 389, 3, 1, 390, 391, 392, 12, 393, 84, 394, 17, 15, 117, 118, 119, 21, 120, 26, 24, 25, 75, 121, 122, 123, 124, 23, 27, 30, 31, 29, 125, 126, 127, 68, 128, 108, 129, 109, 110, 70, 130, 131, 132, 36, 133, 38, 98, 134, 135, 136, 137, 138, 52, 139, 43, 140, 141, 142, 143, 144, 145, 146, 147, 148, 149, 150, 151, 152, 395, 396, 397, 378, 398, 399, 380, 400, 401, 402, 403, 404, 405, 406, 407, 408, 409, 410, 411, 412, 413, 414, 415, 416, 417, 418, 419, 420, 421, 422, 423, 424, 425, 426, 427, 428, 429, 382, 430, 431, 432, 433, 434, 435, 436, 437, 438, 439, 440, 441, 442, 443, 444, 445, 446, 447, 448, 449, 450, 451, 452, 453, 454, 455, 456, 457, 458, 459, 460, 461, 462, 463, 464, 465, 466, 467, 468, 469, 470, 471, 472, 473, 474, 475, 476, 477, 478, 479, 480, 481, 482, 483, 484, 485, 486, 487, 488, 489, 490, 491, 492, 493, 494, 495, 496, 86, 87, 88, 497, 242, 243, 244, 32, 219, 157, 158, 159, 160, 161, 245, 246, 247, 248, 100, 101, 102, 103, 94, 95, 96, 97, 104, 105, 106, 107, 249, 250, 251, 252, 498, 274, 275, 276, 277, 111, 49, 50, 51, 61, 62, 63, 64, 278, 279, 280, 281, 282, 283, 284, 499, 290, 291, 292, 293, 294, 295, 296, 297, 258, 259, 260, 500, 320, 321, 322, 28, 99, 40, 41, 42, 501, 328, 329, 330, 162, 163, 502, 230, 231, 232, 199, 200, 201, 220, 203, 204, 205, 206, 207, 208, 209, 221, 222, 223, 224, 233, 234, 235, 236, 503, 336, 337, 338, 339, 340, 341, 342, 504, 505, 506, 507, 9, 10, 11, 13, 14, 16, 18, 19, 20, 22, 33, 34, 35, 37, 39, 44, 45, 46, 47, 48, 53, 54, 55, 56, 57, 58, 59, 60, 65, 66, 67, 69, 71, 72, 73, 74, 76, 77, 78, 79, 508, 509, 510, 511, 360, 512, 513, 514, 515, 172, 173, 174, 175, 176, 177, 178, 179, 180, 181, 182, 183, 184, 516, 517, 518, 519, 520, 521, 522, 534, 535, 536, 537, 538, 539, 540, 541, 542, 559, 560, 561, 562, 543, 544, 545, 546, 547, 548, 549, 550, 551, 552, 553, 554, 555, 556, 557, 558, 526, 527, 528, 529, 530, 531, 532, 533, 523, 524, 525] (by decide +kernel) (by decide +kernel)
set_option maxRecDepth 20000 in
theorem gL_acts_L_reads : GoodIn wsL_acts (va_wsS RL 110 yL_reads wsL_reads) := goodIn_app (goodIn_of _ (by decide +kernel)) ggL_acts_L_reads
theorem dL_acts_0 : decode cL_acts 0 = .ok (.iload_n 1, 1) := by decide +kernel
theorem dL_acts_1 : decode cL_acts 1 = .ok (.bipush 20, 2) := by decide +kernel
theorem dL_acts_3 : decode cL_acts 3 = .ok (.invokestatic 33, 3) := by decide +kernel
theorem dL_acts_6 : decode cL_acts 6 = .ok (.istore_n 3, 1) := by decide +kernel
theorem dL_acts_7 : decode cL_acts 7 = .ok (.aload_n 0, 1) := by decide +kernel
theorem dL_acts_8 : decode cL_acts 8 = .ok (.iconst 0, 1) := by decide +kernel
theorem dL_acts_9 : decode cL_acts 9 = .ok (.invokevirtual 13, 3) := by decide +kernel
theorem dL_acts_12 : decode cL_acts 12 = .ok (.istore 4, 2) := by decide +kernel
theorem dL_acts_14 : decode cL_acts 14 = .ok (.aload_n 0, 1) := by decide +kernel
theorem dL_acts_15 : decode cL_acts 15 = .ok (.iconst 1, 1) := by decide +kernel
theorem dL_acts_16 : decode cL_acts 16 = .ok (.invokevirtual 13, 3) := by decide +kernel
theorem dL_acts_19 : decode cL_acts 19 = .ok (.istore 5, 2) := by decide +kernel
theorem dL_acts_21 : decode cL_acts 21 = .ok (.iload_n 1, 1) := by decide +kernel
theorem dL_acts_22 : decode cL_acts 22 = .ok (.iconst 5, 1) := by decide +kernel
theorem dL_acts_23 : decode cL_acts 23 = .ok (.ishr, 1) := by decide +kernel
theorem dL_acts_24 : decode cL_acts 24 = .ok (.iload 4, 2) := by decide +kernel
theorem dL_acts_26 : decode cL_acts 26 = .ok (.iconst 1, 1) := by decide +kernel
theorem dL_acts_27 : decode cL_acts 27 = .ok (.iadd, 1) := by decide +kernel
theorem dL_acts_28 : decode cL_acts 28 = .ok (.invokestatic 33, 3) := by decide +kernel
theorem dL_acts_31 : decode cL_acts 31 = .ok (.istore 6, 2) := by decide +kernel
theorem dL_acts_33 : decode cL_acts 33 = .ok (.iload_n 1, 1) := by decide +kernel
theorem dL_acts_34 : decode cL_acts 34 = .ok (.bipush 8, 2) := by decide +kernel
theorem dL_acts_36 : decode cL_acts 36 = .ok (.ishr, 1) := by decide +kernel
theorem dL_acts_37 : decode cL_acts 37 = .ok (.iload 5, 2) := by decide +kernel
theorem dL_acts_39 : decode cL_acts 39 = .ok (.iconst 1, 1) := by decide +kernel
theorem dL_acts_40 : decode cL_acts 40 = .ok (.iadd, 1) := by decide +kernel
theorem dL_acts_41 : decode cL_acts 41 = .ok (.invokestatic 33, 3) := by decide +kernel
theorem dL_acts_44 : decode cL_acts 44 = .ok (.istore 7, 2) := by decide +kernel
theorem dL_acts_46 : decode cL_acts 46 = .ok (.iload 7, 2) := by decide +kernel
theorem dL_acts_48 : decode cL_acts 48 = .ok (.iload 5, 2) := by decide +kernel
theorem dL_acts_50 : decode cL_acts 50 = .ok (.if_icmp .ge 7, 3) := by decide +kernel
theorem dL_acts_53 : decode cL_acts 53 = .ok (.iconst 1, 1) := by decide +kernel
theorem dL_acts_54 : decode cL_acts 54 = .ok (.goto 4, 3) := by decide +kernel
theorem dL_acts_57 : decode cL_acts 57 = .ok (.iconst 0, 1) := by decide +kernel
theorem dL_acts_58 : decode cL_acts 58 = .ok (.istore 8, 2) := by decide +kernel
theorem dL_acts_60 : decode cL_acts 60 = .ok (.iload 8, 2) := by decide +kernel
theorem dL_acts_62 : decode cL_acts 62 = .ok (.ifCond .eq 18, 3) := by decide +kernel
theorem dL_acts_65 : decode cL_acts 65 = .ok (.aload_n 0, 1) := by decide +kernel
theorem dL_acts_66 : decode cL_acts 66 = .ok (.iload 7, 2) := by decide +kernel
theorem dL_acts_68 : decode cL_acts 68 = .ok (.bipush 7, 2) := by decide +kernel
theorem dL_acts_70 : decode cL_acts 70 = .ok (.invokevirtual 19, 3) := by decide +kernel
theorem dL_acts_73 : decode cL_acts 73 = .ok (.ifCond .lt 7, 3) := by decide +kernel
theorem dL_acts_76 : decode cL_acts 76 = .ok (.iconst 1, 1) := by decide +kernel
theorem dL_acts_77 : decode cL_acts 77 = .ok (.goto 4, 3) := by decide +kernel
theorem dL_acts_80 : decode cL_acts 80 = .ok (.iconst 0, 1) := by decide +kernel
theorem dL_acts_81 : decode cL_acts 81 = .ok (.istore 9, 2) := by decide +kernel
theorem dL_acts_83 : decode cL_acts 83 = .ok (.iload 8, 2) := by decide +kernel
theorem dL_acts_85 : decode cL_acts 85 = .ok (.ifCond .eq 18, 3) := by decide +kernel
theorem dL_acts_88 : decode cL_acts 88 = .ok (.aload_n 0, 1) := by decide +kernel
theorem dL_acts_89 : decode cL_acts 89 = .ok (.iload 7, 2) := by decide +kernel
theorem dL_acts_91 : decode cL_acts 91 = .ok (.bipush 9, 2) := by decide +kernel
theorem dL_acts_93 : decode cL_acts 93 = .ok (.invokevirtual 19, 3) := by decide +kernel
theorem dL_acts_96 : decode cL_acts 96 = .ok (.ifCond .le 7, 3) := by decide +kernel
theorem dL_acts_99 : decode cL_acts 99 = .ok (.iconst 1, 1) := by decide +kernel
theorem dL_acts_100 : decode cL_acts 100 = .ok (.goto 4, 3) := by decide +kernel
theorem dL_acts_103 : decode cL_acts 103 = .ok (.iconst 0, 1) := by decide +kernel
theorem dL_acts_104 : decode cL_acts 104 = .ok (.istore 10, 2) := by decide +kernel
theorem dL_acts_106 : decode cL_acts 106 = .ok (.iload_n 3, 1) := by decide +kernel
theorem dL_acts_107 : decode cL_acts 107 = .ok (.iconst 3, 1) := by decide +kernel
theorem dL_acts_108 : decode cL_acts 108 = .ok (.if_icmp .ge 76, 3) := by decide +kernel
theorem dL_acts_111 : decode cL_acts 111 = .ok (.iload_n 2, 1) := by decide +kernel
theorem dL_acts_112 : decode cL_acts 112 = .ok (.sipush 1000, 3) := by decide +kernel
theorem dL_acts_115 : decode cL_acts 115 = .ok (.invokestatic 33, 3) := by decide +kernel
theorem dL_acts_118 : decode cL_acts 118 = .ok (.istore 11, 2) := by decide +kernel
theorem dL_acts_120 : decode cL_acts 120 = .ok (.aload_n 0, 1) := by decide +kernel
theorem dL_acts_121 : decode cL_acts 121 = .ok (.iload 6, 2) := by decide +kernel
theorem dL_acts_123 : decode cL_acts 123 = .ok (.iload 11, 2) := by decide +kernel
theorem dL_acts_125 : decode cL_acts 125 = .ok (.iload_n 2, 1) := by decide +kernel
theorem dL_acts_126 : decode cL_acts 126 = .ok (.bipush 10, 2) := by decide +kernel
theorem dL_acts_128 : decode cL_acts 128 = .ok (.ishr, 1) := by decide +kernel
theorem dL_acts_129 : decode cL_acts 129 = .ok (.iconst 5, 1) := by decide +kernel
theorem dL_acts_130 : decode cL_acts 130 = .ok (.invokestatic 33, 3) := by decide +kernel
theorem dL_acts_133 : decode cL_acts 133 = .ok (.iload_n 2, 1) := by decide +kernel
theorem dL_acts_134 : decode cL_acts 134 = .ok (.bipush 13, 2) := by decide +kernel
theorem dL_acts_136 : decode cL_acts 136 = .ok (.ishr, 1) := by decide +kernel
theorem dL_acts_137 : decode cL_acts 137 = .ok (.iconst 4, 1) := by decide +kernel
theorem dL_acts_138 : decode cL_acts 138 = .ok (.invokestatic 33, 3) := by decide +kernel
theorem dL_acts_141 : decode cL_acts 141 = .ok (.invokevirtual 66, 3) := by decide +kernel
theorem dL_acts_144 : decode cL_acts 144 = .ok (.iload 6, 2) := by decide +kernel
theorem dL_acts_146 : decode cL_acts 146 = .ok (.iload 4, 2) := by decide +kernel
theorem dL_acts_148 : decode cL_acts 148 = .ok (.if_icmp .eq 8, 3) := by decide +kernel
theorem dL_acts_151 : decode cL_acts 151 = .ok (.iload 11, 2) := by decide +kernel
theorem dL_acts_153 : decode cL_acts 153 = .ok (.ifCond .ne 8, 3) := by decide +kernel
theorem dL_acts_156 : decode cL_acts 156 = .ok (.ldc 65, 2) := by decide +kernel
theorem dL_acts_158 : decode cL_acts 158 = .ok (.goto 17, 3) := by decide +kernel
theorem dL_acts_161 : decode cL_acts 161 = .ok (.iload 5, 2) := by decide +kernel
theorem dL_acts_163 : decode cL_acts 163 = .ok (.bipush 20, 2) := by decide +kernel
theorem dL_acts_165 : decode cL_acts 165 = .ok (.if_icmp .ne 8, 3) := by decide +kernel
theorem dL_acts_168 : decode cL_acts 168 = .ok (.ldc 69, 2) := by decide +kernel
theorem dL_acts_170 : decode cL_acts 170 = .ok (.goto 5, 3) := by decide +kernel
theorem dL_acts_173 : decode cL_acts 173 = .ok (.iload 5, 2) := by decide +kernel
theorem dL_acts_175 : decode cL_acts 175 = .ok (.if_icmp .ne 7, 3) := by decide +kernel
theorem dL_acts_178 : decode cL_acts 178 = .ok (.iconst 1, 1) := by decide +kernel
theorem dL_acts_179 : decode cL_acts 179 = .ok (.goto 4, 3) := by decide +kernel
theorem dL_acts_182 : decode cL_acts 182 = .ok (.iconst 0, 1) := by decide +kernel
theorem dL_acts_183 : decode cL_acts 183 = .ok (.ireturn, 1) := by decide +kernel
theorem dL_acts_184 : decode cL_acts 184 = .ok (.iload_n 3, 1) := by decide +kernel
theorem dL_acts_185 : decode cL_acts 185 = .ok (.iconst 3, 1) := by decide +kernel
theorem dL_acts_186 : decode cL_acts 186 = .ok (.if_icmp .ne 38, 3) := by decide +kernel
theorem dL_acts_189 : decode cL_acts 189 = .ok (.iload_n 2, 1) := by decide +kernel
theorem dL_acts_190 : decode cL_acts 190 = .ok (.iconst 3, 1) := by decide +kernel
theorem dL_acts_191 : decode cL_acts 191 = .ok (.invokestatic 33, 3) := by decide +kernel
theorem dL_acts_194 : decode cL_acts 194 = .ok (.ifCond .gt 24, 3) := by decide +kernel
theorem dL_acts_197 : decode cL_acts 197 = .ok (.aload_n 0, 1) := by decide +kernel
theorem dL_acts_198 : decode cL_acts 198 = .ok (.invokevirtual 70, 3) := by decide +kernel
theorem dL_acts_201 : decode cL_acts 201 = .ok (.iload 4, 2) := by decide +kernel
theorem dL_acts_203 : decode cL_acts 203 = .ok (.bipush 6, 2) := by decide +kernel
theorem dL_acts_205 : decode cL_acts 205 = .ok (.if_icmp .ne 8, 3) := by decide +kernel
theorem dL_acts_208 : decode cL_acts 208 = .ok (.ldc 69, 2) := by decide +kernel
theorem dL_acts_210 : decode cL_acts 210 = .ok (.goto 5, 3) := by decide +kernel
theorem dL_acts_213 : decode cL_acts 213 = .ok (.iload 4, 2) := by decide +kernel
theorem dL_acts_215 : decode cL_acts 215 = .ok (.if_icmp .ne 7, 3) := by decide +kernel
theorem dL_acts_218 : decode cL_acts 218 = .ok (.iconst 1, 1) := by decide +kernel
theorem dL_acts_219 : decode cL_acts 219 = .ok (.goto 4, 3) := by decide +kernel
theorem dL_acts_222 : decode cL_acts 222 = .ok (.iconst 0, 1) := by decide +kernel
theorem dL_acts_223 : decode cL_acts 223 = .ok (.ireturn, 1) := by decide +kernel
theorem dL_acts_224 : decode cL_acts 224 = .ok (.iload_n 3, 1) := by decide +kernel
theorem dL_acts_225 : decode cL_acts 225 = .ok (.bipush 7, 2) := by decide +kernel
theorem dL_acts_227 : decode cL_acts 227 = .ok (.if_icmp .ge 225, 3) := by decide +kernel
theorem dL_acts_230 : decode cL_acts 230 = .ok (.iload_n 2, 1) := by decide +kernel
theorem dL_acts_231 : decode cL_acts 231 = .ok (.bipush 6, 2) := by decide +kernel
theorem dL_acts_233 : decode cL_acts 233 = .ok (.invokestatic 33, 3) := by decide +kernel
theorem dL_acts_236 : decode cL_acts 236 = .ok (.istore 11, 2) := by decide +kernel
theorem dL_acts_238 : decode cL_acts 238 = .ok (.iload_n 2, 1) := by decide +kernel
theorem dL_acts_239 : decode cL_acts 239 = .ok (.iconst 3, 1) := by decide +kernel
theorem dL_acts_240 : decode cL_acts 240 = .ok (.ishr, 1) := by decide +kernel
theorem dL_acts_241 : decode cL_acts 241 = .ok (.bipush 10, 2) := by decide +kernel
theorem dL_acts_243 : decode cL_acts 243 = .ok (.invokestatic 33, 3) := by decide +kernel
theorem dL_acts_246 : decode cL_acts 246 = .ok (.istore 12, 2) := by decide +kernel
theorem dL_acts_248 : decode cL_acts 248 = .ok (.iload_n 2, 1) := by decide +kernel
theorem dL_acts_249 : decode cL_acts 249 = .ok (.bipush 7, 2) := by decide +kernel
theorem dL_acts_251 : decode cL_acts 251 = .ok (.ishr, 1) := by decide +kernel
theorem dL_acts_252 : decode cL_acts 252 = .ok (.bipush 8, 2) := by decide +kernel
theorem dL_acts_254 : decode cL_acts 254 = .ok (.invokestatic 33, 3) := by decide +kernel
theorem dL_acts_257 : decode cL_acts 257 = .ok (.istore 13, 2) := by decide +kernel
theorem dL_acts_259 : decode cL_acts 259 = .ok (.iload_n 2, 1) := by decide +kernel
theorem dL_acts_260 : decode cL_acts 260 = .ok (.bipush 11, 2) := by decide +kernel
theorem dL_acts_262 : decode cL_acts 262 = .ok (.ishr, 1) := by decide +kernel
theorem dL_acts_263 : decode cL_acts 263 = .ok (.bipush 6, 2) := by decide +kernel
theorem dL_acts_265 : decode cL_acts 265 = .ok (.invokestatic 33, 3) := by decide +kernel
theorem dL_acts_268 : decode cL_acts 268 = .ok (.ifCond .ne 7, 3) := by decide +kernel
theorem dL_acts_271 : decode cL_acts 271 = .ok (.iconst 0, 1) := by decide +kernel
theorem dL_acts_272 : decode cL_acts 272 = .ok (.goto 15, 3) := by decide +kernel
theorem dL_acts_275 : decode cL_acts 275 = .ok (.iconst 1, 1) := by decide +kernel
theorem dL_acts_276 : decode cL_acts 276 = .ok (.iload_n 2, 1) := by decide +kernel
theorem dL_acts_277 : decode cL_acts 277 = .ok (.bipush 12, 2) := by decide +kernel
theorem dL_acts_279 : decode cL_acts 279 = .ok (.ishr, 1) := by decide +kernel
theorem dL_acts_280 : decode cL_acts 280 = .ok (.sipush 5000, 3) := by decide +kernel
theorem dL_acts_283 : decode cL_acts 283 = .ok (.invokestatic 33, 3) := by decide +kernel
theorem dL_acts_286 : decode cL_acts 286 = .ok (.iadd, 1) := by decide +kernel
theorem dL_acts_287 : decode cL_acts 287 = .ok (.istore 14, 2) := by decide +kernel
theorem dL_acts_289 : decode cL_acts 289 = .ok (.iload 11, 2) := by decide +kernel
theorem dL_acts_291 : decode cL_acts 291 = .ok (.iconst 5, 1) := by decide +kernel
theorem dL_acts_292 : decode cL_acts 292 = .ok (.if_icmp .ne 7, 3) := by decide +kernel
theorem dL_acts_295 : decode cL_acts 295 = .ok (.iconst 0, 1) := by decide +kernel
theorem dL_acts_296 : decode cL_acts 296 = .ok (.goto 14, 3) := by decide +kernel
theorem dL_acts_299 : decode cL_acts 299 = .ok (.aload_n 0, 1) := by decide +kernel
theorem dL_acts_300 : decode cL_acts 300 = .ok (.iload 11, 2) := by decide +kernel
theorem dL_acts_302 : decode cL_acts 302 = .ok (.iload 12, 2) := by decide +kernel
theorem dL_acts_304 : decode cL_acts 304 = .ok (.iload 13, 2) := by decide +kernel
theorem dL_acts_306 : decode cL_acts 306 = .ok (.iconst 1, 1) := by decide +kernel
theorem dL_acts_307 : decode cL_acts 307 = .ok (.invokevirtual 29, 3) := by decide +kernel
theorem dL_acts_310 : decode cL_acts 310 = .ok (.istore 15, 2) := by decide +kernel
theorem dL_acts_312 : decode cL_acts 312 = .ok (.iload 15, 2) := by decide +kernel
theorem dL_acts_314 : decode cL_acts 314 = .ok (.ifCond .ge 18, 3) := by decide +kernel
theorem dL_acts_317 : decode cL_acts 317 = .ok (.aload_n 0, 1) := by decide +kernel
theorem dL_acts_318 : decode cL_acts 318 = .ok (.bipush 6, 2) := by decide +kernel
theorem dL_acts_320 : decode cL_acts 320 = .ok (.invokevirtual 13, 3) := by decide +kernel
theorem dL_acts_323 : decode cL_acts 323 = .ok (.bipush 24, 2) := by decide +kernel
theorem dL_acts_325 : decode cL_acts 325 = .ok (.if_icmp .ne 7, 3) := by decide +kernel
theorem dL_acts_328 : decode cL_acts 328 = .ok (.iconst 1, 1) := by decide +kernel
theorem dL_acts_329 : decode cL_acts 329 = .ok (.goto 4, 3) := by decide +kernel
theorem dL_acts_332 : decode cL_acts 332 = .ok (.iconst 0, 1) := by decide +kernel
theorem dL_acts_333 : decode cL_acts 333 = .ok (.istore 16, 2) := by decide +kernel
theorem dL_acts_335 : decode cL_acts 335 = .ok (.iload_n 3, 1) := by decide +kernel
theorem dL_acts_336 : decode cL_acts 336 = .ok (.bipush 6, 2) := by decide +kernel
theorem dL_acts_338 : decode cL_acts 338 = .ok (.if_icmp .ne 56, 3) := by decide +kernel
theorem dL_acts_341 : decode cL_acts 341 = .ok (.iload_n 2, 1) := by decide +kernel
theorem dL_acts_342 : decode cL_acts 342 = .ok (.bipush 20, 2) := by decide +kernel
theorem dL_acts_344 : decode cL_acts 344 = .ok (.ishr, 1) := by decide +kernel
theorem dL_acts_345 : decode cL_acts 345 = .ok (.iconst 3, 1) := by decide +kernel
theorem dL_acts_346 : decode cL_acts 346 = .ok (.invokestatic 33, 3) := by decide +kernel
theorem dL_acts_349 : decode cL_acts 349 = .ok (.ifCond .ne 45, 3) := by decide +kernel
theorem dL_acts_352 : decode cL_acts 352 = .ok (.aload_n 0, 1) := by decide +kernel
theorem dL_acts_353 : decode cL_acts 353 = .ok (.iload 11, 2) := by decide +kernel
theorem dL_acts_355 : decode cL_acts 355 = .ok (.iload 12, 2) := by decide +kernel
theorem dL_acts_357 : decode cL_acts 357 = .ok (.iload 13, 2) := by decide +kernel
theorem dL_acts_359 : decode cL_acts 359 = .ok (.invokevirtual 73, 3) := by decide +kernel
theorem dL_acts_362 : decode cL_acts 362 = .ok (.iload 11, 2) := by decide +kernel
theorem dL_acts_364 : decode cL_acts 364 = .ok (.iconst 5, 1) := by decide +kernel
theorem dL_acts_365 : decode cL_acts 365 = .ok (.if_icmp .ne 8, 3) := by decide +kernel
theorem dL_acts_368 : decode cL_acts 368 = .ok (.ldc 65, 2) := by decide +kernel
theorem dL_acts_370 : decode cL_acts 370 = .ok (.goto 15, 3) := by decide +kernel
theorem dL_acts_373 : decode cL_acts 373 = .ok (.iload 15, 2) := by decide +kernel
theorem dL_acts_375 : decode cL_acts 375 = .ok (.ifCond .ge 8, 3) := by decide +kernel
theorem dL_acts_378 : decode cL_acts 378 = .ok (.ldc 64, 2) := by decide +kernel
theorem dL_acts_380 : decode cL_acts 380 = .ok (.goto 5, 3) := by decide +kernel
theorem dL_acts_383 : decode cL_acts 383 = .ok (.iload 15, 2) := by decide +kernel
theorem dL_acts_385 : decode cL_acts 385 = .ok (.if_icmp .ne 7, 3) := by decide +kernel
theorem dL_acts_388 : decode cL_acts 388 = .ok (.iconst 1, 1) := by decide +kernel
theorem dL_acts_389 : decode cL_acts 389 = .ok (.goto 4, 3) := by decide +kernel
theorem dL_acts_392 : decode cL_acts 392 = .ok (.iconst 0, 1) := by decide +kernel
theorem dL_acts_393 : decode cL_acts 393 = .ok (.ireturn, 1) := by decide +kernel
theorem dL_acts_394 : decode cL_acts 394 = .ok (.aload_n 0, 1) := by decide +kernel
theorem dL_acts_395 : decode cL_acts 395 = .ok (.iload 11, 2) := by decide +kernel
theorem dL_acts_397 : decode cL_acts 397 = .ok (.iload 12, 2) := by decide +kernel
theorem dL_acts_399 : decode cL_acts 399 = .ok (.iload 13, 2) := by decide +kernel
theorem dL_acts_401 : decode cL_acts 401 = .ok (.iload 14, 2) := by decide +kernel
theorem dL_acts_403 : decode cL_acts 403 = .ok (.invokevirtual 77, 3) := by decide +kernel
theorem dL_acts_406 : decode cL_acts 406 = .ok (.iload 11, 2) := by decide +kernel
theorem dL_acts_408 : decode cL_acts 408 = .ok (.iconst 5, 1) := by decide +kernel
theorem dL_acts_409 : decode cL_acts 409 = .ok (.if_icmp .eq 8, 3) := by decide +kernel
theorem dL_acts_412 : decode cL_acts 412 = .ok (.iload 14, 2) := by decide +kernel
theorem dL_acts_414 : decode cL_acts 414 = .ok (.ifCond .ne 8, 3) := by decide +kernel
theorem dL_acts_417 : decode cL_acts 417 = .ok (.ldc 65, 2) := by decide +kernel
theorem dL_acts_419 : decode cL_acts 419 = .ok (.goto 24, 3) := by decide +kernel
theorem dL_acts_422 : decode cL_acts 422 = .ok (.iload 16, 2) := by decide +kernel
theorem dL_acts_424 : decode cL_acts 424 = .ok (.ifCond .eq 8, 3) := by decide +kernel
theorem dL_acts_427 : decode cL_acts 427 = .ok (.ldc 69, 2) := by decide +kernel
theorem dL_acts_429 : decode cL_acts 429 = .ok (.goto 14, 3) := by decide +kernel
theorem dL_acts_432 : decode cL_acts 432 = .ok (.iload 15, 2) := by decide +kernel
theorem dL_acts_434 : decode cL_acts 434 = .ok (.ifCond .ge 7, 3) := by decide +kernel
theorem dL_acts_437 : decode cL_acts 437 = .ok (.iconst 0, 1) := by decide +kernel
theorem dL_acts_438 : decode cL_acts 438 = .ok (.goto 5, 3) := by decide +kernel
theorem dL_acts_441 : decode cL_acts 441 = .ok (.iload 15, 2) := by decide +kernel
theorem dL_acts_443 : decode cL_acts 443 = .ok (.if_icmp .ne 7, 3) := by decide +kernel
theorem dL_acts_446 : decode cL_acts 446 = .ok (.iconst 1, 1) := by decide +kernel
theorem dL_acts_447 : decode cL_acts 447 = .ok (.goto 4, 3) := by decide +kernel
theorem dL_acts_450 : decode cL_acts 450 = .ok (.iconst 0, 1) := by decide +kernel
theorem dL_acts_451 : decode cL_acts 451 = .ok (.ireturn, 1) := by decide +kernel
theorem dL_acts_452 : decode cL_acts 452 = .ok (.iload_n 3, 1) := by decide +kernel
theorem dL_acts_453 : decode cL_acts 453 = .ok (.bipush 11, 2) := by decide +kernel
theorem dL_acts_455 : decode cL_acts 455 = .ok (.if_icmp .ge 212, 3) := by decide +kernel
theorem dL_acts_458 : decode cL_acts 458 = .ok (.iload_n 2, 1) := by decide +kernel
theorem dL_acts_459 : decode cL_acts 459 = .ok (.iload 4, 2) := by decide +kernel
theorem dL_acts_461 : decode cL_acts 461 = .ok (.iconst 1, 1) := by decide +kernel
theorem dL_acts_462 : decode cL_acts 462 = .ok (.iadd, 1) := by decide +kernel
theorem dL_acts_463 : decode cL_acts 463 = .ok (.invokestatic 33, 3) := by decide +kernel
theorem dL_acts_466 : decode cL_acts 466 = .ok (.istore 11, 2) := by decide +kernel
theorem dL_acts_468 : decode cL_acts 468 = .ok (.iload_n 2, 1) := by decide +kernel
theorem dL_acts_469 : decode cL_acts 469 = .ok (.iconst 3, 1) := by decide +kernel
theorem dL_acts_470 : decode cL_acts 470 = .ok (.ishr, 1) := by decide +kernel
theorem dL_acts_471 : decode cL_acts 471 = .ok (.bipush 30, 2) := by decide +kernel
theorem dL_acts_473 : decode cL_acts 473 = .ok (.invokestatic 33, 3) := by decide +kernel
theorem dL_acts_476 : decode cL_acts 476 = .ok (.istore 12, 2) := by decide +kernel
theorem dL_acts_478 : decode cL_acts 478 = .ok (.iload 6, 2) := by decide +kernel
theorem dL_acts_480 : decode cL_acts 480 = .ok (.iload 4, 2) := by decide +kernel
theorem dL_acts_482 : decode cL_acts 482 = .ok (.if_icmp .ge 31, 3) := by decide +kernel
theorem dL_acts_485 : decode cL_acts 485 = .ok (.iload 11, 2) := by decide +kernel
theorem dL_acts_487 : decode cL_acts 487 = .ok (.iload 4, 2) := by decide +kernel
theorem dL_acts_489 : decode cL_acts 489 = .ok (.if_icmp .ge 24, 3) := by decide +kernel
theorem dL_acts_492 : decode cL_acts 492 = .ok (.iload 6, 2) := by decide +kernel
theorem dL_acts_494 : decode cL_acts 494 = .ok (.iload 11, 2) := by decide +kernel
theorem dL_acts_496 : decode cL_acts 496 = .ok (.if_icmp .eq 17, 3) := by decide +kernel
theorem dL_acts_499 : decode cL_acts 499 = .ok (.iload 8, 2) := by decide +kernel
theorem dL_acts_501 : decode cL_acts 501 = .ok (.ifCond .eq 12, 3) := by decide +kernel
theorem dL_acts_504 : decode cL_acts 504 = .ok (.iload 12, 2) := by decide +kernel
theorem dL_acts_506 : decode cL_acts 506 = .ok (.ifCond .le 7, 3) := by decide +kernel
theorem dL_acts_509 : decode cL_acts 509 = .ok (.iconst 1, 1) := by decide +kernel
theorem dL_acts_510 : decode cL_acts 510 = .ok (.goto 4, 3) := by decide +kernel
theorem dL_acts_513 : decode cL_acts 513 = .ok (.iconst 0, 1) := by decide +kernel
theorem dL_acts_514 : decode cL_acts 514 = .ok (.istore 13, 2) := by decide +kernel
theorem dL_acts_516 : decode cL_acts 516 = .ok (.iload 13, 2) := by decide +kernel
theorem dL_acts_518 : decode cL_acts 518 = .ok (.ifCond .eq 42, 3) := by decide +kernel
theorem dL_acts_521 : decode cL_acts 521 = .ok (.aload_n 0, 1) := by decide +kernel
theorem dL_acts_522 : decode cL_acts 522 = .ok (.iload 7, 2) := by decide +kernel
theorem dL_acts_524 : decode cL_acts 524 = .ok (.iconst 4, 1) := by decide +kernel
theorem dL_acts_525 : decode cL_acts 525 = .ok (.invokevirtual 19, 3) := by decide +kernel
theorem dL_acts_528 : decode cL_acts 528 = .ok (.iload 6, 2) := by decide +kernel
theorem dL_acts_530 : decode cL_acts 530 = .ok (.if_icmp .ne 30, 3) := by decide +kernel
theorem dL_acts_533 : decode cL_acts 533 = .ok (.aload_n 0, 1) := by decide +kernel
theorem dL_acts_534 : decode cL_acts 534 = .ok (.iload 7, 2) := by decide +kernel
theorem dL_acts_536 : decode cL_acts 536 = .ok (.iconst 5, 1) := by decide +kernel
theorem dL_acts_537 : decode cL_acts 537 = .ok (.invokevirtual 19, 3) := by decide +kernel
theorem dL_acts_540 : decode cL_acts 540 = .ok (.iload 6, 2) := by decide +kernel
theorem dL_acts_542 : decode cL_acts 542 = .ok (.if_icmp .ne 18, 3) := by decide +kernel
theorem dL_acts_545 : decode cL_acts 545 = .ok (.aload_n 0, 1) := by decide +kernel
theorem dL_acts_546 : decode cL_acts 546 = .ok (.iload 7, 2) := by decide +kernel
theorem dL_acts_548 : decode cL_acts 548 = .ok (.bipush 6, 2) := by decide +kernel
theorem dL_acts_550 : decode cL_acts 550 = .ok (.invokevirtual 19, 3) := by decide +kernel
theorem dL_acts_553 : decode cL_acts 553 = .ok (.ifCond .lt 7, 3) := by decide +kernel
theorem dL_acts_556 : decode cL_acts 556 = .ok (.iconst 1, 1) := by decide +kernel
theorem dL_acts_557 : decode cL_acts 557 = .ok (.goto 4, 3) := by decide +kernel
theorem dL_acts_560 : decode cL_acts 560 = .ok (.iconst 0, 1) := by decide +kernel
theorem dL_acts_561 : decode cL_acts 561 = .ok (.istore 14, 2) := by decide +kernel
theorem dL_acts_563 : decode cL_acts 563 = .ok (.aload_n 0, 1) := by decide +kernel
theorem dL_acts_564 : decode cL_acts 564 = .ok (.iconst 4, 1) := by decide +kernel
theorem dL_acts_565 : decode cL_acts 565 = .ok (.invokevirtual 13, 3) := by decide +kernel
theorem dL_acts_568 : decode cL_acts 568 = .ok (.istore 15, 2) := by decide +kernel
theorem dL_acts_570 : decode cL_acts 570 = .ok (.aload_n 0, 1) := by decide +kernel
theorem dL_acts_571 : decode cL_acts 571 = .ok (.iload 6, 2) := by decide +kernel
theorem dL_acts_573 : decode cL_acts 573 = .ok (.iload 11, 2) := by decide +kernel
theorem dL_acts_575 : decode cL_acts 575 = .ok (.iload 12, 2) := by decide +kernel
theorem dL_acts_577 : decode cL_acts 577 = .ok (.iconst 1, 1) := by decide +kernel
theorem dL_acts_578 : decode cL_acts 578 = .ok (.iload 7, 2) := by decide +kernel
theorem dL_acts_580 : decode cL_acts 580 = .ok (.ishl, 1) := by decide +kernel
theorem dL_acts_581 : decode cL_acts 581 = .ok (.invokevirtual 80, 3) := by decide +kernel
theorem dL_acts_584 : decode cL_acts 584 = .ok (.istore 16, 2) := by decide +kernel
theorem dL_acts_586 : decode cL_acts 586 = .ok (.iload 16, 2) := by decide +kernel
theorem dL_acts_588 : decode cL_acts 588 = .ok (.iload 13, 2) := by decide +kernel
theorem dL_acts_590 : decode cL_acts 590 = .ok (.ifCond .ne 8, 3) := by decide +kernel
theorem dL_acts_593 : decode cL_acts 593 = .ok (.ldc 65, 2) := by decide +kernel
theorem dL_acts_595 : decode cL_acts 595 = .ok (.goto 27, 3) := by decide +kernel
theorem dL_acts_598 : decode cL_acts 598 = .ok (.iload 14, 2) := by decide +kernel
theorem dL_acts_600 : decode cL_acts 600 = .ok (.ifCond .ne 8, 3) := by decide +kernel
theorem dL_acts_603 : decode cL_acts 603 = .ok (.ldc 64, 2) := by decide +kernel
theorem dL_acts_605 : decode cL_acts 605 = .ok (.goto 17, 3) := by decide +kernel
theorem dL_acts_608 : decode cL_acts 608 = .ok (.iload 15, 2) := by decide +kernel
theorem dL_acts_610 : decode cL_acts 610 = .ok (.bipush 10, 2) := by decide +kernel
theorem dL_acts_612 : decode cL_acts 612 = .ok (.if_icmp .ne 8, 3) := by decide +kernel
theorem dL_acts_615 : decode cL_acts 615 = .ok (.ldc 69, 2) := by decide +kernel
theorem dL_acts_617 : decode cL_acts 617 = .ok (.goto 5, 3) := by decide +kernel
theorem dL_acts_620 : decode cL_acts 620 = .ok (.iload 15, 2) := by decide +kernel
theorem dL_acts_622 : decode cL_acts 622 = .ok (.if_icmp .ne 43, 3) := by decide +kernel
theorem dL_acts_625 : decode cL_acts 625 = .ok (.iload 16, 2) := by decide +kernel
theorem dL_acts_627 : decode cL_acts 627 = .ok (.ifCond .lt 34, 3) := by decide +kernel
theorem dL_acts_630 : decode cL_acts 630 = .ok (.aload_n 0, 1) := by decide +kernel
theorem dL_acts_631 : decode cL_acts 631 = .ok (.iload 16, 2) := by decide +kernel
theorem dL_acts_633 : decode cL_acts 633 = .ok (.iconst 2, 1) := by decide +kernel
theorem dL_acts_634 : decode cL_acts 634 = .ok (.invokevirtual 26, 3) := by decide +kernel
theorem dL_acts_637 : decode cL_acts 637 = .ok (.aload_n 0, 1) := by decide +kernel
theorem dL_acts_638 : decode cL_acts 638 = .ok (.bipush 7, 2) := by decide +kernel
theorem dL_acts_640 : decode cL_acts 640 = .ok (.invokevirtual 13, 3) := by decide +kernel
theorem dL_acts_643 : decode cL_acts 643 = .ok (.iload 12, 2) := by decide +kernel
theorem dL_acts_645 : decode cL_acts 645 = .ok (.iadd, 1) := by decide +kernel
theorem dL_acts_646 : decode cL_acts 646 = .ok (.if_icmp .ne 19, 3) := by decide +kernel
theorem dL_acts_649 : decode cL_acts 649 = .ok (.aload_n 0, 1) := by decide +kernel
theorem dL_acts_650 : decode cL_acts 650 = .ok (.iload 7, 2) := by decide +kernel
theorem dL_acts_652 : decode cL_acts 652 = .ok (.iconst 5, 1) := by decide +kernel
theorem dL_acts_653 : decode cL_acts 653 = .ok (.invokevirtual 19, 3) := by decide +kernel
theorem dL_acts_656 : decode cL_acts 656 = .ok (.iload 11, 2) := by decide +kernel
theorem dL_acts_658 : decode cL_acts 658 = .ok (.if_icmp .ne 7, 3) := by decide +kernel
theorem dL_acts_661 : decode cL_acts 661 = .ok (.iconst 1, 1) := by decide +kernel
theorem dL_acts_662 : decode cL_acts 662 = .ok (.goto 4, 3) := by decide +kernel
theorem dL_acts_665 : decode cL_acts 665 = .ok (.iconst 0, 1) := by decide +kernel
theorem dL_acts_666 : decode cL_acts 666 = .ok (.ireturn, 1) := by decide +kernel
theorem dL_acts_667 : decode cL_acts 667 = .ok (.iload_n 3, 1) := by decide +kernel
theorem dL_acts_668 : decode cL_acts 668 = .ok (.bipush 13, 2) := by decide +kernel
theorem dL_acts_670 : decode cL_acts 670 = .ok (.if_icmp .ge 111, 3) := by decide +kernel
theorem dL_acts_673 : decode cL_acts 673 = .ok (.iload 9, 2) := by decide +kernel
theorem dL_acts_675 : decode cL_acts 675 = .ok (.ifCond .eq 14, 3) := by decide +kernel
theorem dL_acts_678 : decode cL_acts 678 = .ok (.aload_n 0, 1) := by decide +kernel
theorem dL_acts_679 : decode cL_acts 679 = .ok (.iload 7, 2) := by decide +kernel
theorem dL_acts_681 : decode cL_acts 681 = .ok (.bipush 7, 2) := by decide +kernel
theorem dL_acts_683 : decode cL_acts 683 = .ok (.invokevirtual 19, 3) := by decide +kernel
theorem dL_acts_686 : decode cL_acts 686 = .ok (.goto 4, 3) := by decide +kernel
theorem dL_acts_689 : decode cL_acts 689 = .ok (.iconst 0, 1) := by decide +kernel
theorem dL_acts_690 : decode cL_acts 690 = .ok (.istore 11, 2) := by decide +kernel
theorem dL_acts_692 : decode cL_acts 692 = .ok (.aload_n 0, 1) := by decide +kernel
theorem dL_acts_693 : decode cL_acts 693 = .ok (.iload 7, 2) := by decide +kernel
theorem dL_acts_695 : decode cL_acts 695 = .ok (.invokevirtual 83, 3) := by decide +kernel
theorem dL_acts_698 : decode cL_acts 698 = .ok (.istore 12, 2) := by decide +kernel
theorem dL_acts_700 : decode cL_acts 700 = .ok (.iload 8, 2) := by decide +kernel
theorem dL_acts_702 : decode cL_acts 702 = .ok (.ifCond .ne 18, 3) := by decide +kernel
theorem dL_acts_705 : decode cL_acts 705 = .ok (.iload 12, 2) := by decide +kernel
theorem dL_acts_707 : decode cL_acts 707 = .ok (.ldc 65, 2) := by decide +kernel
theorem dL_acts_709 : decode cL_acts 709 = .ok (.if_icmp .ne 7, 3) := by decide +kernel
theorem dL_acts_712 : decode cL_acts 712 = .ok (.iconst 1, 1) := by decide +kernel
theorem dL_acts_713 : decode cL_acts 713 = .ok (.goto 67, 3) := by decide +kernel
theorem dL_acts_716 : decode cL_acts 716 = .ok (.iconst 0, 1) := by decide +kernel
theorem dL_acts_717 : decode cL_acts 717 = .ok (.goto 63, 3) := by decide +kernel
theorem dL_acts_720 : decode cL_acts 720 = .ok (.iload 9, 2) := by decide +kernel
theorem dL_acts_722 : decode cL_acts 722 = .ok (.ifCond .ne 18, 3) := by decide +kernel
theorem dL_acts_725 : decode cL_acts 725 = .ok (.iload 12, 2) := by decide +kernel
theorem dL_acts_727 : decode cL_acts 727 = .ok (.ldc 64, 2) := by decide +kernel
theorem dL_acts_729 : decode cL_acts 729 = .ok (.if_icmp .ne 7, 3) := by decide +kernel
theorem dL_acts_732 : decode cL_acts 732 = .ok (.iconst 1, 1) := by decide +kernel
theorem dL_acts_733 : decode cL_acts 733 = .ok (.goto 47, 3) := by decide +kernel
theorem dL_acts_736 : decode cL_acts 736 = .ok (.iconst 0, 1) := by decide +kernel
theorem dL_acts_737 : decode cL_acts 737 = .ok (.goto 43, 3) := by decide +kernel
theorem dL_acts_740 : decode cL_acts 740 = .ok (.iload 12, 2) := by decide +kernel
theorem dL_acts_742 : decode cL_acts 742 = .ok (.ifCond .lt 37, 3) := by decide +kernel
theorem dL_acts_745 : decode cL_acts 745 = .ok (.iload 12, 2) := by decide +kernel
theorem dL_acts_747 : decode cL_acts 747 = .ok (.ifCond .le 7, 3) := by decide +kernel
theorem dL_acts_750 : decode cL_acts 750 = .ok (.iconst 1, 1) := by decide +kernel
theorem dL_acts_751 : decode cL_acts 751 = .ok (.goto 4, 3) := by decide +kernel
theorem dL_acts_754 : decode cL_acts 754 = .ok (.iconst 0, 1) := by decide +kernel
theorem dL_acts_755 : decode cL_acts 755 = .ok (.aload_n 0, 1) := by decide +kernel
theorem dL_acts_756 : decode cL_acts 756 = .ok (.iload 11, 2) := by decide +kernel
theorem dL_acts_758 : decode cL_acts 758 = .ok (.bipush 6, 2) := by decide +kernel
theorem dL_acts_760 : decode cL_acts 760 = .ok (.invokevirtual 26, 3) := by decide +kernel
theorem dL_acts_763 : decode cL_acts 763 = .ok (.iconst 1, 1) := by decide +kernel
theorem dL_acts_764 : decode cL_acts 764 = .ok (.if_icmp .ne 7, 3) := by decide +kernel
theorem dL_acts_767 : decode cL_acts 767 = .ok (.iconst 1, 1) := by decide +kernel
theorem dL_acts_768 : decode cL_acts 768 = .ok (.goto 4, 3) := by decide +kernel
theorem dL_acts_771 : decode cL_acts 771 = .ok (.iconst 0, 1) := by decide +kernel
theorem dL_acts_772 : decode cL_acts 772 = .ok (.if_icmp .ne 7, 3) := by decide +kernel
theorem dL_acts_775 : decode cL_acts 775 = .ok (.iconst 1, 1) := by decide +kernel
theorem dL_acts_776 : decode cL_acts 776 = .ok (.goto 4, 3) := by decide +kernel
theorem dL_acts_779 : decode cL_acts 779 = .ok (.iconst 0, 1) := by decide +kernel
theorem dL_acts_780 : decode cL_acts 780 = .ok (.ireturn, 1) := by decide +kernel
theorem dL_acts_781 : decode cL_acts 781 = .ok (.iload_n 3, 1) := by decide +kernel
theorem dL_acts_782 : decode cL_acts 782 = .ok (.bipush 13, 2) := by decide +kernel
theorem dL_acts_784 : decode cL_acts 784 = .ok (.if_icmp .ne 94, 3) := by decide +kernel
theorem dL_acts_787 : decode cL_acts 787 = .ok (.iload 9, 2) := by decide +kernel
theorem dL_acts_789 : decode cL_acts 789 = .ok (.ifCond .eq 14, 3) := by decide +kernel
theorem dL_acts_792 : decode cL_acts 792 = .ok (.aload_n 0, 1) := by decide +kernel
theorem dL_acts_793 : decode cL_acts 793 = .ok (.iload 7, 2) := by decide +kernel
theorem dL_acts_795 : decode cL_acts 795 = .ok (.bipush 8, 2) := by decide +kernel
theorem dL_acts_797 : decode cL_acts 797 = .ok (.invokevirtual 19, 3) := by decide +kernel
theorem dL_acts_800 : decode cL_acts 800 = .ok (.goto 4, 3) := by decide +kernel
theorem dL_acts_803 : decode cL_acts 803 = .ok (.iconst 0, 1) := by decide +kernel
theorem dL_acts_804 : decode cL_acts 804 = .ok (.istore 11, 2) := by decide +kernel
theorem dL_acts_806 : decode cL_acts 806 = .ok (.iload 9, 2) := by decide +kernel
theorem dL_acts_808 : decode cL_acts 808 = .ok (.ifCond .eq 13, 3) := by decide +kernel
theorem dL_acts_811 : decode cL_acts 811 = .ok (.aload_n 0, 1) := by decide +kernel
theorem dL_acts_812 : decode cL_acts 812 = .ok (.iload 7, 2) := by decide +kernel
theorem dL_acts_814 : decode cL_acts 814 = .ok (.iconst 5, 1) := by decide +kernel
theorem dL_acts_815 : decode cL_acts 815 = .ok (.invokevirtual 19, 3) := by decide +kernel
theorem dL_acts_818 : decode cL_acts 818 = .ok (.goto 4, 3) := by decide +kernel
theorem dL_acts_821 : decode cL_acts 821 = .ok (.iconst 0, 1) := by decide +kernel
theorem dL_acts_822 : decode cL_acts 822 = .ok (.istore 12, 2) := by decide +kernel
theorem dL_acts_824 : decode cL_acts 824 = .ok (.aload_n 0, 1) := by decide +kernel
theorem dL_acts_825 : decode cL_acts 825 = .ok (.iload 7, 2) := by decide +kernel
theorem dL_acts_827 : decode cL_acts 827 = .ok (.invokevirtual 86, 3) := by decide +kernel
theorem dL_acts_830 : decode cL_acts 830 = .ok (.iload 8, 2) := by decide +kernel
theorem dL_acts_832 : decode cL_acts 832 = .ok (.ifCond .ne 8, 3) := by decide +kernel
theorem dL_acts_835 : decode cL_acts 835 = .ok (.ldc 65, 2) := by decide +kernel
theorem dL_acts_837 : decode cL_acts 837 = .ok (.goto 15, 3) := by decide +kernel
theorem dL_acts_840 : decode cL_acts 840 = .ok (.iload 9, 2) := by decide +kernel
theorem dL_acts_842 : decode cL_acts 842 = .ok (.ifCond .ne 8, 3) := by decide +kernel
theorem dL_acts_845 : decode cL_acts 845 = .ok (.ldc 64, 2) := by decide +kernel
theorem dL_acts_847 : decode cL_acts 847 = .ok (.goto 5, 3) := by decide +kernel
theorem dL_acts_850 : decode cL_acts 850 = .ok (.iload 11, 2) := by decide +kernel
theorem dL_acts_852 : decode cL_acts 852 = .ok (.if_icmp .ne 24, 3) := by decide +kernel
theorem dL_acts_855 : decode cL_acts 855 = .ok (.iload 9, 2) := by decide +kernel
theorem dL_acts_857 : decode cL_acts 857 = .ok (.ifCond .eq 15, 3) := by decide +kernel
theorem dL_acts_860 : decode cL_acts 860 = .ok (.aload_n 0, 1) := by decide +kernel
theorem dL_acts_861 : decode cL_acts 861 = .ok (.iload 7, 2) := by decide +kernel
theorem dL_acts_863 : decode cL_acts 863 = .ok (.iconst 4, 1) := by decide +kernel
theorem dL_acts_864 : decode cL_acts 864 = .ok (.invokevirtual 19, 3) := by decide +kernel
theorem dL_acts_867 : decode cL_acts 867 = .ok (.iload 12, 2) := by decide +kernel
theorem dL_acts_869 : decode cL_acts 869 = .ok (.if_icmp .ne 7, 3) := by decide +kernel
theorem dL_acts_872 : decode cL_acts 872 = .ok (.iconst 1, 1) := by decide +kernel
theorem dL_acts_873 : decode cL_acts 873 = .ok (.goto 4, 3) := by decide +kernel
theorem dL_acts_876 : decode cL_acts 876 = .ok (.iconst 0, 1) := by decide +kernel
theorem dL_acts_877 : decode cL_acts 877 = .ok (.ireturn, 1) := by decide +kernel
theorem dL_acts_878 : decode cL_acts 878 = .ok (.iload_n 3, 1) := by decide +kernel
theorem dL_acts_879 : decode cL_acts 879 = .ok (.bipush 14, 2) := by decide +kernel
theorem dL_acts_881 : decode cL_acts 881 = .ok (.if_icmp .ne 111, 3) := by decide +kernel
theorem dL_acts_884 : decode cL_acts 884 = .ok (.iload_n 2, 1) := by decide +kernel
theorem dL_acts_885 : decode cL_acts 885 = .ok (.sipush 10001, 3) := by decide +kernel
theorem dL_acts_888 : decode cL_acts 888 = .ok (.invokestatic 33, 3) := by decide +kernel
theorem dL_acts_891 : decode cL_acts 891 = .ok (.istore 11, 2) := by decide +kernel
theorem dL_acts_893 : decode cL_acts 893 = .ok (.iload 8, 2) := by decide +kernel
theorem dL_acts_895 : decode cL_acts 895 = .ok (.ifCond .eq 23, 3) := by decide +kernel
theorem dL_acts_898 : decode cL_acts 898 = .ok (.iload 10, 2) := by decide +kernel
theorem dL_acts_900 : decode cL_acts 900 = .ok (.ifCond .ne 18, 3) := by decide +kernel
theorem dL_acts_903 : decode cL_acts 903 = .ok (.aload_n 0, 1) := by decide +kernel
theorem dL_acts_904 : decode cL_acts 904 = .ok (.aload_n 0, 1) := by decide +kernel
theorem dL_acts_905 : decode cL_acts 905 = .ok (.iload 7, 2) := by decide +kernel
theorem dL_acts_907 : decode cL_acts 907 = .ok (.iconst 4, 1) := by decide +kernel
theorem dL_acts_908 : decode cL_acts 908 = .ok (.invokevirtual 19, 3) := by decide +kernel
theorem dL_acts_911 : decode cL_acts 911 = .ok (.iconst 0, 1) := by decide +kernel
theorem dL_acts_912 : decode cL_acts 912 = .ok (.invokevirtual 23, 3) := by decide +kernel
theorem dL_acts_915 : decode cL_acts 915 = .ok (.goto 4, 3) := by decide +kernel
theorem dL_acts_918 : decode cL_acts 918 = .ok (.iconst 0, 1) := by decide +kernel
theorem dL_acts_919 : decode cL_acts 919 = .ok (.istore 12, 2) := by decide +kernel
theorem dL_acts_921 : decode cL_acts 921 = .ok (.iload_n 2, 1) := by decide +kernel
theorem dL_acts_922 : decode cL_acts 922 = .ok (.bipush 15, 2) := by decide +kernel
theorem dL_acts_924 : decode cL_acts 924 = .ok (.ishr, 1) := by decide +kernel
theorem dL_acts_925 : decode cL_acts 925 = .ok (.iconst 3, 1) := by decide +kernel
theorem dL_acts_926 : decode cL_acts 926 = .ok (.invokestatic 33, 3) := by decide +kernel
theorem dL_acts_929 : decode cL_acts 929 = .ok (.ifCond .gt 57, 3) := by decide +kernel
theorem dL_acts_932 : decode cL_acts 932 = .ok (.aload_n 0, 1) := by decide +kernel
theorem dL_acts_933 : decode cL_acts 933 = .ok (.iload 7, 2) := by decide +kernel
theorem dL_acts_935 : decode cL_acts 935 = .ok (.iload 11, 2) := by decide +kernel
theorem dL_acts_937 : decode cL_acts 937 = .ok (.invokevirtual 89, 3) := by decide +kernel
theorem dL_acts_940 : decode cL_acts 940 = .ok (.iload 8, 2) := by decide +kernel
theorem dL_acts_942 : decode cL_acts 942 = .ok (.ifCond .eq 16, 3) := by decide +kernel
theorem dL_acts_945 : decode cL_acts 945 = .ok (.iload 11, 2) := by decide +kernel
theorem dL_acts_947 : decode cL_acts 947 = .ok (.ifCond .eq 11, 3) := by decide +kernel
theorem dL_acts_950 : decode cL_acts 950 = .ok (.iload 11, 2) := by decide +kernel
theorem dL_acts_952 : decode cL_acts 952 = .ok (.sipush 10000, 3) := by decide +kernel
theorem dL_acts_955 : decode cL_acts 955 = .ok (.if_icmp .ne 8, 3) := by decide +kernel
theorem dL_acts_958 : decode cL_acts 958 = .ok (.ldc 65, 2) := by decide +kernel
theorem dL_acts_960 : decode cL_acts 960 = .ok (.goto 23, 3) := by decide +kernel
theorem dL_acts_963 : decode cL_acts 963 = .ok (.iload 9, 2) := by decide +kernel
theorem dL_acts_965 : decode cL_acts 965 = .ok (.ifCond .ne 8, 3) := by decide +kernel
theorem dL_acts_968 : decode cL_acts 968 = .ok (.iload 10, 2) := by decide +kernel
theorem dL_acts_970 : decode cL_acts 970 = .ok (.ifCond .eq 8, 3) := by decide +kernel
theorem dL_acts_973 : decode cL_acts 973 = .ok (.ldc 64, 2) := by decide +kernel
theorem dL_acts_975 : decode cL_acts 975 = .ok (.goto 8, 3) := by decide +kernel
theorem dL_acts_978 : decode cL_acts 978 = .ok (.iload 12, 2) := by decide +kernel
theorem dL_acts_980 : decode cL_acts 980 = .ok (.iload 11, 2) := by decide +kernel
theorem dL_acts_982 : decode cL_acts 982 = .ok (.iadd, 1) := by decide +kernel
theorem dL_acts_983 : decode cL_acts 983 = .ok (.if_icmp .ne 7, 3) := by decide +kernel
theorem dL_acts_986 : decode cL_acts 986 = .ok (.iconst 1, 1) := by decide +kernel
theorem dL_acts_987 : decode cL_acts 987 = .ok (.goto 4, 3) := by decide +kernel
theorem dL_acts_990 : decode cL_acts 990 = .ok (.iconst 0, 1) := by decide +kernel
theorem dL_acts_991 : decode cL_acts 991 = .ok (.ireturn, 1) := by decide +kernel
theorem dL_acts_992 : decode cL_acts 992 = .ok (.iload_n 3, 1) := by decide +kernel
theorem dL_acts_993 : decode cL_acts 993 = .ok (.bipush 15, 2) := by decide +kernel
theorem dL_acts_995 : decode cL_acts 995 = .ok (.if_icmp .ne 94, 3) := by decide +kernel
theorem dL_acts_998 : decode cL_acts 998 = .ok (.iload_n 2, 1) := by decide +kernel
theorem dL_acts_999 : decode cL_acts 999 = .ok (.bipush 11, 2) := by decide +kernel
theorem dL_acts_1001 : decode cL_acts 1001 = .ok (.invokestatic 33, 3) := by decide +kernel
theorem dL_acts_1004 : decode cL_acts 1004 = .ok (.istore 11, 2) := by decide +kernel
theorem dL_acts_1006 : decode cL_acts 1006 = .ok (.iload 8, 2) := by decide +kernel
theorem dL_acts_1008 : decode cL_acts 1008 = .ok (.ifCond .eq 24, 3) := by decide +kernel
theorem dL_acts_1011 : decode cL_acts 1011 = .ok (.bipush 10, 2) := by decide +kernel
theorem dL_acts_1013 : decode cL_acts 1013 = .ok (.aload_n 0, 1) := by decide +kernel
theorem dL_acts_1014 : decode cL_acts 1014 = .ok (.iload 7, 2) := by decide +kernel
theorem dL_acts_1016 : decode cL_acts 1016 = .ok (.iconst 1, 1) := by decide +kernel
theorem dL_acts_1017 : decode cL_acts 1017 = .ok (.invokevirtual 19, 3) := by decide +kernel
theorem dL_acts_1020 : decode cL_acts 1020 = .ok (.imul, 1) := by decide +kernel
theorem dL_acts_1021 : decode cL_acts 1021 = .ok (.aload_n 0, 1) := by decide +kernel
theorem dL_acts_1022 : decode cL_acts 1022 = .ok (.iload 7, 2) := by decide +kernel
theorem dL_acts_1024 : decode cL_acts 1024 = .ok (.iconst 2, 1) := by decide +kernel
theorem dL_acts_1025 : decode cL_acts 1025 = .ok (.invokevirtual 19, 3) := by decide +kernel
theorem dL_acts_1028 : decode cL_acts 1028 = .ok (.iadd, 1) := by decide +kernel
theorem dL_acts_1029 : decode cL_acts 1029 = .ok (.goto 4, 3) := by decide +kernel
theorem dL_acts_1032 : decode cL_acts 1032 = .ok (.iconst 0, 1) := by decide +kernel
theorem dL_acts_1033 : decode cL_acts 1033 = .ok (.istore 12, 2) := by decide +kernel
theorem dL_acts_1035 : decode cL_acts 1035 = .ok (.aload_n 0, 1) := by decide +kernel
theorem dL_acts_1036 : decode cL_acts 1036 = .ok (.iload 7, 2) := by decide +kernel
theorem dL_acts_1038 : decode cL_acts 1038 = .ok (.iload 11, 2) := by decide +kernel
theorem dL_acts_1040 : decode cL_acts 1040 = .ok (.iload_n 2, 1) := by decide +kernel
theorem dL_acts_1041 : decode cL_acts 1041 = .ok (.iconst 4, 1) := by decide +kernel
theorem dL_acts_1042 : decode cL_acts 1042 = .ok (.ishr, 1) := by decide +kernel
theorem dL_acts_1043 : decode cL_acts 1043 = .ok (.bipush 8, 2) := by decide +kernel
theorem dL_acts_1045 : decode cL_acts 1045 = .ok (.invokestatic 33, 3) := by decide +kernel
theorem dL_acts_1048 : decode cL_acts 1048 = .ok (.invokevirtual 92, 3) := by decide +kernel
theorem dL_acts_1051 : decode cL_acts 1051 = .ok (.iload 8, 2) := by decide +kernel
theorem dL_acts_1053 : decode cL_acts 1053 = .ok (.ifCond .eq 10, 3) := by decide +kernel
theorem dL_acts_1056 : decode cL_acts 1056 = .ok (.iload 11, 2) := by decide +kernel
theorem dL_acts_1058 : decode cL_acts 1058 = .ok (.bipush 10, 2) := by decide +kernel
theorem dL_acts_1060 : decode cL_acts 1060 = .ok (.if_icmp .ne 8, 3) := by decide +kernel
theorem dL_acts_1063 : decode cL_acts 1063 = .ok (.ldc 65, 2) := by decide +kernel
theorem dL_acts_1065 : decode cL_acts 1065 = .ok (.goto 15, 3) := by decide +kernel
theorem dL_acts_1068 : decode cL_acts 1068 = .ok (.iload 10, 2) := by decide +kernel
theorem dL_acts_1070 : decode cL_acts 1070 = .ok (.ifCond .eq 8, 3) := by decide +kernel
theorem dL_acts_1073 : decode cL_acts 1073 = .ok (.ldc 64, 2) := by decide +kernel
theorem dL_acts_1075 : decode cL_acts 1075 = .ok (.goto 5, 3) := by decide +kernel
theorem dL_acts_1078 : decode cL_acts 1078 = .ok (.iload 12, 2) := by decide +kernel
theorem dL_acts_1080 : decode cL_acts 1080 = .ok (.if_icmp .ne 7, 3) := by decide +kernel
theorem dL_acts_1083 : decode cL_acts 1083 = .ok (.iconst 1, 1) := by decide +kernel
theorem dL_acts_1084 : decode cL_acts 1084 = .ok (.goto 4, 3) := by decide +kernel
theorem dL_acts_1087 : decode cL_acts 1087 = .ok (.iconst 0, 1) := by decide +kernel
theorem dL_acts_1088 : decode cL_acts 1088 = .ok (.ireturn, 1) := by decide +kernel
theorem dL_acts_1089 : decode cL_acts 1089 = .ok (.iload_n 3, 1) := by decide +kernel
theorem dL_acts_1090 : decode cL_acts 1090 = .ok (.bipush 16, 2) := by decide +kernel
theorem dL_acts_1092 : decode cL_acts 1092 = .ok (.if_icmp .ne 128, 3) := by decide +kernel
theorem dL_acts_1095 : decode cL_acts 1095 = .ok (.iload_n 2, 1) := by decide +kernel
theorem dL_acts_1096 : decode cL_acts 1096 = .ok (.iconst 4, 1) := by decide +kernel
theorem dL_acts_1097 : decode cL_acts 1097 = .ok (.invokestatic 33, 3) := by decide +kernel
theorem dL_acts_1100 : decode cL_acts 1100 = .ok (.ifCond .ne 14, 3) := by decide +kernel
theorem dL_acts_1103 : decode cL_acts 1103 = .ok (.iload_n 2, 1) := by decide +kernel
theorem dL_acts_1104 : decode cL_acts 1104 = .ok (.iconst 2, 1) := by decide +kernel
theorem dL_acts_1105 : decode cL_acts 1105 = .ok (.ishr, 1) := by decide +kernel
theorem dL_acts_1106 : decode cL_acts 1106 = .ok (.bipush 101, 2) := by decide +kernel
theorem dL_acts_1108 : decode cL_acts 1108 = .ok (.invokestatic 33, 3) := by decide +kernel
theorem dL_acts_1111 : decode cL_acts 1111 = .ok (.goto 13, 3) := by decide +kernel
theorem dL_acts_1114 : decode cL_acts 1114 = .ok (.iconst 1, 1) := by decide +kernel
theorem dL_acts_1115 : decode cL_acts 1115 = .ok (.iload_n 2, 1) := by decide +kernel
theorem dL_acts_1116 : decode cL_acts 1116 = .ok (.iconst 2, 1) := by decide +kernel
theorem dL_acts_1117 : decode cL_acts 1117 = .ok (.ishr, 1) := by decide +kernel
theorem dL_acts_1118 : decode cL_acts 1118 = .ok (.bipush 6, 2) := by decide +kernel
theorem dL_acts_1120 : decode cL_acts 1120 = .ok (.invokestatic 33, 3) := by decide +kernel
theorem dL_acts_1123 : decode cL_acts 1123 = .ok (.iadd, 1) := by decide +kernel
theorem dL_acts_1124 : decode cL_acts 1124 = .ok (.istore 11, 2) := by decide +kernel
theorem dL_acts_1126 : decode cL_acts 1126 = .ok (.aload_n 0, 1) := by decide +kernel
theorem dL_acts_1127 : decode cL_acts 1127 = .ok (.bipush 7, 2) := by decide +kernel
theorem dL_acts_1129 : decode cL_acts 1129 = .ok (.invokevirtual 13, 3) := by decide +kernel
theorem dL_acts_1132 : decode cL_acts 1132 = .ok (.istore 12, 2) := by decide +kernel
theorem dL_acts_1134 : decode cL_acts 1134 = .ok (.aload_n 0, 1) := by decide +kernel
theorem dL_acts_1135 : decode cL_acts 1135 = .ok (.iload 11, 2) := by decide +kernel
theorem dL_acts_1137 : decode cL_acts 1137 = .ok (.invokevirtual 95, 3) := by decide +kernel
theorem dL_acts_1140 : decode cL_acts 1140 = .ok (.istore 13, 2) := by decide +kernel
theorem dL_acts_1142 : decode cL_acts 1142 = .ok (.iload 11, 2) := by decide +kernel
theorem dL_acts_1144 : decode cL_acts 1144 = .ok (.ifCond .eq 10, 3) := by decide +kernel
theorem dL_acts_1147 : decode cL_acts 1147 = .ok (.iload 11, 2) := by decide +kernel
theorem dL_acts_1149 : decode cL_acts 1149 = .ok (.bipush 100, 2) := by decide +kernel
theorem dL_acts_1151 : decode cL_acts 1151 = .ok (.if_icmp .ne 18, 3) := by decide +kernel
theorem dL_acts_1154 : decode cL_acts 1154 = .ok (.iload 13, 2) := by decide +kernel
theorem dL_acts_1156 : decode cL_acts 1156 = .ok (.ldc 65, 2) := by decide +kernel
theorem dL_acts_1158 : decode cL_acts 1158 = .ok (.if_icmp .ne 7, 3) := by decide +kernel
theorem dL_acts_1161 : decode cL_acts 1161 = .ok (.iconst 1, 1) := by decide +kernel
theorem dL_acts_1162 : decode cL_acts 1162 = .ok (.goto 57, 3) := by decide +kernel
theorem dL_acts_1165 : decode cL_acts 1165 = .ok (.iconst 0, 1) := by decide +kernel
theorem dL_acts_1166 : decode cL_acts 1166 = .ok (.goto 53, 3) := by decide +kernel
theorem dL_acts_1169 : decode cL_acts 1169 = .ok (.iload 13, 2) := by decide +kernel
theorem dL_acts_1171 : decode cL_acts 1171 = .ok (.ldc 69, 2) := by decide +kernel
theorem dL_acts_1173 : decode cL_acts 1173 = .ok (.if_icmp .ne 22, 3) := by decide +kernel
theorem dL_acts_1176 : decode cL_acts 1176 = .ok (.iload 12, 2) := by decide +kernel
theorem dL_acts_1178 : decode cL_acts 1178 = .ok (.iload 11, 2) := by decide +kernel
theorem dL_acts_1180 : decode cL_acts 1180 = .ok (.iadd, 1) := by decide +kernel
theorem dL_acts_1181 : decode cL_acts 1181 = .ok (.sipush 2000, 3) := by decide +kernel
theorem dL_acts_1184 : decode cL_acts 1184 = .ok (.if_icmp .le 7, 3) := by decide +kernel
theorem dL_acts_1187 : decode cL_acts 1187 = .ok (.iconst 1, 1) := by decide +kernel
theorem dL_acts_1188 : decode cL_acts 1188 = .ok (.goto 31, 3) := by decide +kernel
theorem dL_acts_1191 : decode cL_acts 1191 = .ok (.iconst 0, 1) := by decide +kernel
theorem dL_acts_1192 : decode cL_acts 1192 = .ok (.goto 27, 3) := by decide +kernel
theorem dL_acts_1195 : decode cL_acts 1195 = .ok (.iload 13, 2) := by decide +kernel
theorem dL_acts_1197 : decode cL_acts 1197 = .ok (.ifCond .lt 21, 3) := by decide +kernel
theorem dL_acts_1200 : decode cL_acts 1200 = .ok (.aload_n 0, 1) := by decide +kernel
theorem dL_acts_1201 : decode cL_acts 1201 = .ok (.bipush 7, 2) := by decide +kernel
theorem dL_acts_1203 : decode cL_acts 1203 = .ok (.invokevirtual 13, 3) := by decide +kernel
theorem dL_acts_1206 : decode cL_acts 1206 = .ok (.iload 12, 2) := by decide +kernel
theorem dL_acts_1208 : decode cL_acts 1208 = .ok (.iload 11, 2) := by decide +kernel
theorem dL_acts_1210 : decode cL_acts 1210 = .ok (.iadd, 1) := by decide +kernel
theorem dL_acts_1211 : decode cL_acts 1211 = .ok (.if_icmp .ne 7, 3) := by decide +kernel
theorem dL_acts_1214 : decode cL_acts 1214 = .ok (.iconst 1, 1) := by decide +kernel
theorem dL_acts_1215 : decode cL_acts 1215 = .ok (.goto 4, 3) := by decide +kernel
theorem dL_acts_1218 : decode cL_acts 1218 = .ok (.iconst 0, 1) := by decide +kernel
theorem dL_acts_1219 : decode cL_acts 1219 = .ok (.ireturn, 1) := by decide +kernel
theorem dL_acts_1220 : decode cL_acts 1220 = .ok (.iload_n 3, 1) := by decide +kernel
theorem dL_acts_1221 : decode cL_acts 1221 = .ok (.bipush 17, 2) := by decide +kernel
theorem dL_acts_1223 : decode cL_acts 1223 = .ok (.if_icmp .ne 83, 3) := by decide +kernel
theorem dL_acts_1226 : decode cL_acts 1226 = .ok (.iload_n 2, 1) := by decide +kernel
theorem dL_acts_1227 : decode cL_acts 1227 = .ok (.iconst 3, 1) := by decide +kernel
theorem dL_acts_1228 : decode cL_acts 1228 = .ok (.invokestatic 33, 3) := by decide +kernel
theorem dL_acts_1231 : decode cL_acts 1231 = .ok (.istore 11, 2) := by decide +kernel
theorem dL_acts_1233 : decode cL_acts 1233 = .ok (.iload_n 2, 1) := by decide +kernel
theorem dL_acts_1234 : decode cL_acts 1234 = .ok (.iconst 2, 1) := by decide +kernel
theorem dL_acts_1235 : decode cL_acts 1235 = .ok (.ishr, 1) := by decide +kernel
theorem dL_acts_1236 : decode cL_acts 1236 = .ok (.bipush 40, 2) := by decide +kernel
theorem dL_acts_1238 : decode cL_acts 1238 = .ok (.invokestatic 33, 3) := by decide +kernel
theorem dL_acts_1241 : decode cL_acts 1241 = .ok (.istore 12, 2) := by decide +kernel
theorem dL_acts_1243 : decode cL_acts 1243 = .ok (.iload 11, 2) := by decide +kernel
theorem dL_acts_1245 : decode cL_acts 1245 = .ok (.iconst 2, 1) := by decide +kernel
theorem dL_acts_1246 : decode cL_acts 1246 = .ok (.if_icmp .ne 7, 3) := by decide +kernel
theorem dL_acts_1249 : decode cL_acts 1249 = .ok (.iconst 0, 1) := by decide +kernel
theorem dL_acts_1250 : decode cL_acts 1250 = .ok (.goto 12, 3) := by decide +kernel
theorem dL_acts_1253 : decode cL_acts 1253 = .ok (.aload_n 0, 1) := by decide +kernel
theorem dL_acts_1254 : decode cL_acts 1254 = .ok (.bipush 14, 2) := by decide +kernel
theorem dL_acts_1256 : decode cL_acts 1256 = .ok (.iload 11, 2) := by decide +kernel
theorem dL_acts_1258 : decode cL_acts 1258 = .ok (.iadd, 1) := by decide +kernel
theorem dL_acts_1259 : decode cL_acts 1259 = .ok (.invokevirtual 13, 3) := by decide +kernel
theorem dL_acts_1262 : decode cL_acts 1262 = .ok (.istore 13, 2) := by decide +kernel
theorem dL_acts_1264 : decode cL_acts 1264 = .ok (.aload_n 0, 1) := by decide +kernel
theorem dL_acts_1265 : decode cL_acts 1265 = .ok (.iload 11, 2) := by decide +kernel
theorem dL_acts_1267 : decode cL_acts 1267 = .ok (.iload 12, 2) := by decide +kernel
theorem dL_acts_1269 : decode cL_acts 1269 = .ok (.invokevirtual 98, 3) := by decide +kernel
theorem dL_acts_1272 : decode cL_acts 1272 = .ok (.iload 11, 2) := by decide +kernel
theorem dL_acts_1274 : decode cL_acts 1274 = .ok (.iconst 2, 1) := by decide +kernel
theorem dL_acts_1275 : decode cL_acts 1275 = .ok (.if_icmp .eq 15, 3) := by decide +kernel
theorem dL_acts_1278 : decode cL_acts 1278 = .ok (.iload 11, 2) := by decide +kernel
theorem dL_acts_1280 : decode cL_acts 1280 = .ok (.ifCond .ne 15, 3) := by decide +kernel
theorem dL_acts_1283 : decode cL_acts 1283 = .ok (.iload 12, 2) := by decide +kernel
theorem dL_acts_1285 : decode cL_acts 1285 = .ok (.bipush 30, 2) := by decide +kernel
theorem dL_acts_1287 : decode cL_acts 1287 = .ok (.if_icmp .le 8, 3) := by decide +kernel
theorem dL_acts_1290 : decode cL_acts 1290 = .ok (.ldc 65, 2) := by decide +kernel
theorem dL_acts_1292 : decode cL_acts 1292 = .ok (.goto 5, 3) := by decide +kernel
theorem dL_acts_1295 : decode cL_acts 1295 = .ok (.iload 13, 2) := by decide +kernel
theorem dL_acts_1297 : decode cL_acts 1297 = .ok (.if_icmp .ne 7, 3) := by decide +kernel
theorem dL_acts_1300 : decode cL_acts 1300 = .ok (.iconst 1, 1) := by decide +kernel
theorem dL_acts_1301 : decode cL_acts 1301 = .ok (.goto 4, 3) := by decide +kernel
theorem dL_acts_1304 : decode cL_acts 1304 = .ok (.iconst 0, 1) := by decide +kernel
theorem dL_acts_1305 : decode cL_acts 1305 = .ok (.ireturn, 1) := by decide +kernel
theorem dL_acts_1306 : decode cL_acts 1306 = .ok (.iload_n 3, 1) := by decide +kernel
theorem dL_acts_1307 : decode cL_acts 1307 = .ok (.bipush 18, 2) := by decide +kernel
theorem dL_acts_1309 : decode cL_acts 1309 = .ok (.if_icmp .ne 70, 3) := by decide +kernel
theorem dL_acts_1312 : decode cL_acts 1312 = .ok (.aload_n 0, 1) := by decide +kernel
theorem dL_acts_1313 : decode cL_acts 1313 = .ok (.bipush 13, 2) := by decide +kernel
theorem dL_acts_1315 : decode cL_acts 1315 = .ok (.invokevirtual 13, 3) := by decide +kernel
theorem dL_acts_1318 : decode cL_acts 1318 = .ok (.iconst 1, 1) := by decide +kernel
theorem dL_acts_1319 : decode cL_acts 1319 = .ok (.if_icmp .ne 7, 3) := by decide +kernel
theorem dL_acts_1322 : decode cL_acts 1322 = .ok (.iconst 1, 1) := by decide +kernel
theorem dL_acts_1323 : decode cL_acts 1323 = .ok (.goto 4, 3) := by decide +kernel
theorem dL_acts_1326 : decode cL_acts 1326 = .ok (.iconst 0, 1) := by decide +kernel
theorem dL_acts_1327 : decode cL_acts 1327 = .ok (.istore 11, 2) := by decide +kernel
theorem dL_acts_1329 : decode cL_acts 1329 = .ok (.iload_n 2, 1) := by decide +kernel
theorem dL_acts_1330 : decode cL_acts 1330 = .ok (.iconst 2, 1) := by decide +kernel
theorem dL_acts_1331 : decode cL_acts 1331 = .ok (.invokestatic 33, 3) := by decide +kernel
theorem dL_acts_1334 : decode cL_acts 1334 = .ok (.ifCond .ne 10, 3) := by decide +kernel
theorem dL_acts_1337 : decode cL_acts 1337 = .ok (.aload_n 0, 1) := by decide +kernel
theorem dL_acts_1338 : decode cL_acts 1338 = .ok (.invokevirtual 101, 3) := by decide +kernel
theorem dL_acts_1341 : decode cL_acts 1341 = .ok (.goto 7, 3) := by decide +kernel
theorem dL_acts_1344 : decode cL_acts 1344 = .ok (.aload_n 0, 1) := by decide +kernel
theorem dL_acts_1345 : decode cL_acts 1345 = .ok (.invokevirtual 104, 3) := by decide +kernel
theorem dL_acts_1348 : decode cL_acts 1348 = .ok (.istore 12, 2) := by decide +kernel
theorem dL_acts_1350 : decode cL_acts 1350 = .ok (.iload 12, 2) := by decide +kernel
theorem dL_acts_1352 : decode cL_acts 1352 = .ok (.aload_n 0, 1) := by decide +kernel
theorem dL_acts_1353 : decode cL_acts 1353 = .ok (.bipush 7, 2) := by decide +kernel
theorem dL_acts_1355 : decode cL_acts 1355 = .ok (.invokevirtual 13, 3) := by decide +kernel
theorem dL_acts_1358 : decode cL_acts 1358 = .ok (.if_icmp .eq 15, 3) := by decide +kernel
theorem dL_acts_1361 : decode cL_acts 1361 = .ok (.iload 11, 2) := by decide +kernel
theorem dL_acts_1363 : decode cL_acts 1363 = .ok (.ifCond .ne 14, 3) := by decide +kernel
theorem dL_acts_1366 : decode cL_acts 1366 = .ok (.iload 12, 2) := by decide +kernel
theorem dL_acts_1368 : decode cL_acts 1368 = .ok (.ldc 64, 2) := by decide +kernel
theorem dL_acts_1370 : decode cL_acts 1370 = .ok (.if_icmp .ne 7, 3) := by decide +kernel
theorem dL_acts_1373 : decode cL_acts 1373 = .ok (.iconst 1, 1) := by decide +kernel
theorem dL_acts_1374 : decode cL_acts 1374 = .ok (.goto 4, 3) := by decide +kernel
theorem dL_acts_1377 : decode cL_acts 1377 = .ok (.iconst 0, 1) := by decide +kernel
theorem dL_acts_1378 : decode cL_acts 1378 = .ok (.ireturn, 1) := by decide +kernel
theorem dL_acts_1379 : decode cL_acts 1379 = .ok (.aload_n 0, 1) := by decide +kernel
theorem dL_acts_1380 : decode cL_acts 1380 = .ok (.iload_n 2, 1) := by decide +kernel
theorem dL_acts_1381 : decode cL_acts 1381 = .ok (.invokestatic 107, 3) := by decide +kernel
theorem dL_acts_1384 : decode cL_acts 1384 = .ok (.ifCond .eq 14, 3) := by decide +kernel
theorem dL_acts_1387 : decode cL_acts 1387 = .ok (.aload_n 0, 1) := by decide +kernel
theorem dL_acts_1388 : decode cL_acts 1388 = .ok (.invokestatic 110, 3) := by decide +kernel
theorem dL_acts_1391 : decode cL_acts 1391 = .ok (.ifCond .eq 7, 3) := by decide +kernel
theorem dL_acts_1394 : decode cL_acts 1394 = .ok (.iconst 1, 1) := by decide +kernel
theorem dL_acts_1395 : decode cL_acts 1395 = .ok (.goto 4, 3) := by decide +kernel
theorem dL_acts_1398 : decode cL_acts 1398 = .ok (.iconst 0, 1) := by decide +kernel
end
section
theorem dL_acts_1399 : decode cL_acts 1399 = .ok (.ireturn, 1) := by decide +kernel
set_option maxRecDepth 20000 in
theorem ggL_law_X6_init : GoodIn wsL_law wsX6_init := goodIn_r _ [6, 7, 8, 9, 10, 11, 12, 13, 14, 15, 16, 17, 18, 19, 20, 21, 22, 23, 24, 25, 26, 27, 28, 29, 30, 31, 32, 33, 34, 35, 36, 37, 38, 39, 40, 41, 42, 43, 44, 45, 46, 47, 48, 49, 50, 51, 52, 53, 54, 55, 56, 57, 58, 59, 60, 61, 62, 63, 64, 65, 66, 67, 68, 69, 70, 71, 72, 73, 74, 75, 76, 77, 78, 79, 80, 81, 82, 83, 84, 85, 86, 87, 88, 89, 90, 91, 92, 93, 94, 95, 96, 605, 606, 607, 608, 609, 610, 611, 612, 613, 598, 599, 600, 601, 602, 603, 604, 614, 615, 616, 617, 618, 619, 620, 621, 622, 623, 624, 625, 626, 627, 628, 629, 630, 631, 632, 633, 634, 635, 636, 637, 638, 639, 640, 641, 642, 643, 644] (by decide +kernel) (by decide +kernel)
set_option maxRecDepth 20000 in
theorem gL_law_X6_init : GoodIn wsL_law (wsX6_init) := ggL_law_X6_init
set_option maxRecDepth 20000 in
theorem ggL_law_L_holds : GoodIn wsL_law wsL_holds := goodIn_r _ [100, 101, 102, 103, 104, 2, 105, 106, 13, 107, 108, 109, 110, 111, 112, 113, 114, 115, 116, 31, 117, 54, 118, 119, 120, 121, 51, 52, 53, 122, 123, 124, 125, 126, 127, 128, 129, 20, 24, 25, 130, 131, 132, 12, 133, 43, 36, 40, 32, 44, 134, 47, 45, 46, 135, 136, 137, 138, 35, 139, 58, 140, 141, 142, 143, 66, 144, 145, 146, 147, 148, 149, 150, 151, 64, 152, 153, 154, 155, 156, 157, 158, 159, 160, 161, 162, 163, 164, 165, 166, 167, 168, 169, 170, 171, 42, 172, 173, 174, 175, 176, 177, 178, 179, 180, 181, 182, 39, 183, 71, 184, 185, 186, 187, 188, 189, 190, 191, 192, 193, 194, 195, 196, 197, 198, 199, 200, 201, 202, 203, 204, 205, 206, 207, 208, 59, 209, 210, 211, 212, 213, 214, 215, 216, 217, 99, 218, 219, 220, 221, 222, 223, 224, 225, 226, 227, 228, 229, 230, 231, 63, 232, 233, 234, 235, 236, 237, 238, 239, 60, 61, 240, 598, 599, 600, 601, 602, 603, 604, 605, 606, 607, 608, 609, 610, 611, 612, 613, 625, 626, 627, 628, 614, 615, 616, 617, 618, 619, 620, 621, 622, 623, 624, 629, 630, 631, 632, 633, 634, 635, 636, 637, 638, 639, 640, 641, 642, 643, 644] (by decide +kernel) (by decide +kernel)
set_option maxRecDepth 20000 in
theorem gL_law_L_holds : GoodIn wsL_law (va_wsS RL 115 yL_holds wsL_holds) := goodIn_app (goodIn_of _ (by decide +kernel)) ggL_law_L_holds
set_option maxRecDepth 20000 in
theorem ggL_law_X6_undo : GoodIn wsL_law wsX6_undo := goodIn_r _ [244, 20, 245, 13, 246, 247, 248, 19, 249, 84, 82, 83, 250, 251, 252, 253, 254, 255, 256, 12, 257, 32, 36, 40, 42, 258, 259, 260, 261, 43, 44, 45, 46, 47, 262, 263, 264, 31, 265, 51, 266, 52, 53, 54, 267, 268, 269, 35, 270, 58, 59, 271, 60, 61, 62, 63, 64, 65, 66, 67, 272, 273, 274, 39, 275, 71, 72, 276, 73, 74, 75, 76, 598, 599, 600, 601, 602, 603, 604, 614, 615, 616, 605, 606, 607, 608, 609, 610, 611, 612, 613, 625, 626, 627, 628, 629, 630, 631, 632, 633, 634, 635, 636, 637, 638, 639, 640, 641, 642, 643, 644] (by decide +kernel) (by decide +kernel)
set_option maxRecDepth 20000 in
theorem gL_law_X6_undo : GoodIn wsL_law (wsV RL 118 RX6 yX6_undo wsX6_undo) := goodIn_app (goodIn_of _ (by decide +kernel)) ggL_law_X6_undo
set_option maxRecDepth 20000 in
theorem ggL_law_X6_dealer : GoodIn wsL_law wsX6_dealer := goodIn_r _ [280, 14, 13, 281, 255, 256, 12, 257, 32, 36, 40, 42, 258, 259, 260, 261, 43, 44, 45, 46, 47, 262, 263, 264, 31, 265, 51, 266, 52, 53, 54, 267, 268, 269, 35, 270, 58, 59, 271, 60, 61, 62, 63, 64, 65, 66, 67, 272, 273, 274, 39, 275, 71, 72, 276, 73, 74, 75, 76, 282, 283, 284, 285, 286, 287, 288, 289, 2, 290, 20, 291, 292, 293, 19, 294, 84, 83, 82, 250, 251, 252, 253, 254, 598, 599, 600, 601, 602, 603, 604, 605, 606, 607, 608, 609, 610, 611, 612, 613, 625, 626, 627, 628, 629, 630, 631, 632, 633, 634, 635, 636, 637, 638, 639, 640, 641, 642, 643, 644, 614, 615, 616] (by decide +kernel) (by decide +kernel)
set_option maxRecDepth 20000 in
theorem gL_law_X6_dealer : GoodIn wsL_law (wsV RL 70 RX6 yX6_dealer wsX6_dealer) := goodIn_app (goodIn_of _ (by decide +kernel)) ggL_law_X6_dealer
end
section
set_option maxRecDepth 20000 in
theorem ggL_law_X6_stone : GoodIn wsL_law wsX6_stone := goodIn_r _ [298, 14, 13, 281, 255, 256, 12, 257, 32, 36, 40, 42, 258, 259, 260, 261, 43, 44, 45, 46, 47, 262, 263, 264, 31, 265, 51, 266, 52, 53, 54, 267, 268, 269, 35, 270, 58, 59, 271, 60, 61, 62, 63, 64, 65, 66, 67, 272, 273, 274, 39, 275, 71, 72, 276, 73, 74, 75, 76, 299, 300, 301, 302, 135, 286, 303, 225, 226, 227, 112, 2, 113, 304, 305, 306, 307, 287, 288, 289, 290, 20, 291, 292, 293, 19, 294, 84, 83, 82, 250, 251, 252, 253, 254, 598, 599, 600, 601, 602, 603, 604, 605, 606, 607, 608, 609, 610, 611, 612, 613, 625, 626, 627, 628, 629, 630, 631, 632, 633, 634, 635, 636, 637, 638, 639, 640, 641, 642, 643, 644, 614, 615, 616] (by decide +kernel) (by decide +kernel)
set_option maxRecDepth 20000 in
theorem gL_law_X6_stone : GoodIn wsL_law (wsV RL 66 RX6 yX6_stone wsX6_stone) := goodIn_app (goodIn_of _ (by decide +kernel)) ggL_law_X6_stone
set_option maxRecDepth 20000 in
theorem ggL_law_X6_rate : GoodIn wsL_law wsX6_rate := goodIn_r _ [311, 14, 13, 281, 255, 256, 12, 257, 32, 36, 40, 42, 258, 259, 260, 261, 43, 44, 45, 46, 47, 262, 263, 264, 31, 265, 51, 266, 52, 53, 54, 267, 268, 269, 35, 270, 58, 59, 271, 60, 61, 62, 63, 64, 65, 66, 67, 272, 273, 274, 39, 275, 71, 72, 276, 73, 74, 75, 76, 312, 313, 314, 315, 135, 286, 109, 2, 110, 111, 112, 113, 316, 115, 116, 117, 118, 119, 120, 121, 317, 318, 319, 320, 321, 322, 323, 324, 287, 288, 289, 290, 20, 291, 292, 293, 19, 294, 84, 83, 82, 250, 251, 252, 253, 254, 598, 599, 600, 601, 602, 603, 604, 605, 606, 607, 608, 609, 610, 611, 612, 613, 625, 626, 627, 628, 629, 630, 631, 632, 633, 634, 635, 636, 637, 638, 639, 640, 641, 642, 643, 644, 614, 615, 616] (by decide +kernel) (by decide +kernel)
set_option maxRecDepth 20000 in
theorem gL_law_X6_rate : GoodIn wsL_law (wsV RL 77 RX6 yX6_rate wsX6_rate) := goodIn_app (goodIn_of _ (by decide +kernel)) ggL_law_X6_rate
set_option maxRecDepth 20000 in
theorem ggL_law_L_lot : GoodIn wsL_law wsL_lot := goodIn_r _ [327, 328] (by decide +kernel) (by decide +kernel)
set_option maxRecDepth 20000 in
theorem gL_law_L_lot : GoodIn wsL_law (va_wsS RL 121 yL_lot wsL_lot) := goodIn_app (goodIn_of _ (by decide +kernel)) ggL_law_L_lot
set_option maxRecDepth 20000 in
theorem ggL_law_L_digest : GoodIn wsL_law wsL_digest := goodIn_r _ [331, 332, 333, 126, 127, 128, 2, 129, 20, 24, 25, 13, 130, 131, 132, 12, 133, 43, 36, 40, 32, 44, 134, 47, 45, 46, 135, 136, 137, 138, 35, 139, 58, 140, 141, 142, 143, 66, 144, 145, 146, 147, 148, 149, 150, 151, 64, 152, 153, 154, 155, 156, 157, 158, 159, 160, 161, 162, 163, 164, 165, 166, 31, 167, 54, 168, 169, 170, 171, 42, 172, 173, 174, 175, 192, 193, 194, 195, 106, 196, 197, 198, 199, 200, 201, 202, 203, 204, 205, 206, 207, 208, 59, 209, 210, 211, 212, 213, 214, 123, 124, 125, 51, 52, 53, 215, 334, 335, 336, 337, 224, 225, 226, 227, 338, 339, 340, 341, 342, 343, 344, 345, 346, 347, 348, 349, 65, 176, 177, 178, 179, 180, 181, 182, 39, 183, 71, 184, 185, 186, 187, 188, 189, 190, 191, 102, 103, 104, 105, 107, 108, 109, 110, 111, 112, 113, 114, 115, 116, 117, 118, 119, 120, 121, 122, 598, 599, 600, 601, 602, 603, 604, 614, 615, 616, 617, 618, 619, 620, 621, 622, 623, 624, 605, 606, 607, 608, 609, 610, 611, 612, 613, 629, 630, 631, 632, 633, 634, 635, 636, 637, 638, 639, 640, 641, 642, 643, 644, 625, 626, 627, 628] (by decide +kernel) (by decide +kernel)
set_option maxRecDepth 20000 in
theorem gL_law_L_digest : GoodIn wsL_law (va_wsS RL 125 yL_digest wsL_digest) := goodIn_app (goodIn_of _ (by decide +kernel)) ggL_law_L_digest
set_option maxRecDepth 20000 in
theorem ggL_law_X6_count : GoodIn wsL_law wsX6_count := goodIn_r _ [129, 20, 24, 25, 13, 130, 131, 132, 12, 133, 43, 36, 40, 32, 44, 134, 47, 45, 46, 135, 136, 137, 138, 35, 139, 58, 140, 141, 142, 143, 66, 144, 145, 146, 147, 148, 149, 150, 151, 64, 152, 153, 154, 155, 156, 157, 158, 159, 160, 161, 162, 163, 164, 165, 166, 31, 167, 54, 168, 169, 170, 171, 42, 172, 173, 174, 175, 598, 599, 600, 601, 602, 603, 604, 614, 615, 616, 617, 618, 619, 620, 621, 622, 623, 624, 605, 606, 607, 608, 609, 610, 611, 612, 613, 629, 630, 631, 632, 633, 634, 635, 636, 637, 638, 639, 640, 641, 642, 643, 644, 625, 626, 627, 628] (by decide +kernel) (by decide +kernel)
set_option maxRecDepth 20000 in
theorem gL_law_X6_count : GoodIn wsL_law (wsV RL 13 RX6 yX6_count wsX6_count) := goodIn_app (goodIn_of _ (by decide +kernel)) ggL_law_X6_count
end
section
set_option maxRecDepth 20000 in
theorem ggL_law_L_acts : GoodIn wsL_law wsL_acts := goodIn_r _ [352, 353, 354, 3, 216, 217, 99, 218, 219, 126, 127, 128, 2, 129, 20, 24, 25, 13, 130, 131, 132, 12, 133, 43, 36, 40, 32, 44, 134, 47, 45, 46, 135, 136, 137, 138, 35, 139, 58, 140, 141, 142, 143, 66, 144, 145, 146, 147, 148, 149, 150, 151, 64, 152, 153, 154, 155, 156, 157, 158, 159, 160, 161, 162, 163, 164, 165, 166, 31, 167, 54, 168, 169, 170, 171, 42, 172, 173, 174, 175, 192, 193, 194, 195, 106, 196, 197, 198, 199, 200, 201, 202, 203, 204, 205, 206, 207, 208, 59, 209, 210, 211, 212, 213, 214, 123, 124, 125, 51, 52, 53, 215, 295, 296, 297, 298, 14, 281, 255, 256, 257, 258, 259, 260, 261, 262, 263, 264, 265, 266, 267, 268, 269, 270, 271, 60, 61, 62, 63, 65, 67, 272, 273, 274, 39, 275, 71, 72, 276, 73, 74, 75, 76, 299, 300, 301, 302, 286, 303, 225, 226, 227, 112, 113, 304, 305, 306, 307, 287, 288, 289, 290, 291, 292, 293, 19, 294, 84, 83, 82, 250, 251, 252, 253, 254, 277, 278, 279, 280, 282, 283, 284, 285, 102, 103, 104, 105, 107, 108, 109, 110, 111, 114, 115, 116, 117, 118, 119, 120, 121, 122, 355, 356, 357, 358, 359, 360, 361, 362, 363, 316, 317, 318, 319, 320, 308, 309, 310, 311, 312, 313, 314, 315, 321, 322, 323, 324, 364, 365, 366, 367, 368, 369, 370, 371, 372, 373, 374, 375, 376, 377, 378, 379, 176, 177, 178, 179, 180, 181, 182, 183, 184, 185, 186, 187, 188, 189, 190, 191, 380, 381, 382, 383, 384, 385, 386, 387, 388, 389, 390, 391, 392, 393, 394, 395, 396, 397, 398, 399, 400, 401, 402, 403, 404, 405, 406, 407, 408, 334, 335, 336, 337, 224, 338, 339, 340, 341, 342, 343, 344, 345, 346, 347, 348, 349, 409, 410, 411, 412, 413, 414, 415, 416, 417, 418, 419, 420, 421, 422, 423, 424, 425, 426, 427, 428, 429, 430, 431, 432, 433, 434, 435, 436, 437, 438, 439, 440, 441, 442, 443, 444, 445, 446, 447, 448, 16, 449, 450, 451, 452, 245, 453, 454, 455, 456, 457, 458, 459, 460, 461, 462, 463, 464, 465, 466, 467, 468, 469, 23, 470, 90, 471, 89, 472, 473, 474, 475, 476, 477, 478, 479, 480, 481, 482, 15, 483, 484, 485, 486, 94, 487, 93, 488, 489, 490, 491, 91, 492, 493, 494, 495, 496, 497, 498, 499, 500, 501, 502, 503, 504, 505, 506, 507, 508, 509, 510, 511, 512, 513, 514, 515, 516, 517, 518, 519, 520, 521, 522, 523, 524, 525, 526, 527, 528, 529, 530, 531, 532, 533, 534, 535, 536, 537, 538, 539, 540, 541, 542, 543, 544, 545, 546, 547, 548, 549, 550, 551, 552, 553, 554, 555, 556, 557, 558, 92, 559, 560, 561, 562, 563, 564, 565, 566, 567, 568, 569, 570, 571, 572, 573, 95, 96, 574, 575, 576, 577, 578, 579, 580, 581, 582, 583, 584, 585, 586, 587, 588, 589, 590, 591, 592, 593, 594, 595, 596, 597, 598, 599, 600, 601, 602, 603, 604, 614, 615, 616, 617, 618, 619, 620, 621, 622, 623, 624, 605, 606, 607, 608, 609, 610, 611, 612, 613, 629, 630, 631, 632, 633, 634, 635, 636, 637, 638, 639, 640, 641, 642, 643, 644, 625, 626, 627, 628] (by decide +kernel) (by decide +kernel)
set_option maxRecDepth 20000 in
theorem gL_law_L_acts : GoodIn wsL_law (va_wsS RL 129 yL_acts wsL_acts) := goodIn_app (goodIn_of _ (by decide +kernel)) ggL_law_L_acts
set_option maxRecDepth 20000 in
theorem ggL_law_L_low : GoodIn wsL_law wsL_low := goodIn_r _ [218, 219] (by decide +kernel) (by decide +kernel)
set_option maxRecDepth 20000 in
theorem gL_law_L_low : GoodIn wsL_law (va_wsS RL 33 yL_low wsL_low) := goodIn_app (goodIn_of _ (by decide +kernel)) ggL_law_L_low
theorem dL_law_0 : decode cL_law 0 = .ok (.new 14, 3) := by decide +kernel
theorem dL_law_3 : decode cL_law 3 = .ok (.dup, 1) := by decide +kernel
theorem dL_law_4 : decode cL_law 4 = .ok (.invokespecial 114, 3) := by decide +kernel
theorem dL_law_7 : decode cL_law 7 = .ok (.astore_n 1, 1) := by decide +kernel
theorem dL_law_8 : decode cL_law 8 = .ok (.aload_n 1, 1) := by decide +kernel
theorem dL_law_9 : decode cL_law 9 = .ok (.iconst 0, 1) := by decide +kernel
theorem dL_law_10 : decode cL_law 10 = .ok (.invokestatic 115, 3) := by decide +kernel
theorem dL_law_13 : decode cL_law 13 = .ok (.ifCond .eq 56, 3) := by decide +kernel
theorem dL_law_16 : decode cL_law 16 = .ok (.aload_n 1, 1) := by decide +kernel
theorem dL_law_17 : decode cL_law 17 = .ok (.invokevirtual 118, 3) := by decide +kernel
theorem dL_law_20 : decode cL_law 20 = .ok (.ldc 64, 2) := by decide +kernel
theorem dL_law_22 : decode cL_law 22 = .ok (.if_icmp .ne 47, 3) := by decide +kernel
theorem dL_law_25 : decode cL_law 25 = .ok (.aload_n 1, 1) := by decide +kernel
theorem dL_law_26 : decode cL_law 26 = .ok (.invokevirtual 70, 3) := by decide +kernel
theorem dL_law_29 : decode cL_law 29 = .ok (.ifCond .ne 40, 3) := by decide +kernel
theorem dL_law_32 : decode cL_law 32 = .ok (.aload_n 1, 1) := by decide +kernel
theorem dL_law_33 : decode cL_law 33 = .ok (.invokevirtual 70, 3) := by decide +kernel
theorem dL_law_36 : decode cL_law 36 = .ok (.iconst 1, 1) := by decide +kernel
theorem dL_law_37 : decode cL_law 37 = .ok (.if_icmp .ne 32, 3) := by decide +kernel
theorem dL_law_40 : decode cL_law 40 = .ok (.aload_n 1, 1) := by decide +kernel
theorem dL_law_41 : decode cL_law 41 = .ok (.iconst 0, 1) := by decide +kernel
theorem dL_law_42 : decode cL_law 42 = .ok (.bipush 60, 2) := by decide +kernel
theorem dL_law_44 : decode cL_law 44 = .ok (.iconst 4, 1) := by decide +kernel
theorem dL_law_45 : decode cL_law 45 = .ok (.iconst 4, 1) := by decide +kernel
theorem dL_law_46 : decode cL_law 46 = .ok (.invokevirtual 66, 3) := by decide +kernel
theorem dL_law_49 : decode cL_law 49 = .ok (.ifCond .ne 20, 3) := by decide +kernel
theorem dL_law_52 : decode cL_law 52 = .ok (.aload_n 1, 1) := by decide +kernel
theorem dL_law_53 : decode cL_law 53 = .ok (.iconst 3, 1) := by decide +kernel
theorem dL_law_54 : decode cL_law 54 = .ok (.iconst 5, 1) := by decide +kernel
theorem dL_law_55 : decode cL_law 55 = .ok (.iconst 5, 1) := by decide +kernel
theorem dL_law_56 : decode cL_law 56 = .ok (.sipush 300, 3) := by decide +kernel
theorem dL_law_59 : decode cL_law 59 = .ok (.invokevirtual 77, 3) := by decide +kernel
theorem dL_law_62 : decode cL_law 62 = .ok (.ifCond .ne 7, 3) := by decide +kernel
theorem dL_law_65 : decode cL_law 65 = .ok (.iconst 1, 1) := by decide +kernel
theorem dL_law_66 : decode cL_law 66 = .ok (.goto 4, 3) := by decide +kernel
theorem dL_law_69 : decode cL_law 69 = .ok (.iconst 0, 1) := by decide +kernel
theorem dL_law_70 : decode cL_law 70 = .ok (.istore_n 2, 1) := by decide +kernel
theorem dL_law_71 : decode cL_law 71 = .ok (.iconst 0, 1) := by decide +kernel
theorem dL_law_72 : decode cL_law 72 = .ok (.istore_n 3, 1) := by decide +kernel
theorem dL_law_73 : decode cL_law 73 = .ok (.iload_n 3, 1) := by decide +kernel
theorem dL_law_74 : decode cL_law 74 = .ok (.bipush 32, 2) := by decide +kernel
theorem dL_law_76 : decode cL_law 76 = .ok (.if_icmp .ge 219, 3) := by decide +kernel
theorem dL_law_79 : decode cL_law 79 = .ok (.iload_n 2, 1) := by decide +kernel
theorem dL_law_80 : decode cL_law 80 = .ok (.ifCond .eq 215, 3) := by decide +kernel
theorem dL_law_83 : decode cL_law 83 = .ok (.aload_n 0, 1) := by decide +kernel
theorem dL_law_84 : decode cL_law 84 = .ok (.iconst 2, 1) := by decide +kernel
theorem dL_law_85 : decode cL_law 85 = .ok (.iload_n 3, 1) := by decide +kernel
theorem dL_law_86 : decode cL_law 86 = .ok (.imul, 1) := by decide +kernel
theorem dL_law_87 : decode cL_law 87 = .ok (.invokestatic 121, 3) := by decide +kernel
theorem dL_law_90 : decode cL_law 90 = .ok (.istore 4, 2) := by decide +kernel
theorem dL_law_92 : decode cL_law 92 = .ok (.aload_n 0, 1) := by decide +kernel
theorem dL_law_93 : decode cL_law 93 = .ok (.iconst 2, 1) := by decide +kernel
theorem dL_law_94 : decode cL_law 94 = .ok (.iload_n 3, 1) := by decide +kernel
theorem dL_law_95 : decode cL_law 95 = .ok (.imul, 1) := by decide +kernel
theorem dL_law_96 : decode cL_law 96 = .ok (.iconst 1, 1) := by decide +kernel
theorem dL_law_97 : decode cL_law 97 = .ok (.iadd, 1) := by decide +kernel
theorem dL_law_98 : decode cL_law 98 = .ok (.invokestatic 121, 3) := by decide +kernel
theorem dL_law_101 : decode cL_law 101 = .ok (.istore 5, 2) := by decide +kernel
theorem dL_law_103 : decode cL_law 103 = .ok (.aload_n 1, 1) := by decide +kernel
theorem dL_law_104 : decode cL_law 104 = .ok (.invokestatic 125, 3) := by decide +kernel
theorem dL_law_107 : decode cL_law 107 = .ok (.lstore 6, 2) := by decide +kernel
theorem dL_law_109 : decode cL_law 109 = .ok (.aload_n 1, 1) := by decide +kernel
theorem dL_law_110 : decode cL_law 110 = .ok (.bipush 11, 2) := by decide +kernel
theorem dL_law_112 : decode cL_law 112 = .ok (.invokevirtual 13, 3) := by decide +kernel
theorem dL_law_115 : decode cL_law 115 = .ok (.istore 8, 2) := by decide +kernel
theorem dL_law_117 : decode cL_law 117 = .ok (.aload_n 1, 1) := by decide +kernel
theorem dL_law_118 : decode cL_law 118 = .ok (.iload 4, 2) := by decide +kernel
theorem dL_law_120 : decode cL_law 120 = .ok (.iload 5, 2) := by decide +kernel
theorem dL_law_122 : decode cL_law 122 = .ok (.invokestatic 129, 3) := by decide +kernel
theorem dL_law_125 : decode cL_law 125 = .ok (.ifCond .eq 16, 3) := by decide +kernel
theorem dL_law_128 : decode cL_law 128 = .ok (.aload_n 1, 1) := by decide +kernel
theorem dL_law_129 : decode cL_law 129 = .ok (.iload 5, 2) := by decide +kernel
theorem dL_law_131 : decode cL_law 131 = .ok (.invokestatic 115, 3) := by decide +kernel
theorem dL_law_134 : decode cL_law 134 = .ok (.ifCond .eq 7, 3) := by decide +kernel
theorem dL_law_137 : decode cL_law 137 = .ok (.iconst 1, 1) := by decide +kernel
theorem dL_law_138 : decode cL_law 138 = .ok (.goto 4, 3) := by decide +kernel
theorem dL_law_141 : decode cL_law 141 = .ok (.iconst 0, 1) := by decide +kernel
theorem dL_law_142 : decode cL_law 142 = .ok (.istore_n 2, 1) := by decide +kernel
theorem dL_law_143 : decode cL_law 143 = .ok (.aload_n 1, 1) := by decide +kernel
theorem dL_law_144 : decode cL_law 144 = .ok (.bipush 11, 2) := by decide +kernel
theorem dL_law_146 : decode cL_law 146 = .ok (.invokevirtual 13, 3) := by decide +kernel
theorem dL_law_149 : decode cL_law 149 = .ok (.istore 9, 2) := by decide +kernel
theorem dL_law_151 : decode cL_law 151 = .ok (.iload_n 2, 1) := by decide +kernel
theorem dL_law_152 : decode cL_law 152 = .ok (.ifCond .eq 39, 3) := by decide +kernel
theorem dL_law_155 : decode cL_law 155 = .ok (.iload 9, 2) := by decide +kernel
theorem dL_law_157 : decode cL_law 157 = .ok (.iload 8, 2) := by decide +kernel
theorem dL_law_159 : decode cL_law 159 = .ok (.if_icmp .ne 19, 3) := by decide +kernel
theorem dL_law_162 : decode cL_law 162 = .ok (.iload 8, 2) := by decide +kernel
theorem dL_law_164 : decode cL_law 164 = .ok (.iconst 4, 1) := by decide +kernel
theorem dL_law_165 : decode cL_law 165 = .ok (.if_icmp .eq 22, 3) := by decide +kernel
theorem dL_law_168 : decode cL_law 168 = .ok (.aload_n 1, 1) := by decide +kernel
theorem dL_law_169 : decode cL_law 169 = .ok (.invokestatic 125, 3) := by decide +kernel
theorem dL_law_172 : decode cL_law 172 = .ok (.lload 6, 2) := by decide +kernel
theorem dL_law_174 : decode cL_law 174 = .ok (.lcmp, 1) := by decide +kernel
theorem dL_law_175 : decode cL_law 175 = .ok (.ifCond .eq 12, 3) := by decide +kernel
theorem dL_law_178 : decode cL_law 178 = .ok (.iload 9, 2) := by decide +kernel
theorem dL_law_180 : decode cL_law 180 = .ok (.iload 8, 2) := by decide +kernel
theorem dL_law_182 : decode cL_law 182 = .ok (.iconst 1, 1) := by decide +kernel
theorem dL_law_183 : decode cL_law 183 = .ok (.iadd, 1) := by decide +kernel
theorem dL_law_184 : decode cL_law 184 = .ok (.if_icmp .ne 7, 3) := by decide +kernel
theorem dL_law_187 : decode cL_law 187 = .ok (.iconst 1, 1) := by decide +kernel
theorem dL_law_188 : decode cL_law 188 = .ok (.goto 4, 3) := by decide +kernel
theorem dL_law_191 : decode cL_law 191 = .ok (.iconst 0, 1) := by decide +kernel
theorem dL_law_192 : decode cL_law 192 = .ok (.istore_n 2, 1) := by decide +kernel
theorem dL_law_193 : decode cL_law 193 = .ok (.iload_n 2, 1) := by decide +kernel
theorem dL_law_194 : decode cL_law 194 = .ok (.ifCond .eq 49, 3) := by decide +kernel
theorem dL_law_197 : decode cL_law 197 = .ok (.iload 9, 2) := by decide +kernel
theorem dL_law_199 : decode cL_law 199 = .ok (.iload 8, 2) := by decide +kernel
theorem dL_law_201 : decode cL_law 201 = .ok (.iconst 1, 1) := by decide +kernel
theorem dL_law_202 : decode cL_law 202 = .ok (.iadd, 1) := by decide +kernel
theorem dL_law_203 : decode cL_law 203 = .ok (.if_icmp .ne 40, 3) := by decide +kernel
theorem dL_law_206 : decode cL_law 206 = .ok (.iload 5, 2) := by decide +kernel
theorem dL_law_208 : decode cL_law 208 = .ok (.bipush 8, 2) := by decide +kernel
theorem dL_law_210 : decode cL_law 210 = .ok (.ishr, 1) := by decide +kernel
theorem dL_law_211 : decode cL_law 211 = .ok (.iconst 3, 1) := by decide +kernel
theorem dL_law_212 : decode cL_law 212 = .ok (.invokestatic 33, 3) := by decide +kernel
theorem dL_law_215 : decode cL_law 215 = .ok (.ifCond .ne 28, 3) := by decide +kernel
theorem dL_law_218 : decode cL_law 218 = .ok (.aload_n 1, 1) := by decide +kernel
theorem dL_law_219 : decode cL_law 219 = .ok (.invokevirtual 118, 3) := by decide +kernel
theorem dL_law_222 : decode cL_law 222 = .ok (.iload 8, 2) := by decide +kernel
theorem dL_law_224 : decode cL_law 224 = .ok (.if_icmp .ne 17, 3) := by decide +kernel
theorem dL_law_227 : decode cL_law 227 = .ok (.aload_n 1, 1) := by decide +kernel
theorem dL_law_228 : decode cL_law 228 = .ok (.invokestatic 125, 3) := by decide +kernel
theorem dL_law_231 : decode cL_law 231 = .ok (.lload 6, 2) := by decide +kernel
theorem dL_law_233 : decode cL_law 233 = .ok (.lcmp, 1) := by decide +kernel
theorem dL_law_234 : decode cL_law 234 = .ok (.ifCond .ne 7, 3) := by decide +kernel
theorem dL_law_237 : decode cL_law 237 = .ok (.iconst 1, 1) := by decide +kernel
theorem dL_law_238 : decode cL_law 238 = .ok (.goto 4, 3) := by decide +kernel
theorem dL_law_241 : decode cL_law 241 = .ok (.iconst 0, 1) := by decide +kernel
theorem dL_law_242 : decode cL_law 242 = .ok (.istore_n 2, 1) := by decide +kernel
theorem dL_law_243 : decode cL_law 243 = .ok (.iload_n 2, 1) := by decide +kernel
theorem dL_law_244 : decode cL_law 244 = .ok (.ifCond .eq 45, 3) := by decide +kernel
theorem dL_law_247 : decode cL_law 247 = .ok (.iload_n 3, 1) := by decide +kernel
theorem dL_law_248 : decode cL_law 248 = .ok (.iconst 5, 1) := by decide +kernel
theorem dL_law_249 : decode cL_law 249 = .ok (.irem, 1) := by decide +kernel
theorem dL_law_250 : decode cL_law 250 = .ok (.iconst 4, 1) := by decide +kernel
theorem dL_law_251 : decode cL_law 251 = .ok (.if_icmp .ne 38, 3) := by decide +kernel
theorem dL_law_254 : decode cL_law 254 = .ok (.aload_n 1, 1) := by decide +kernel
theorem dL_law_255 : decode cL_law 255 = .ok (.bipush 11, 2) := by decide +kernel
theorem dL_law_257 : decode cL_law 257 = .ok (.invokevirtual 13, 3) := by decide +kernel
theorem dL_law_260 : decode cL_law 260 = .ok (.istore 10, 2) := by decide +kernel
theorem dL_law_262 : decode cL_law 262 = .ok (.aload_n 1, 1) := by decide +kernel
theorem dL_law_263 : decode cL_law 263 = .ok (.invokevirtual 118, 3) := by decide +kernel
theorem dL_law_266 : decode cL_law 266 = .ok (.iload 10, 2) := by decide +kernel
theorem dL_law_268 : decode cL_law 268 = .ok (.ifCond .ne 8, 3) := by decide +kernel
theorem dL_law_271 : decode cL_law 271 = .ok (.ldc 64, 2) := by decide +kernel
theorem dL_law_273 : decode cL_law 273 = .ok (.goto 7, 3) := by decide +kernel
theorem dL_law_276 : decode cL_law 276 = .ok (.iload 10, 2) := by decide +kernel
theorem dL_law_278 : decode cL_law 278 = .ok (.iconst 1, 1) := by decide +kernel
theorem dL_law_279 : decode cL_law 279 = .ok (.isub, 1) := by decide +kernel
theorem dL_law_280 : decode cL_law 280 = .ok (.if_icmp .ne 7, 3) := by decide +kernel
theorem dL_law_283 : decode cL_law 283 = .ok (.iconst 1, 1) := by decide +kernel
theorem dL_law_284 : decode cL_law 284 = .ok (.goto 4, 3) := by decide +kernel
theorem dL_law_287 : decode cL_law 287 = .ok (.iconst 0, 1) := by decide +kernel
theorem dL_law_288 : decode cL_law 288 = .ok (.istore_n 2, 1) := by decide +kernel
theorem dL_law_289 : decode cL_law 289 = .ok (.iinc 3 1, 3) := by decide +kernel
theorem dL_law_292 : decode cL_law 292 = .ok (.goto (-219), 3) := by decide +kernel
theorem dL_law_295 : decode cL_law 295 = .ok (.iload_n 2, 1) := by decide +kernel
theorem dL_law_296 : decode cL_law 296 = .ok (.ireturn, 1) := by decide +kernel
abbrev vwCl : List vw_C := [(RX0, TX0, 3), (RX1, TX1, 9), (RX2, TX2, 6), (RX3, TX3, 4), (RX4, TX4, 8), (RX5, TX5, 10), (RX6, TX6, 7)]
end
section
/-! words about hidden members of nest mates; the literals -/
def nestWords : List Cond := [
  .methodLinkNest RX6 9 yX1_init "GemMemos",
  .methodLinkNest RX1 11 yX3_init "GemMemos",
  .methodLinkNest RX1 20 yX5_init "GemMemos",
  .fieldLinkNest RX1 98 "GemMemos$Stones" "count" "I" "GemMemos",
  .fieldLinkNest RX1 156 "GemMemos$Stones" "weights" "[I" "GemMemos",
  .fieldLinkNest RX1 146 "GemMemos$Stones" "colours" "[I" "GemMemos",
  .fieldLinkNest RX1 149 "GemMemos$Stones" "clarities" "[I" "GemMemos",
  .fieldLinkNest RX1 123 "GemMemos$Stones" "owners" "[I" "GemMemos",
  .fieldLinkNest RX1 105 "GemMemos$Stones" "holders" "[I" "GemMemos",
  .fieldLinkNest RX1 108 "GemMemos$Stones" "memos" "[I" "GemMemos",
  .fieldLinkNest RX1 110 "GemMemos$Stones" "asked" "[I" "GemMemos",
  .fieldLinkNest RX1 142 "GemMemos$Stones" "soldFor" "[I" "GemMemos",
  .fieldLinkNest RX1 163 "GemMemos$Stones" "timesKept" "[I" "GemMemos",
  .methodLinkNest RX1 27 yX2_init "GemMemos",
  .fieldLinkNest RX1 202 "GemMemos$Memos" "count" "I" "GemMemos",
  .fieldLinkNest RX1 172 "GemMemos$Memos" "lenders" "[I" "GemMemos",
  .fieldLinkNest RX1 175 "GemMemos$Memos" "takers" "[I" "GemMemos",
  .fieldLinkNest RX1 178 "GemMemos$Memos" "lastDays" "[I" "GemMemos",
  .fieldLinkNest RX1 181 "GemMemos$Memos" "lent" "[I" "GemMemos",
  .fieldLinkNest RX1 184 "GemMemos$Memos" "kept" "[I" "GemMemos",
  .fieldLinkNest RX6 122 "GemMemos$Market" "prices" "LGemMemos$Prices;" "GemMemos",
  .fieldLinkNest RX4 52 "GemMemos$Market" "stones" "LGemMemos$Stones;" "GemMemos",
  .fieldLinkNest RX6 88 "GemMemos$Market" "stones" "LGemMemos$Stones;" "GemMemos",
  .fieldLinkNest RX6 108 "GemMemos$Market" "memos" "LGemMemos$Memos;" "GemMemos",
  .fieldLinkNest RX6 155 "GemMemos$Market" "time" "I" "GemMemos",
  .methodLinkNest RX0 22 yX1_init "GemMemos",
  .fieldLinkNest RX6 135 "GemMemos$History" "size" "I" "GemMemos",
  .methodLinkNest RX6 34 yX4_init "GemMemos",
  .fieldLinkNest RX6 139 "GemMemos$Script" "length" "I" "GemMemos",
  .methodLinkNest RX1 73 yX6_isLook "GemMemos",
  .methodLinkNest RX1 82 yX6_isGrade "GemMemos"]
def litIx : List Nat := [108, 110, 112, 114, 116, 118, 120]
def litTx : List String := ["lend", "back", "keep", "sell", "grade", "rate", "wait"]
def litLen : List Nat := [4, 4, 4, 4, 5, 4, 4]
def litByt : List (List Int32) := [[108, 101, 110, 100], [98, 97, 99, 107], [107, 101, 101, 112], [115, 101, 108, 108], [103, 114, 97, 100, 101], [114, 97, 116, 101], [119, 97, 105, 116]]
end
section
/-! FRAME: worlds as values, one context for a walk, contracts KI / KV, rows over them -/
abbrev V : Type := Nat → Nat → Int32
abbrev tn (x : Int32) : Nat := x.toNatClampNeg
/-- one place of one array changed -/
def st (v : V) (p k : Nat) (x : Int32) : V := fun q => bif Nat.beq q p then upd (v q) k x else v q
/-- one field of one object changed -/
def sc (v : V) (p k : Nat) (x : Int32) : V := fun q => bif Nat.beq q p then (fun j => bif Nat.beq j k then x else v q j) else v q
/-- a whole array changed -/
def sa (v : V) (p : Nat) (f : Nat → Int32) : V := fun q => bif Nat.beq q p then f else v q
def bI (b : Bool) : Int32 := bif b then 1 else 0
theorem beq_t (a : Nat) : Nat.beq a a = true := Nat.beq_refl a
theorem beq_f {a b : Nat} (h : a ≠ b) : Nat.beq a b = false := by
  cases hc : Nat.beq a b with
  | false => rfl
  | true => exact absurd (Nat.eq_of_beq_eq_true hc) h
theorem st_eq (v : V) (p k : Nat) (x : Int32) (q j : Nat) : st v p k x q j = if q = p ∧ j = k then x else v q j := by
  unfold st
  by_cases h : q = p
  · subst h
    rw [beq_t]
    show upd (v q) k x j = _
    unfold upd
    by_cases h2 : j = k <;> simp [h2]
  · rw [beq_f h]
    simp [h]
theorem sc_eqn (v : V) (p k : Nat) (x : Int32) (q j : Nat) : sc v p k x q j = if q = p ∧ j = k then x else v q j := by
  unfold sc
  by_cases h : q = p
  · subst h
    rw [beq_t]
    by_cases h2 : j = k
    · subst h2
      simp
    · simp [h2, beq_f h2]
  · rw [beq_f h]
    simp [h]
theorem sa_eqn (v : V) (p : Nat) (f : Nat → Int32) (q j : Nat) : sa v p f q j = if q = p then f j else v q j := by
  unfold sa
  by_cases h : q = p
  · subst h
    simp
  · rw [beq_f h]
    simp [h]
theorem sc_st (v : V) (p k : Nat) (x : Int32) : sc v p k x = st v p k x := by
  funext q j
  rw [sc_eqn, st_eq]
/-- the kinds: objects' layouts, the rows of int, char, Market; the literals' cells -/
abbrev EE : Type := va_G × ClassId × ClassId × ClassId × (Nat → Nat) × (Nat → Nat)
def eT (E : EE) : List (ClassId × FieldType) := [(E.2.1, .int), (E.2.2.1, .char), (E.2.2.2.1, .object "GemMemos$Market")]
/-! worlds as sets of cells -/
theorem wP_mem {D : va_G} {cl : List vw_C} {ws : va_W} {H : Heap} : va_P D cl ws H ↔ ∀ q ∈ ws, va_at D cl q H := by
  constructor
  · intro h q hq
    obtain ⟨k, hk⟩ := List.getElem?_of_mem hq
    exact h k q hk
  · intro h k q hk
    exact h q (List.mem_of_getElem? hk)
theorem wD_mem {A : Nat → Prop} {ws : va_W} : va_D A ws ↔ ws.Pairwise (fun p q => p.1 ≠ q.1) ∧ ∀ q ∈ ws, A q.1 := by
  constructor
  · intro h
    refine ⟨?_, fun q hq => ?_⟩
    · rw [List.pairwise_iff_getElem]
      intro i j hi hj hij e
      have := h.1 i j ws[i] ws[j] (List.getElem?_eq_getElem hi) (List.getElem?_eq_getElem hj) e
      omega
    · obtain ⟨k, hk⟩ := List.getElem?_of_mem hq
      exact h.2 k q hk
  · intro h
    refine ⟨fun i j p q hi hj e => ?_, fun k q hk => h.2 q (List.mem_of_getElem? hk)⟩
    obtain ⟨hi1, hi2⟩ := List.getElem?_eq_some_iff.mp hi
    obtain ⟨hj1, hj2⟩ := List.getElem?_eq_some_iff.mp hj
    have hp := List.pairwise_iff_getElem.mp h.1
    rcases Nat.lt_trichotomy i j with hl | hl | hl
    · exact absurd (by rw [hi2, hj2]; exact e) (hp i j hi1 hj1 hl)
    · exact hl
    · exact absurd (by rw [hi2, hj2]; exact e.symm) (hp j i hj1 hi1 hl)
theorem wA_mem {ws : va_W} {sz q : Nat} : va_A ws sz q ↔ (∃ x ∈ ws, x.1 = q) ∨ sz ≤ q := by
  constructor
  · rintro (⟨k, e, h⟩ | h)
    · exact Or.inl ⟨(q, e), List.mem_of_getElem? h, rfl⟩
    · exact Or.inr h
  · rintro (⟨x, h, rfl⟩ | h)
    · obtain ⟨k, hk⟩ := List.getElem?_of_mem h
      exact Or.inl ⟨k, x.2, hk⟩
    · exact Or.inr h
/-- the world of a walk: its cells hold ws, they are apart, nothing else has changed -/
def mw (E : EE) (A : Nat → Prop) (H0 H : Heap) (locs : List Loc) (ws : va_W) : Prop := va_P E.1 vwCl ws H ∧ va_D A ws ∧ va_S A H0 H locs
theorem mw.perm {E : EE} {A : Nat → Prop} {H0 H : Heap} {locs : List Loc} {ws ws' : va_W} (h : mw E A H0 H locs ws) (hp : ws.Perm ws') : mw E A H0 H locs ws' := by
  refine ⟨wP_mem.mpr fun q hq => wP_mem.mp h.1 q (hp.mem_iff.mpr hq), wD_mem.mpr ?_, h.2.2⟩
  obtain ⟨h1, h2⟩ := wD_mem.mp h.2.1
  exact ⟨hp.pairwise h1 (fun e => e.symm), fun q hq => h2 q (hp.mem_iff.mpr hq)⟩
/-- the words of the tables about hidden members of nest mates -/
def nestOK (U : State) : Prop := ∀ w ∈ nestWords, va_Nw w U
theorem nestOK.warm {s U : State} (hW : s.WarmedH U.vm) (h : nestOK s) : nestOK U := by
  intro w hw
  have h1 := h w hw
  have h2 : (∃ a i b n d h, w = .fieldLinkNest a i b n d h) ∨ ∃ a i x h, w = .methodLinkNest a i x h := by
    have h3 : nestWords.all (fun w => match w with | .fieldLinkNest _ _ _ _ _ _ => true | .methodLinkNest _ _ _ _ => true | _ => false) = true := by rfl
    have h4 := List.all_eq_true.mp h3 w hw
    revert h4
    cases w <;> simp
  rcases h2 with ⟨a, i, b, n, d, h, rfl⟩ | ⟨a, i, x, h, rfl⟩
  · exact va_Nw.warmF hW h1
  · exact va_Nw.warmM hW h1
/-- the literals: which, their bytes -/
def litN : Nat := 7
/-- what the literals are: outside of what may change -/
def litOK (E : EE) (A : Nat → Prop) (U : State) (H : Heap) : Prop := vk_S litN litLen litByt E.2.2.2.2.1 E.2.2.2.2.2 A U H ∧ va_Z "java/lang/String" "COMPACT_STRINGS" "Z" (.int 1) A U H ∧ va_Zq "jdk/internal/util/Preconditions" "SIOOBE_FORMATTER" "Ljava/util/function/BiFunction;" A U H ∧ va_AO "GemMemos$Market" U
theorem litOK.moved {E : EE} {A : Nat → Prop} {u U : State} {H : Heap} (hvm : u.vm.Alike U.vm) (h : litOK E A u H) : litOK E A U H := ⟨vk_S.moved hvm h.1, va_Z.moved hvm h.2.1, va_Zq.moved hvm h.2.2.1, va_AO.moved hvm h.2.2.2⟩
theorem litOK.kept {E : EE} {A : Nat → Prop} {U : State} {H H1 : Heap} (h : litOK E A U H) (hq : ∀ a : Nat, a < H.size → ¬ A a → H1[a]? = H[a]?) : litOK E A U H1 := ⟨h.1.kept hq, h.2.1.kept hq, h.2.2.1.kept hq, h.2.2.2⟩
theorem litOK.narrow {E : EE} {A B : Nat → Prop} {U : State} {H : Heap} (h : litOK E A U H) (hAB : ∀ q, B q → A q) : litOK E B U H := ⟨h.1.narrow hAB, h.2.1.narrow hAB, h.2.2.1.narrow hAB, h.2.2.2⟩
def litR (E : EE) (U : State) : Prop := ∀ i, i < litN → vk_R RX4 (litIx.getD i 0) (litTx.getD i "") (E.2.2.2.2.1 i) U
theorem litR.warm {E : EE} {s U : State} (hW : s.WarmedH U.vm) (h : litR E s) : litR E U := fun i hi => (h i hi).warm hW
/-- what a walk stands on -/
def Cx (E : EE) (p : Program) (s : State) (m : MethodId) (args : Array Value) (meth : Method) (c : Code) (A : Nat → Prop) (cc : ByteArray) (nL : Nat) (own : String) (Ts : List Cond) (ret : Option FieldType) : Prop :=
  p.tables.exec = Jvm.exec ∧ c.code = cc ∧ c.maxLocals = nL ∧ s.vm.findClass own = some m.cls ∧ (∀ w ∈ Ts, w.before args s = true) ∧ va_K E.1 vwCl (eT E) s ∧ meth.sig.returnType = ret ∧ meth.locks = false ∧ (∀ q : Nat, s.heap.size ≤ q → A q) ∧ nestOK s ∧ litR E s ∧ litOK E A s s.heap
/-- a callee's start, seen from a state -/
def preW (E : EE) (w0 : va_W) (sz : Nat) (U : State) : Prop := U.heap.size = sz ∧ va_P E.1 vwCl w0 U.heap ∧ va_K E.1 vwCl (eT E) U ∧ va_D (fun _ => True) w0 ∧ nestOK U ∧ litR E U ∧ litOK E (va_A w0 sz) U U.heap
/-- a contract of a method that answers an int -/
def KI (l : Launch) (E : EE) (y : MethodName) (ws : List Cond) (rm : Room) (av : List Value) (w0 : va_W) {S : Type} (post : Int32 → S → Prop) (w1 : S → va_W) : Prop :=
  ∀ sz : Nat, Met l y ws rm (va_Pc av (preW E w0 sz)) (va_Qi post (fun u t => va_P E.1 vwCl (w1 u) t.heap ∧ va_D (va_A w0 sz) (w1 u)) (va_A w0 sz)) 0 0 (va_A w0 sz)
/-- a contract of a method without an answer -/
def KV (l : Launch) (E : EE) (y : MethodName) (ws : List Cond) (rm : Room) (av : List Value) (w0 : va_W) {S : Type} (post : S → Prop) (w1 : S → va_W) : Prop :=
  ∀ sz : Nat, Met l y ws rm (va_Pc av (preW E w0 sz)) (va_Qv post (fun u t => va_P E.1 vwCl (w1 u) t.heap ∧ va_D (va_A w0 sz) (w1 u)) (va_A w0 sz)) 0 0 (va_A w0 sz)
abbrev qI (E : EE) (A : Nat → Prop) {S : Type} (post : Int32 → S → Prop) (w1 : S → va_W) (below : List Frame) (args : Array Value) (s : State) : State → Prop :=
  MQ below (va_Qi post (fun u t => va_P E.1 vwCl (w1 u) t.heap ∧ va_D A (w1 u)) A) args s 0 0 A
abbrev qV (E : EE) (A : Nat → Prop) {S : Type} (post : S → Prop) (w1 : S → va_W) (below : List Frame) (args : Array Value) (s : State) : State → Prop :=
  MQ below (va_Qv post (fun u t => va_P E.1 vwCl (w1 u) t.heap ∧ va_D A (w1 u)) A) args s 0 0 A
section FR
variable {p : Program} {l : Launch} {e : Env} {R : Room} {s : State} {m : MethodId} {args : Array Value} {below : List Frame} {meth : Method} {c : Code} {H : Heap} {locs : List Loc} {cells slots : Nat} {Q : State → Prop}
variable {E : EE} {A : Nat → Prop} {cc : ByteArray} {nL : Nat} {own : String} {Ts : List Cond} {ret : Option FieldType} {pc : Nat} {ls : Array Slot} {rest st0 : List Value} {ws ws' : va_W}
set_option maxHeartbeats 1000000 in
theorem KI.go {y : MethodName} {tw tw' : List Cond} {rm : Room} {av : List Value} {w0 : va_W} {S : Type} {post : Int32 → S → Prop} {w1 : S → va_W} {maxL : Nat} (hy : plainName y.cls = true) (hw : tw = Cond.code y cc maxL ret :: tw') (hlen : (lg_sl av).length ≤ maxL) (hown : y.cls = own)
    (body : ∀ (p : Program) (e : Env) (s : State) (m : MethodId) (below : List Frame) (meth : Method) (c : Code) (A : Nat → Prop) (ls : Array Slot), Cx E p s m av.toArray meth c A cc maxL own tw ret → mw E A s.heap s.heap [] w0 → lv_has ls maxL (lv_args 0 av) →
      W p l e rm s m av.toArray below meth c s.heap [] 0 0 (qI E A post w1 below av.toArray s) (F0 m 0 ls [])) : KI l E y tw rm av w0 post w1 := by
  intro sz
  refine Met.ofW (cc := cc) (maxL := maxL) (ret := ret) hy hw ?_
  intro p e s m args below meth c s₁ B hml hv
  obtain ⟨rfl, hsz, hP, hK, hD0, hN, hLR, hL⟩ := hv
  subst hsz
  have hts := atoms_spec (ws := tw) B.pre
  have hown' : s.vm.findClass own = some m.cls := by rw [← hown]; exact findClass_of_methodNamed B.named
  have hD := hD0.self (sz := s.heap.size)
  have hl := lv_entry av hlen
  rw [lg_entry_eq]
  have hA : ∀ q : Nat, s.heap.size ≤ q → va_A w0 s.heap.size q := fun q h => Or.inr h
  exact body p e s m below meth c (va_A w0 s.heap.size) _ ⟨B.exec, B.bytes, hml, hown', hts, hK, B.returns, B.notSynchronized, hA, hN, hLR, hL⟩ ⟨hP, hD, va_S.rf⟩ hl
set_option maxHeartbeats 1000000 in
theorem KI.goF {y : MethodName} {tw tw' : List Cond} {rm : Room} {av : List Value} {w0 : va_W} {S : Type} {post : Int32 → S → Prop} {w1 : S → va_W} {maxL : Nat} (hy : plainFor y = true) (hw : tw = Cond.code y cc maxL ret :: tw') (hlen : (lg_sl av).length ≤ maxL) (hown : y.cls = own)
    (body : ∀ (p : Program) (e : Env) (s : State) (m : MethodId) (below : List Frame) (meth : Method) (c : Code) (A : Nat → Prop) (ls : Array Slot), Cx E p s m av.toArray meth c A cc maxL own tw ret → mw E A s.heap s.heap [] w0 → lv_has ls maxL (lv_args 0 av) →
      W p l e rm s m av.toArray below meth c s.heap [] 0 0 (qI E A post w1 below av.toArray s) (F0 m 0 ls [])) : KI l E y tw rm av w0 post w1 := by
  intro sz
  refine va_MetF (cc := cc) (maxL := maxL) (ret := ret) hy hw ?_
  intro p e s m args below meth c s₁ B hml hv
  obtain ⟨rfl, hsz, hP, hK, hD0, hN, hLR, hL⟩ := hv
  subst hsz
  have hts := atoms_spec (ws := tw) B.pre
  have hown' : s.vm.findClass own = some m.cls := by rw [← hown]; exact findClass_of_methodNamed B.named
  have hD := hD0.self (sz := s.heap.size)
  have hl := lv_entry av hlen
  rw [lg_entry_eq]
  have hA : ∀ q : Nat, s.heap.size ≤ q → va_A w0 s.heap.size q := fun q h => Or.inr h
  exact body p e s m below meth c (va_A w0 s.heap.size) _ ⟨B.exec, B.bytes, hml, hown', hts, hK, B.returns, B.notSynchronized, hA, hN, hLR, hL⟩ ⟨hP, hD, va_S.rf⟩ hl
set_option maxHeartbeats 1000000 in
theorem KV.go {y : MethodName} {tw tw' : List Cond} {rm : Room} {av : List Value} {w0 : va_W} {S : Type} {post : S → Prop} {w1 : S → va_W} {maxL : Nat} (hy : plainName y.cls = true) (hw : tw = Cond.code y cc maxL ret :: tw') (hlen : (lg_sl av).length ≤ maxL) (hown : y.cls = own)
    (body : ∀ (p : Program) (e : Env) (s : State) (m : MethodId) (below : List Frame) (meth : Method) (c : Code) (A : Nat → Prop) (ls : Array Slot), Cx E p s m av.toArray meth c A cc maxL own tw ret → mw E A s.heap s.heap [] w0 → lv_has ls maxL (lv_args 0 av) →
      W p l e rm s m av.toArray below meth c s.heap [] 0 0 (qV E A post w1 below av.toArray s) (F0 m 0 ls [])) : KV l E y tw rm av w0 post w1 := by
  intro sz
  refine Met.ofW (cc := cc) (maxL := maxL) (ret := ret) hy hw ?_
  intro p e s m args below meth c s₁ B hml hv
  obtain ⟨rfl, hsz, hP, hK, hD0, hN, hLR, hL⟩ := hv
  subst hsz
  have hts := atoms_spec (ws := tw) B.pre
  have hown' : s.vm.findClass own = some m.cls := by rw [← hown]; exact findClass_of_methodNamed B.named
  have hD := hD0.self (sz := s.heap.size)
  have hl := lv_entry av hlen
  rw [lg_entry_eq]
  have hA : ∀ q : Nat, s.heap.size ≤ q → va_A w0 s.heap.size q := fun q h => Or.inr h
  exact body p e s m below meth c (va_A w0 s.heap.size) _ ⟨B.exec, B.bytes, hml, hown', hts, hK, B.returns, B.notSynchronized, hA, hN, hLR, hL⟩ ⟨hP, hD, va_S.rf⟩ hl
theorem x_ret {S : Type} {post : Int32 → S → Prop} {w1 : S → va_W} {r : Int32} (C0 : Cx E p s m args meth c A cc nL own Ts (some .int)) (u : S) (hw : mw E A s.heap H locs (w1 u)) (hp : post r u) (hdg : decode cc pc = .ok (.ireturn, 1)) :
    W p l e R s m args below meth c H locs 0 0 (qI E A post w1 below args s) (F0 m pc ls [.int r]) := by
  obtain ⟨hx, hb, -, -, -, -, hr, hlocks, -⟩ := C0
  exact W.iret (v := r) hx hb hr (fun t ht _ => ⟨⟨r, u, rfl, hp, by rw [ht]; exact hw.1, hw.2.1⟩, hw.2.2.F ht⟩) hw.2.2.2.2 hdg
theorem x_retz {S : Type} {post : Int32 → S → Prop} {w1 : S → va_W} {r : Int32} {ty : FieldType} (C0 : Cx E p s m args meth c A cc nL own Ts (some ty)) (hn : narrow ty (.int r) = .int r) (u : S) (hw : mw E A s.heap H locs (w1 u)) (hp : post r u) (hdg : decode cc pc = .ok (.ireturn, 1)) :
    W p l e R s m args below meth c H locs 0 0 (qI E A post w1 below args s) (F0 m pc ls [.int r]) := by
  obtain ⟨hx, hb, -, -, -, -, hr, hlocks, -⟩ := C0
  exact W.zret (v := r) hx hb hr hn (fun t ht _ => ⟨⟨r, u, rfl, hp, by rw [ht]; exact hw.1, hw.2.1⟩, hw.2.2.F ht⟩) hw.2.2.2.2 hdg
theorem x_retv {S : Type} {post : S → Prop} {w1 : S → va_W} (C0 : Cx E p s m args meth c A cc nL own Ts none) (u : S) (hw : mw E A s.heap H locs (w1 u)) (hp : post u) (hdg : decode cc pc = .ok (.return_, 1)) :
    W p l e R s m args below meth c H locs 0 0 (qV E A post w1 below args s) (F0 m pc ls []) := by
  obtain ⟨hx, hb, -, -, -, -, hr, hlocks, -⟩ := C0
  exact W.vret hx hb hr (fun t ht _ => ⟨⟨u, rfl, hp, by rw [ht]; exact hw.1, hw.2.1⟩, hw.2.2.F ht⟩) hw.2.2.2.2 hdg
theorem x_get {C : String} {T : u_T} {N index : Nat} (C0 : Cx E p s m args meth c A cc nL own Ts ret) (hw : mw E A s.heap H locs ws) (ci : Nat) (hin : ∀ w ∈ u_ws C T N, w ∈ Ts) (hc : vwCl[ci]? = some (C, T, N)) (q0 : Nat) {a : Nat} {fs : List Value} (he : ws[q0]? = some (a, .inr (ci, fs))) (k : Nat) (hk : k < N) (i : Nat) (hl : Ts[i]? = some (Cond.fieldLink own index (T k).1 (T k).2.1 (T k).2.2.1)) {v : Value} (hv : fs[k]? = some v) (hdg : decode cc pc = .ok (.getfield index, 3))
    (kk : W p l e R s m args below meth c H locs cells slots Q (F0 m (pc + 3) ls (v :: rest))) : W p l e R s m args below meth c H locs cells slots Q (F0 m pc ls (.ref a :: rest)) :=
  va_get C0.1 C0.2.1 C0.2.2.2.2.1 hin C0.2.2.2.1 C0.2.2.2.2.2.1 hw.1 q0 he hc k hk (C0.2.2.2.2.1 _ (List.mem_of_getElem? hl)) (fun _ h => h) hv hdg kk
theorem x_getN {C host : String} {T : u_T} {N index : Nat} (C0 : Cx E p s m args meth c A cc nL own Ts ret) (hw : mw E A s.heap H locs ws) (ci : Nat) (hin : ∀ w ∈ u_ws C T N, w ∈ Ts) (hc : vwCl[ci]? = some (C, T, N)) (q0 : Nat) {a : Nat} {fs : List Value} (he : ws[q0]? = some (a, .inr (ci, fs))) (k : Nat) (hk : k < N) (i : Nat) (hl : nestWords[i]? = some (Cond.fieldLinkNest own index (T k).1 (T k).2.1 (T k).2.2.1 host)) {v : Value} (hv : fs[k]? = some v) (hdg : decode cc pc = .ok (.getfield index, 3))
    (kk : W p l e R s m args below meth c H locs cells slots Q (F0 m (pc + 3) ls (v :: rest))) : W p l e R s m args below meth c H locs cells slots Q (F0 m pc ls (.ref a :: rest)) :=
  va_getN C0.1 C0.2.1 C0.2.2.2.2.1 hin C0.2.2.2.1 C0.2.2.2.2.2.1 hw.1 q0 he hc k hk (va_Nw.use rfl (C0.2.2.2.2.2.2.2.2.2.1 _ (List.mem_of_getElem? hl))) (fun _ h => h) hv hdg kk
theorem x_put {C : String} {T : u_T} {N index : Nat} (C0 : Cx E p s m args meth c A cc nL own Ts ret) (hw : mw E A s.heap H locs ws) (ci : Nat) (hin : ∀ w ∈ u_ws C T N, w ∈ Ts) (hc : vwCl[ci]? = some (C, T, N)) (ty0 : Nat → FieldType) (hty : ∀ k, k < N → parseFieldDescriptor (T k).2.2.1 = some (ty0 k)) (hnm : ∀ a, a < N → ∀ b, b < N → a ≠ b → (T a).2.1 ≠ (T b).2.1) (q0 : Nat) {a : Nat} {fs : List Value} (he : ws[q0]? = some (a, .inr (ci, fs))) (k : Nat) (hk : k < N) (i : Nat) (hl : Ts[i]? = some (Cond.fieldLink own index (T k).1 (T k).2.1 (T k).2.2.1)) (hfin : (T k).2.2.2 = false) {v : Value} (hn : narrow (ty0 k) v = v) (hfit : fits (ty0 k) v = true) (hlen : k < fs.length) (hset : ws.set q0 (a, .inr (ci, fs.set k v)) = ws') (hdg : decode cc pc = .ok (.putfield index, 3))
    (kk : ∀ (H1 : Heap) (locs1 : List Loc), mw E A s.heap H1 locs1 ws' → W p l e R s m args below meth c H1 locs1 cells slots Q (F0 m (pc + 3) ls rest)) : W p l e R s m args below meth c H locs cells slots Q (F0 m pc ls (v :: .ref a :: rest)) := by
  subst hset
  exact va_put C0.1 C0.2.1 C0.2.2.2.2.1 hin ty0 hty hnm C0.2.2.2.1 C0.2.2.2.2.2.1 hw.1 hw.2.1 hw.2.2 q0 he hc k hk (C0.2.2.2.2.1 _ (List.mem_of_getElem? hl)) (fun _ h => h) hfin (hty k hk) hn hfit hlen hdg (fun H1 locs1 h1 h2 h3 => kk H1 locs1 ⟨h1, h2, h3⟩)
theorem x_putN {C host : String} {T : u_T} {N index : Nat} (C0 : Cx E p s m args meth c A cc nL own Ts ret) (hw : mw E A s.heap H locs ws) (ci : Nat) (hin : ∀ w ∈ u_ws C T N, w ∈ Ts) (hc : vwCl[ci]? = some (C, T, N)) (ty0 : Nat → FieldType) (hty : ∀ k, k < N → parseFieldDescriptor (T k).2.2.1 = some (ty0 k)) (hnm : ∀ a, a < N → ∀ b, b < N → a ≠ b → (T a).2.1 ≠ (T b).2.1) (q0 : Nat) {a : Nat} {fs : List Value} (he : ws[q0]? = some (a, .inr (ci, fs))) (k : Nat) (hk : k < N) (i : Nat) (hl : nestWords[i]? = some (Cond.fieldLinkNest own index (T k).1 (T k).2.1 (T k).2.2.1 host)) (hfin : (T k).2.2.2 = false) {v : Value} (hn : narrow (ty0 k) v = v) (hfit : fits (ty0 k) v = true) (hlen : k < fs.length) (hset : ws.set q0 (a, .inr (ci, fs.set k v)) = ws') (hdg : decode cc pc = .ok (.putfield index, 3))
    (kk : ∀ (H1 : Heap) (locs1 : List Loc), mw E A s.heap H1 locs1 ws' → W p l e R s m args below meth c H1 locs1 cells slots Q (F0 m (pc + 3) ls rest)) : W p l e R s m args below meth c H locs cells slots Q (F0 m pc ls (v :: .ref a :: rest)) := by
  subst hset
  exact va_putN C0.1 C0.2.1 C0.2.2.2.2.1 hin ty0 hty hnm C0.2.2.2.1 C0.2.2.2.2.2.1 hw.1 hw.2.1 hw.2.2 q0 he hc k hk (va_Nw.use rfl (C0.2.2.2.2.2.2.2.2.2.1 _ (List.mem_of_getElem? hl))) (fun _ h => h) hfin (hty k hk) hn hfit hlen hdg (fun H1 locs1 h1 h2 h3 => kk H1 locs1 ⟨h1, h2, h3⟩)
theorem x_ald {i : Int32} (C0 : Cx E p s m args meth c A cc nL own Ts ret) (hw : mw E A s.heap H locs ws) (q0 : Nat) {a n : Nat} {f : Nat → Int32} (ha : ws[q0]? = some (a, .inl (E.2.1, n, .inl f))) (hi : vp_in i n) (hdg : decode cc pc = .ok (.iaload, 1))
    (kk : W p l e R s m args below meth c H locs cells slots Q (F0 m (pc + 1) ls (.int (f (tn i)) :: rest))) : W p l e R s m args below meth c H locs cells slots Q (F0 m pc ls (.int i :: .ref a :: rest)) :=
  va_iald (n := n) C0.1 C0.2.1 C0.2.2.2.2.2.1 hw.1 q0 0 ha rfl hi hdg kk
theorem x_ald' {i : Int32} (C0 : Cx E p s m args meth c A cc nL own Ts ret) (hw : mw E A s.heap H locs ws) (q0 : Nat) {a n : Nat} {f : Nat → Int32} (ha : ws[q0]? = some (a, .inl (E.2.2.1, n, .inl f))) (hi : vp_in i n) (hdg : decode cc pc = .ok (.caload, 1))
    (kk : W p l e R s m args below meth c H locs cells slots Q (F0 m (pc + 1) ls (.int (f (tn i)) :: rest))) : W p l e R s m args below meth c H locs cells slots Q (F0 m pc ls (.int i :: .ref a :: rest)) :=
  va_cald (n := n) C0.1 C0.2.1 C0.2.2.2.2.2.1 hw.1 q0 1 ha rfl hi hdg kk
theorem x_ast {i x : Int32} (C0 : Cx E p s m args meth c A cc nL own Ts ret) (hw : mw E A s.heap H locs ws) (q0 : Nat) {a n : Nat} {f : Nat → Int32} (ha : ws[q0]? = some (a, .inl (E.2.1, n, .inl f))) (hi : vp_in i n) (hset : ws.set q0 (a, .inl (E.2.1, n, .inl (upd f (tn i) x))) = ws') (hdg : decode cc pc = .ok (.iastore, 1))
    (kk : ∀ (H1 : Heap) (locs1 : List Loc), mw E A s.heap H1 locs1 ws' → W p l e R s m args below meth c H1 locs1 cells slots Q (F0 m (pc + 1) ls rest)) : W p l e R s m args below meth c H locs cells slots Q (F0 m pc ls (.int x :: .int i :: .ref a :: rest)) := by
  subst hset
  exact va_iast (n := n) C0.1 C0.2.1 C0.2.2.2.2.2.1 hw.1 hw.2.1 hw.2.2 q0 0 ha rfl hi hdg (fun H1 locs1 h1 h2 h3 => kk H1 locs1 ⟨h1, h2, h3⟩)
theorem x_ast' {i x : Int32} (C0 : Cx E p s m args meth c A cc nL own Ts ret) (hw : mw E A s.heap H locs ws) (q0 : Nat) {a n : Nat} {f : Nat → Int32} (ha : ws[q0]? = some (a, .inl (E.2.2.1, n, .inl f))) (hi : vp_in i n) (hset : ws.set q0 (a, .inl (E.2.2.1, n, .inl (upd f (tn i) (vp_nar .char x)))) = ws') (hdg : decode cc pc = .ok (.castore, 1))
    (kk : ∀ (H1 : Heap) (locs1 : List Loc), mw E A s.heap H1 locs1 ws' → W p l e R s m args below meth c H1 locs1 cells slots Q (F0 m (pc + 1) ls rest)) : W p l e R s m args below meth c H locs cells slots Q (F0 m pc ls (.int x :: .int i :: .ref a :: rest)) := by
  subst hset
  exact va_cast (n := n) C0.1 C0.2.1 C0.2.2.2.2.2.1 hw.1 hw.2.1 hw.2.2 q0 1 ha rfl hi hdg (fun H1 locs1 h1 h2 h3 => kk H1 locs1 ⟨h1, h2, h3⟩)
theorem x_alen {v : Int32} (C0 : Cx E p s m args meth c A cc nL own Ts ret) (hw : mw E A s.heap H locs ws) (q0 : Nat) {a n : Nat} {f : Nat → Int32} (ha : ws[q0]? = some (a, .inl (E.2.1, n, .inl f))) (hv : nI n = v) (hdg : decode cc pc = .ok (.arraylength, 1))
    (kk : W p l e R s m args below meth c H locs cells slots Q (F0 m (pc + 1) ls (.int v :: rest))) : W p l e R s m args below meth c H locs cells slots Q (F0 m pc ls (.ref a :: rest)) :=
  va_alen C0.1 C0.2.1 C0.2.2.2.2.2.1 hw.1 q0 0 ha (ty := .int) rfl hv hdg kk
theorem x_ldc {v : Int32} {index : Nat} (C0 : Cx E p s m args meth c A cc nL own Ts ret) (i : Nat) (hl : Ts[i]? = some (Cond.constant own index v)) (hdg : decode cc pc = .ok (.ldc index, 2)) (k : W p l e R s m args below meth c H locs cells slots Q (F0 m (pc + 2) ls (.int v :: rest))) : W p l e R s m args below meth c H locs cells slots Q (F0 m pc ls rest) :=
  lv_ldc C0.1 C0.2.1 C0.2.2.2.1 (C0.2.2.2.2.1 _ (List.mem_of_getElem? hl)) hdg k
theorem x_ldcw {v : Int32} {index : Nat} (C0 : Cx E p s m args meth c A cc nL own Ts ret) (i : Nat) (hl : Ts[i]? = some (Cond.constant own index v)) (hdg : decode cc pc = .ok (.ldc_w index, 3)) (k : W p l e R s m args below meth c H locs cells slots Q (F0 m (pc + 3) ls (.int v :: rest))) : W p l e R s m args below meth c H locs cells slots Q (F0 m pc ls rest) :=
  lv_ldcw C0.1 C0.2.1 C0.2.2.2.1 (C0.2.2.2.2.1 _ (List.mem_of_getElem? hl)) hdg k
theorem x_abs {x : Int32} {index : Nat} (C0 : Cx E p s m args meth c A cc nL own Ts ret) (hls : ls.size = nL) (i : Nat) (hl : Ts[i]? = some (Cond.methodLink own index Lib.Math.abs.name)) (h1 : Ts[i + 1]? = some (Cond.static Lib.Math.abs.name)) (h2 : Ts[i + 2]? = some (Cond.initialized "java/lang/Math")) (h3 : Ts[i + 3]? = some (Cond.code Lib.Math.abs.name Lib.Math.abs.code 1 (some .int)))
    (hf : 1 ≤ R.frames) (hlo : (rest.map fun v => v.category).sum + 13 ≤ R.locals) (hcs : cells ≤ R.cells ∧ slots ≤ R.slots) (hdg : decode cc pc = .ok (.invokestatic index, 3)) (k : W p l e R s m args below meth c H locs cells slots Q (F0 m (pc + 3) ls (.int (if 0 ≤ x then x else 0 - x) :: rest))) : W p l e R s m args below meth c H locs cells slots Q (F0 m pc ls (.int x :: rest)) := by
  obtain ⟨hx, hb, hml, hown, hts, -⟩ := C0
  exact va_mabs hx hb (hml.trans hls.symm) hown (hts _ (List.mem_of_getElem? hl)) (hts _ (List.mem_of_getElem? h1)) (hts _ (List.mem_of_getElem? h2)) (hts _ (List.mem_of_getElem? h3)) hf hlo hcs.1 hcs.2 hdg k
theorem x_max {x y : Int32} {index : Nat} (C0 : Cx E p s m args meth c A cc nL own Ts ret) (hls : ls.size = nL) (i : Nat) (hl : Ts[i]? = some (Cond.methodLink own index Lib.Math.max.name)) (h1 : Ts[i + 1]? = some (Cond.static Lib.Math.max.name)) (h2 : Ts[i + 2]? = some (Cond.initialized "java/lang/Math")) (h3 : Ts[i + 3]? = some (Cond.code Lib.Math.max.name Lib.Math.max.code 2 (some .int)))
    (hf : 1 ≤ R.frames) (hlo : (rest.map fun v => v.category).sum + 13 ≤ R.locals) (hcs : cells ≤ R.cells ∧ slots ≤ R.slots) (hdg : decode cc pc = .ok (.invokestatic index, 3)) (k : W p l e R s m args below meth c H locs cells slots Q (F0 m (pc + 3) ls (.int (if x < y then y else x) :: rest))) : W p l e R s m args below meth c H locs cells slots Q (F0 m pc ls (.int y :: .int x :: rest)) := by
  obtain ⟨hx, hb, hml, hown, hts, -⟩ := C0
  exact va_mmax hx hb (hml.trans hls.symm) hown (hts _ (List.mem_of_getElem? hl)) (hts _ (List.mem_of_getElem? h1)) (hts _ (List.mem_of_getElem? h2)) (hts _ (List.mem_of_getElem? h3)) hf hlo hcs.1 hcs.2 hdg k
theorem x_copy {n : Int32} {N index : Nat} (C0 : Cx E p s m args meth c A cc nL own Ts ret) (hw : mw E A s.heap H locs ws) (hls : ls.size = nL) (i : Nat) (hl : Ts[i]? = some (Cond.methodLink own index arraycopyName)) (i1 i2 i3 : Nat) (hl1 : Ts[i1]? = some (Cond.native arraycopyName)) (hl2 : Ts[i2]? = some (Cond.static arraycopyName)) (hl3 : Ts[i3]? = some (Cond.initialized "java/lang/System"))
    (q0 q1 : Nat) {a0 a : Nat} {f g : Nat → Int32} (ha0 : ws[q0]? = some (a0, .inl (E.2.1, N, .inl f))) (ha1 : ws[q1]? = some (a, .inl (E.2.1, N, .inl g))) (hn : n = nI N) (hN : Nat.blt N 2147483648 = true) (hset : ws.set q1 (a, .inl (E.2.1, N, .inl (va_cpy f g 0 0 N))) = ws')
    (hf : 1 ≤ R.frames) (hlo : (rest.map fun v => v.category).sum + 18 ≤ R.locals) (hdg : decode cc pc = .ok (.invokestatic index, 3))
    (kk : ∀ (H1 : Heap) (locs1 : List Loc), mw E A s.heap H1 locs1 ws' → W p l e R s m args below meth c H1 locs1 cells slots Q (F0 m (pc + 3) ls rest)) : W p l e R s m args below meth c H locs cells slots Q (F0 m pc ls (.int n :: .int 0 :: .ref a :: .int 0 :: .ref a0 :: rest)) := by
  subst hset
  subst hn
  have hN' : N < 2147483648 := Nat.blt_eq.mp hN
  have hc : (nI N).toNatClampNeg = N := nI_clamp (by omega)
  have hz : (0 : Int32).toNatClampNeg = 0 := by decide
  obtain ⟨hx, hb, hml, hown, hts, hK, -⟩ := C0
  refine va_copyi hx hb (hml.trans hls.symm) hown (hts _ (List.mem_of_getElem? hl)) (hts _ (List.mem_of_getElem? hl1)) (hts _ (List.mem_of_getElem? hl2)) (hts _ (List.mem_of_getElem? hl3)) hK hw.1 hw.2.1 hw.2.2 q0 q1 0 0 ha0 ha1 rfl (ty := .int) rfl rfl (by decide) (by decide) (nI_pos (by omega)) (by rw [hc, hz]; omega) (by rw [hc, hz]; omega) (fun _ _ => rfl) hf hlo hdg (fun H1 locs1 h1 h2 h3 => kk H1 locs1 ?_)
  rw [hc, hz] at h1 h2
  exact ⟨h1, h2, h3⟩
/-- a switch: at a number of its table -/
theorem x_tabIn {x : Int32} {dflt lo hi : Int} {offs : Array Int} {len : Nat} {off : Int} {tgt : Nat} (C0 : Cx E p s m args meth c A cc nL own Ts ret) (v : Int32) (hv : x = v) (hdg : decode cc pc = .ok (.tableswitch dflt lo hi offs, len)) (h1 : ¬ v.toInt < lo) (h2 : ¬ hi < v.toInt) (ho : offs[(v.toInt - lo).toNat]? = some off) (ht : (pc : Int) + off = (tgt : Int))
    (k : W p l e R s m args below meth c H locs cells slots Q (F0 m tgt ls rest)) : W p l e R s m args below meth c H locs cells slots Q (F0 m pc ls (.int x :: rest)) := by
  subst hv
  exact lv_tableIn C0.1 C0.2.1 hdg h1 h2 ho ht k
theorem ne_toInt {x k : Int32} {z : Int} (hk : k.toInt = z) (h : ¬ x = k) : x.toInt ≠ z := fun e => h (Int32.toInt_inj.mp (e.trans hk.symm))
theorem in4 {i : Int32} (h : vp_in i 4) : i = 0 ∨ i = 1 ∨ i = 2 ∨ i = 3 := by
  obtain ⟨j, hj, rfl⟩ := vp_in_of h (by decide)
  rcases (show j = 0 ∨ j = 1 ∨ j = 2 ∨ j = 3 by omega) with rfl | rfl | rfl | rfl
  · exact Or.inl rfl
  · exact Or.inr (Or.inl rfl)
  · exact Or.inr (Or.inr (Or.inl rfl))
  · exact Or.inr (Or.inr (Or.inr rfl))
theorem x_aldq {i : Int32} {v : Nat} (C0 : Cx E p s m args meth c A cc nL own Ts ret) (hw : mw E A s.heap H locs ws) (q0 : Nat) {a n : Nat} {f : Nat → Option Nat} (ha : ws[q0]? = some (a, .inl (E.2.2.2.1, n, .inr (.inr (.inr (.inr f)))))) (hi : vp_in i n) (hv : va_rf (f (tn i)) = .ref v) (hdg : decode cc pc = .ok (.aaload, 1))
    (kk : W p l e R s m args below meth c H locs cells slots Q (F0 m (pc + 1) ls (.ref v :: rest))) : W p l e R s m args below meth c H locs cells slots Q (F0 m pc ls (.int i :: .ref a :: rest)) := by
  refine va_aldq (n := n) (C := "GemMemos$Market") C0.1 C0.2.1 C0.2.2.2.2.2.1 hw.1 q0 2 ha rfl hi hdg ?_
  rw [show va_rf (f i.toNatClampNeg) = .ref v from hv]
  exact kk
/-- another number on top, the same -/
theorem x_as {x y : Int32} (h : x = y) (k : W p l e R s m args below meth c H locs cells slots Q (F0 m pc ls (.int y :: rest))) : W p l e R s m args below meth c H locs cells slots Q (F0 m pc ls (.int x :: rest)) := by rw [h]; exact k
theorem x_pre {w0 F : va_W} (C0 : Cx E p s m args meth c A cc nL own Ts ret) (hw : mw E A s.heap H locs ws) (hp : ws.Perm (w0 ++ F)) {U : State} (hU : U.heap = H) (hW : s.WarmedH U.vm) : preW E w0 H.size U := by
  obtain ⟨-, -, -, -, -, hK, -, -, hA, hN, hLR, hL⟩ := C0
  have hm := hw.perm hp
  refine ⟨by rw [hU], by rw [hU]; exact wP_mem.mpr fun q hq => wP_mem.mp hm.1 q (List.mem_append_left _ hq), va_K.moved hW.alike hK, wD_mem.mpr ⟨(List.pairwise_append.mp (wD_mem.mp hm.2.1).1).1, fun _ _ => trivial⟩, hN.warm hW, hLR.warm hW, ?_⟩
  have h1 : litOK E A U H := litOK.moved hW.alike (litOK.kept hL (fun a ha hn => hw.2.2.2.1 a ha hn))
  rw [hU]
  refine litOK.narrow h1 (fun q hq => ?_)
  rcases wA_mem.mp hq with ⟨x, hx, rfl⟩ | hq
  · exact (wD_mem.mp hm.2.1).2 x (List.mem_append_left _ hx)
  · exact hA q (Nat.le_trans hw.2.2.1 hq)
theorem x_blind {av : List Value} {w0 : va_W} {sz : Nat} : FrameBlind (va_Pc av (preW E w0 sz)) := by
  intro a U g mk q
  obtain ⟨q0, q1, q2, q3, q4, q5, q6, q7⟩ := q
  refine ⟨q0, q1, q2, va_K.moved (u := U) (U := U.calling g mk a) (Vm.Alike.refl U.vm) q3, q4, ?_, ?_, ?_⟩
  · exact fun w hw => by
      have h2 : (∃ a i b n d h, w = .fieldLinkNest a i b n d h) ∨ ∃ a i x h, w = .methodLinkNest a i x h := by
        have h3 : nestWords.all (fun w => match w with | .fieldLinkNest _ _ _ _ _ _ => true | .methodLinkNest _ _ _ _ => true | _ => false) = true := by rfl
        have h4 := List.all_eq_true.mp h3 w hw
        revert h4
        cases w <;> simp
      rcases h2 with ⟨a, i, b, n, d, h, rfl⟩ | ⟨a, i, x, h, rfl⟩ <;> exact va_Nw.same rfl rfl (q5 _ hw)
  · exact fun i hi => (q6 i hi).same rfl
  · exact litOK.moved (u := U) (U := U.calling g mk a) (Vm.Alike.refl U.vm) q7
theorem x_freeA {w0 F : va_W} (C0 : Cx E p s m args meth c A cc nL own Ts ret) (hw : mw E A s.heap H locs ws) (hp : ws.Perm (w0 ++ F)) : ∀ q, va_A w0 H.size q → A q := by
  intro q hq
  rcases wA_mem.mp hq with ⟨x, hx, rfl⟩ | hq
  · exact (wD_mem.mp (hw.perm hp).2.1).2 x (List.mem_append_left _ hx)
  · exact C0.2.2.2.2.2.2.2.2.1 q (Nat.le_trans hw.2.2.1 hq)
theorem x_join {w0 F w9 : va_W} {H1 : Heap} {locs1 : List Loc} (C0 : Cx E p s m args meth c A cc nL own Ts ret) (hw : mw E A s.heap H locs ws) (hp : ws.Perm (w0 ++ F)) (hk : ∀ q : Nat, q < H.size → ¬ va_A w0 H.size q → H1[q]? = H[q]?) (hP1 : va_P E.1 vwCl w9 H1) (hD1 : va_D (va_A w0 H.size) w9) (hS : va_S A s.heap H1 locs1) : mw E A s.heap H1 locs1 (w9 ++ F) := by
  have hm := hw.perm hp
  have hfr := x_freeA C0 hw hp
  obtain ⟨d1, d2⟩ := wD_mem.mp hm.2.1
  obtain ⟨e1, e2⟩ := wD_mem.mp hD1
  obtain ⟨p1, p2, p3⟩ := List.pairwise_append.mp d1
  have hF : ∀ q ∈ F, q.1 < H.size ∧ ¬ va_A w0 H.size q.1 := by
    intro q hq
    have hl := (wP_mem.mp hm.1 q (List.mem_append_right _ hq)).lt
    refine ⟨hl, fun h => ?_⟩
    rcases wA_mem.mp h with ⟨x, hx, hxq⟩ | h
    · exact p3 x hx q hq hxq
    · omega
  refine ⟨wP_mem.mpr fun q hq => ?_, wD_mem.mpr ⟨List.pairwise_append.mpr ⟨e1, p2, fun x hx y hy hxy => ?_⟩, fun q hq => ?_⟩, hS⟩
  · rcases List.mem_append.mp hq with h | h
    · exact wP_mem.mp hP1 q h
    · exact (wP_mem.mp hm.1 q (List.mem_append_right _ h)).kept (hk q.1 (hF q h).1 (hF q h).2)
  · exact (hF y hy).2 (hxy ▸ e2 x hx)
  · rcases List.mem_append.mp hq with h | h
    · exact hfr q.1 (e2 q h)
    · exact d2 q (List.mem_append_right _ h)
/-- behind a call that answers an int -/
theorem x_aft {w0 F : va_W} {S : Type} {post : Int32 → S → Prop} {w1 : S → va_W} {a : Array Value} (C0 : Cx E p s m args meth c A cc nL own Ts ret) (hw : mw E A s.heap H locs ws) (hp : ws.Perm (w0 ++ F))
    (hr : va_Run p l e R s m args below meth c H locs cells slots 0 0 (F0 m pc ls st0) rest (va_Qi post (fun u t => va_P E.1 vwCl (w1 u) t.heap ∧ va_D (va_A w0 H.size) (w1 u)) (va_A w0 H.size) a) (va_A w0 H.size))
    (kk : ∀ (r : Int32) (u : S) (H1 : Heap) (locs1 : List Loc), post r u → mw E A s.heap H1 locs1 (w1 u ++ F) → W p l e R s m args below meth c H1 locs1 cells slots Q (F0 m (pc + 3) ls (.int r :: rest))) : W p l e R s m args below meth c H locs cells slots Q (F0 m pc ls st0) := by
  have hfr := x_freeA C0 hw hp
  refine va_calli hr hw.2.2 (fun q _ h => hfr q h) hfr (fun r u t H1 locs1 ht hvm hpo hB hz hk hS => ?_)
  rw [ht] at hB
  exact kk r u H1 locs1 hpo (x_join C0 hw hp hk hB.1 hB.2 hS)
theorem x_aftv {w0 F : va_W} {S : Type} {post : S → Prop} {w1 : S → va_W} {a : Array Value} (C0 : Cx E p s m args meth c A cc nL own Ts ret) (hw : mw E A s.heap H locs ws) (hp : ws.Perm (w0 ++ F))
    (hr : va_Run p l e R s m args below meth c H locs cells slots 0 0 (F0 m pc ls st0) rest (va_Qv post (fun u t => va_P E.1 vwCl (w1 u) t.heap ∧ va_D (va_A w0 H.size) (w1 u)) (va_A w0 H.size) a) (va_A w0 H.size))
    (kk : ∀ (u : S) (H1 : Heap) (locs1 : List Loc), post u → mw E A s.heap H1 locs1 (w1 u ++ F) → W p l e R s m args below meth c H1 locs1 cells slots Q (F0 m (pc + 3) ls rest)) : W p l e R s m args below meth c H locs cells slots Q (F0 m pc ls st0) := by
  have hfr := x_freeA C0 hw hp
  refine va_callv hr hw.2.2 (fun q _ h => hfr q h) hfr (fun u t H1 locs1 ht hvm hpo hB hz hk hS => ?_)
  rw [ht] at hB
  exact kk u H1 locs1 hpo (x_join C0 hw hp hk hB.1 hB.2 hS)
section RUN
variable {yc : MethodName} {wsc wsc' : List Cond} {rmc : Room} {w0 F : va_W} {Qc : Nat → Array Value → State → Outcome → State → Prop} {b : Nat} {As : List Value} {C : String} {T : u_T} {N index maxL n : Nat} {bytes : ByteArray} {retc : Option FieldType}
/-- a call of a method of an object -/
theorem x_runV (C0 : Cx E p s m args meth c A cc nL own Ts ret) (hw : mw E A s.heap H locs ws) (hp : ws.Perm (w0 ++ F)) (hls : ls.size = nL) (q0 ci : Nat) {fs : List Value} (he : ws[q0]? = some (b, .inr (ci, fs))) (hc : vwCl[ci]? = some (C, T, N))
    (cal : ∀ sz : Nat, Met l yc wsc rmc (va_Pc (.ref b :: As) (preW E w0 sz)) (Qc sz) 0 0 (va_A w0 sz)) (n : Nat) (hT : GoodIn Ts (wsV own index C yc wsc)) (hcode : wsc = Cond.code yc bytes maxL retc :: wsc') (hrc : rmc.cells = 0 ∧ rmc.slots = 0)
    (hd : yc.cls = C ∧ yc.cls ≠ "java/lang/invoke/MethodHandle" ∧ yc.cls ≠ "java/lang/invoke/VarHandle" ∧ (parseMethodDescriptor yc.desc).map (fun d => d.parameters.length) = some n) (hR : rmc.frames + 1 ≤ R.frames ∧ 8 + (maxL + 11) + rmc.locals ≤ R.locals)
    (hn : As.length = n) (hst : st0 = As.reverse ++ .ref b :: rest) (hcat : (rest.map fun v => v.category).sum ≤ 8) (hdg : decode cc pc = .ok (.invokevirtual index, 3)) (hf : cells ≤ R.cells ∧ slots ≤ R.slots) :
    va_Run p l e R s m args below meth c H locs cells slots 0 0 (F0 m pc ls st0) rest (Qc H.size (Value.ref b :: As).toArray) (va_A w0 H.size) :=
  va_runV (As := As) (rest := rest) ⟨C0.1, C0.2.1, C0.2.2.1, C0.2.2.2.1, C0.2.2.2.2.1⟩ (cal H.size) (cwV n C0.2.2.2.2.1 hT hcode hrc.1 hrc.2 hd hR) ⟨x_blind, va_recv C0.2.2.2.2.2.1 hw.1 hc he, fun _ hU hW => ⟨rfl, x_pre C0 hw hp hU hW⟩⟩ rfl hn hls hst (lv_room hcat) hdg hf
/-- a call of a method without an object -/
theorem x_runS (C0 : Cx E p s m args meth c A cc nL own Ts ret) (hw : mw E A s.heap H locs ws) (hp : ws.Perm (w0 ++ F)) (hls : ls.size = nL)
    (cal : ∀ sz : Nat, Met l yc wsc rmc (va_Pc As (preW E w0 sz)) (Qc sz) 0 0 (va_A w0 sz)) (n : Nat) (hT : GoodIn Ts (va_wsS own index yc wsc)) (hcode : wsc = Cond.code yc bytes maxL retc :: wsc') (hrc : rmc.cells = 0 ∧ rmc.slots = 0)
    (hd : yc.cls ≠ "java/lang/invoke/MethodHandle" ∧ yc.cls ≠ "java/lang/invoke/VarHandle" ∧ (parseMethodDescriptor yc.desc).map (fun d => d.parameters.length) = some n) (hR : rmc.frames + 1 ≤ R.frames ∧ 8 + (maxL + 11) + rmc.locals ≤ R.locals)
    (hn : As.length = n) (hst : st0 = As.reverse ++ rest) (hcat : (rest.map fun v => v.category).sum ≤ 8) (hdg : decode cc pc = .ok (.invokestatic index, 3)) (hf : cells ≤ R.cells ∧ slots ≤ R.slots) :
    va_Run p l e R s m args below meth c H locs cells slots 0 0 (F0 m pc ls st0) rest (Qc H.size As.toArray) (va_A w0 H.size) :=
  va_runS (As := As) (rest := rest) ⟨C0.1, C0.2.1, C0.2.2.1, C0.2.2.2.1, C0.2.2.2.2.1⟩ (cal H.size) (va_cwS n C0.2.2.2.2.1 hT hcode hrc.1 hrc.2 hd hR) ⟨x_blind, fun _ hU hW => ⟨rfl, x_pre C0 hw hp hU hW⟩⟩ rfl hn hls hst (lv_room hcat) hdg hf
/-- the same, of a nest mate's -/
theorem x_runSN {host : String} (C0 : Cx E p s m args meth c A cc nL own Ts ret) (hw : mw E A s.heap H locs ws) (hp : ws.Perm (w0 ++ F)) (hls : ls.size = nL)
    (cal : ∀ sz : Nat, Met l yc wsc rmc (va_Pc As (preW E w0 sz)) (Qc sz) 0 0 (va_A w0 sz)) (n : Nat) (hT : GoodIn Ts wsc) (hcode : wsc = Cond.code yc bytes maxL retc :: wsc') (hrc : rmc.cells = 0 ∧ rmc.slots = 0) (i : Nat) (hl : nestWords[i]? = some (.methodLinkNest own index yc host)) (i2 : Nat) (hini : Ts[i2]? = some (Cond.initialized yc.cls)) (i3 : Nat) (hsta : Ts[i3]? = some (Cond.static yc))
    (hd : yc.cls ≠ "java/lang/invoke/MethodHandle" ∧ yc.cls ≠ "java/lang/invoke/VarHandle" ∧ (parseMethodDescriptor yc.desc).map (fun d => d.parameters.length) = some n) (hR : rmc.frames + 1 ≤ R.frames ∧ 8 + (maxL + 11) + rmc.locals ≤ R.locals)
    (hn : As.length = n) (hst : st0 = As.reverse ++ rest) (hcat : (rest.map fun v => v.category).sum ≤ 8) (hdg : decode cc pc = .ok (.invokestatic index, 3)) (hf : cells ≤ R.cells ∧ slots ≤ R.slots) :
    va_Run p l e R s m args below meth c H locs cells slots 0 0 (F0 m pc ls st0) rest (Qc H.size As.toArray) (va_A w0 H.size) :=
  va_runSN (As := As) (rest := rest) (host := host) ⟨C0.1, C0.2.1, C0.2.2.1, C0.2.2.2.1, C0.2.2.2.2.1⟩ (cal H.size) ⟨va_cnB n C0.2.2.2.2.1 hT hcode hrc.1 hrc.2 (C0.2.2.2.2.2.2.2.2.2.1 _ (List.mem_of_getElem? hl)) (C0.2.2.2.2.1 _ (List.mem_of_getElem? hini)) hd hR, C0.2.2.2.2.1 _ (List.mem_of_getElem? hsta), trivial⟩ ⟨x_blind, fun _ hU hW => ⟨rfl, x_pre C0 hw hp hU hW⟩⟩ rfl hn hls hst (lv_room hcat) hdg hf
theorem x_cV {S : Type} {post : Int32 → S → Prop} {w1 : S → va_W} (C0 : Cx E p s m args meth c A cc nL own Ts ret) (hw : mw E A s.heap H locs ws) (hp : ws.Perm (w0 ++ F)) (hls : ls.size = nL) (q0 ci : Nat) {fs : List Value} (he : ws[q0]? = some (b, .inr (ci, fs))) (hc : vwCl[ci]? = some (C, T, N))
    (cal : KI l E yc wsc rmc (.ref b :: As) w0 post w1) (n : Nat) (hT : GoodIn Ts (wsV own index C yc wsc)) (hcode : wsc = Cond.code yc bytes maxL retc :: wsc') (hrc : rmc.cells = 0 ∧ rmc.slots = 0)
    (hd : yc.cls = C ∧ yc.cls ≠ "java/lang/invoke/MethodHandle" ∧ yc.cls ≠ "java/lang/invoke/VarHandle" ∧ (parseMethodDescriptor yc.desc).map (fun d => d.parameters.length) = some n) (hR : rmc.frames + 1 ≤ R.frames ∧ 8 + (maxL + 11) + rmc.locals ≤ R.locals)
    (hn : As.length = n) (hst : st0 = As.reverse ++ .ref b :: rest) (hcat : (rest.map fun v => v.category).sum ≤ 8) (hdg : decode cc pc = .ok (.invokevirtual index, 3)) (hf : cells ≤ R.cells ∧ slots ≤ R.slots)
    (kk : ∀ (r : Int32) (u : S) (H1 : Heap) (locs1 : List Loc), post r u → mw E A s.heap H1 locs1 (w1 u ++ F) → W p l e R s m args below meth c H1 locs1 cells slots Q (F0 m (pc + 3) ls (.int r :: rest))) : W p l e R s m args below meth c H locs cells slots Q (F0 m pc ls st0) :=
  x_aft C0 hw hp (x_runV (Qc := fun sz => va_Qi post (fun u t => va_P E.1 vwCl (w1 u) t.heap ∧ va_D (va_A w0 sz) (w1 u)) (va_A w0 sz)) C0 hw hp hls q0 ci he hc cal n hT hcode hrc hd hR hn hst hcat hdg hf) kk
theorem x_cVv {S : Type} {post : S → Prop} {w1 : S → va_W} (C0 : Cx E p s m args meth c A cc nL own Ts ret) (hw : mw E A s.heap H locs ws) (hp : ws.Perm (w0 ++ F)) (hls : ls.size = nL) (q0 ci : Nat) {fs : List Value} (he : ws[q0]? = some (b, .inr (ci, fs))) (hc : vwCl[ci]? = some (C, T, N))
    (cal : KV l E yc wsc rmc (.ref b :: As) w0 post w1) (n : Nat) (hT : GoodIn Ts (wsV own index C yc wsc)) (hcode : wsc = Cond.code yc bytes maxL retc :: wsc') (hrc : rmc.cells = 0 ∧ rmc.slots = 0)
    (hd : yc.cls = C ∧ yc.cls ≠ "java/lang/invoke/MethodHandle" ∧ yc.cls ≠ "java/lang/invoke/VarHandle" ∧ (parseMethodDescriptor yc.desc).map (fun d => d.parameters.length) = some n) (hR : rmc.frames + 1 ≤ R.frames ∧ 8 + (maxL + 11) + rmc.locals ≤ R.locals)
    (hn : As.length = n) (hst : st0 = As.reverse ++ .ref b :: rest) (hcat : (rest.map fun v => v.category).sum ≤ 8) (hdg : decode cc pc = .ok (.invokevirtual index, 3)) (hf : cells ≤ R.cells ∧ slots ≤ R.slots)
    (kk : ∀ (u : S) (H1 : Heap) (locs1 : List Loc), post u → mw E A s.heap H1 locs1 (w1 u ++ F) → W p l e R s m args below meth c H1 locs1 cells slots Q (F0 m (pc + 3) ls rest)) : W p l e R s m args below meth c H locs cells slots Q (F0 m pc ls st0) :=
  x_aftv C0 hw hp (x_runV (Qc := fun sz => va_Qv post (fun u t => va_P E.1 vwCl (w1 u) t.heap ∧ va_D (va_A w0 sz) (w1 u)) (va_A w0 sz)) C0 hw hp hls q0 ci he hc cal n hT hcode hrc hd hR hn hst hcat hdg hf) kk
theorem x_cS {S : Type} {post : Int32 → S → Prop} {w1 : S → va_W} (C0 : Cx E p s m args meth c A cc nL own Ts ret) (hw : mw E A s.heap H locs ws) (hp : ws.Perm (w0 ++ F)) (hls : ls.size = nL)
    (cal : KI l E yc wsc rmc As w0 post w1) (n : Nat) (hT : GoodIn Ts (va_wsS own index yc wsc)) (hcode : wsc = Cond.code yc bytes maxL retc :: wsc') (hrc : rmc.cells = 0 ∧ rmc.slots = 0)
    (hd : yc.cls ≠ "java/lang/invoke/MethodHandle" ∧ yc.cls ≠ "java/lang/invoke/VarHandle" ∧ (parseMethodDescriptor yc.desc).map (fun d => d.parameters.length) = some n) (hR : rmc.frames + 1 ≤ R.frames ∧ 8 + (maxL + 11) + rmc.locals ≤ R.locals)
    (hn : As.length = n) (hst : st0 = As.reverse ++ rest) (hcat : (rest.map fun v => v.category).sum ≤ 8) (hdg : decode cc pc = .ok (.invokestatic index, 3)) (hf : cells ≤ R.cells ∧ slots ≤ R.slots)
    (kk : ∀ (r : Int32) (u : S) (H1 : Heap) (locs1 : List Loc), post r u → mw E A s.heap H1 locs1 (w1 u ++ F) → W p l e R s m args below meth c H1 locs1 cells slots Q (F0 m (pc + 3) ls (.int r :: rest))) : W p l e R s m args below meth c H locs cells slots Q (F0 m pc ls st0) :=
  x_aft C0 hw hp (x_runS (Qc := fun sz => va_Qi post (fun u t => va_P E.1 vwCl (w1 u) t.heap ∧ va_D (va_A w0 sz) (w1 u)) (va_A w0 sz)) C0 hw hp hls cal n hT hcode hrc hd hR hn hst hcat hdg hf) kk
theorem x_cSN {host : String} {S : Type} {post : Int32 → S → Prop} {w1 : S → va_W} (C0 : Cx E p s m args meth c A cc nL own Ts ret) (hw : mw E A s.heap H locs ws) (hp : ws.Perm (w0 ++ F)) (hls : ls.size = nL)
    (cal : KI l E yc wsc rmc As w0 post w1) (n : Nat) (hT : GoodIn Ts wsc) (hcode : wsc = Cond.code yc bytes maxL retc :: wsc') (hrc : rmc.cells = 0 ∧ rmc.slots = 0) (i : Nat) (hl : nestWords[i]? = some (.methodLinkNest own index yc host)) (i2 : Nat) (hini : Ts[i2]? = some (Cond.initialized yc.cls)) (i3 : Nat) (hsta : Ts[i3]? = some (Cond.static yc))
    (hd : yc.cls ≠ "java/lang/invoke/MethodHandle" ∧ yc.cls ≠ "java/lang/invoke/VarHandle" ∧ (parseMethodDescriptor yc.desc).map (fun d => d.parameters.length) = some n) (hR : rmc.frames + 1 ≤ R.frames ∧ 8 + (maxL + 11) + rmc.locals ≤ R.locals)
    (hn : As.length = n) (hst : st0 = As.reverse ++ rest) (hcat : (rest.map fun v => v.category).sum ≤ 8) (hdg : decode cc pc = .ok (.invokestatic index, 3)) (hf : cells ≤ R.cells ∧ slots ≤ R.slots)
    (kk : ∀ (r : Int32) (u : S) (H1 : Heap) (locs1 : List Loc), post r u → mw E A s.heap H1 locs1 (w1 u ++ F) → W p l e R s m args below meth c H1 locs1 cells slots Q (F0 m (pc + 3) ls (.int r :: rest))) : W p l e R s m args below meth c H locs cells slots Q (F0 m pc ls st0) :=
  x_aft C0 hw hp (x_runSN (Qc := fun sz => va_Qi post (fun u t => va_P E.1 vwCl (w1 u) t.heap ∧ va_D (va_A w0 sz) (w1 u)) (va_A w0 sz)) C0 hw hp hls cal n hT hcode hrc i hl i2 hini i3 hsta hd hR hn hst hcat hdg hf) kk
end RUN
theorem p_nil (w : va_W) : w.Perm (w ++ []) := by rw [List.append_nil]
theorem p_non (w : va_W) : w.Perm (([] : va_W) ++ w) := List.Perm.refl _
theorem p_pk {α : Type} : ∀ (l : List α) (i : Nat) (x : α), l[i]? = some x → l.Perm (x :: l.eraseIdx i)
  | [], _, _, h => by simp at h
  | a :: l, 0, x, h => by
    simp at h
    subst h
    exact List.Perm.refl _
  | a :: l, i + 1, x, h => by
    have h2 := p_pk l i x (by simpa using h)
    show (a :: l).Perm (x :: a :: l.eraseIdx i)
    exact (List.Perm.cons a h2).trans (List.Perm.swap x a _)
theorem p_fl {cs ds rs : List va_W} (h : cs.Perm (ds ++ rs)) : cs.flatten.Perm (ds.flatten ++ rs.flatten) := by
  rw [← List.flatten_append]
  exact h.flatten
theorem p_fl1 {cs rs : List va_W} {d : va_W} (h : cs.Perm (d :: rs)) : cs.flatten.Perm (d ++ rs.flatten) := h.flatten
theorem p_bk {cs ds rs : List va_W} (h : cs.Perm (ds ++ rs)) : (ds.flatten ++ rs.flatten).Perm cs.flatten := (p_fl h).symm
theorem p_bk1 {cs rs : List va_W} {d : va_W} (h : cs.Perm (d :: rs)) : (d ++ rs.flatten).Perm cs.flatten := (p_fl1 h).symm
end FR
/-- the cells of a market -/
def cM (E : EE) (a : Nat → Nat) (v : V) : va_W := [
  (a 0, .inr (1, [.ref (a 1), .ref (a 6), .ref (a 16), .ref (a 22), .int (v 0 4), .int (v 0 5), .int (v 0 6), .int (v 0 7), .int (v 0 8)])),
  (a 1, .inr (3, [.ref (a 2), .ref (a 3), .ref (a 4), .ref (a 5)])),
  (a 2, .inl (E.2.1, 24, .inl (v 2))), (a 3, .inl (E.2.1, 24, .inl (v 3))), (a 4, .inl (E.2.1, 24, .inl (v 4))), (a 5, .inl (E.2.1, 24, .inl (v 5))),
  (a 6, .inr (5, [.int (v 6 0), .ref (a 7), .ref (a 8), .ref (a 9), .ref (a 10), .ref (a 11), .ref (a 12), .ref (a 13), .ref (a 14), .ref (a 15)])),
  (a 7, .inl (E.2.1, 20, .inl (v 7))), (a 8, .inl (E.2.1, 20, .inl (v 8))), (a 9, .inl (E.2.1, 20, .inl (v 9))), (a 10, .inl (E.2.1, 20, .inl (v 10))), (a 11, .inl (E.2.1, 20, .inl (v 11))), (a 12, .inl (E.2.1, 20, .inl (v 12))), (a 13, .inl (E.2.1, 20, .inl (v 13))), (a 14, .inl (E.2.1, 20, .inl (v 14))), (a 15, .inl (E.2.1, 20, .inl (v 15))),
  (a 16, .inr (2, [.int (v 16 0), .ref (a 17), .ref (a 18), .ref (a 19), .ref (a 20), .ref (a 21)])),
  (a 17, .inl (E.2.1, 10, .inl (v 17))), (a 18, .inl (E.2.1, 10, .inl (v 18))), (a 19, .inl (E.2.1, 10, .inl (v 19))), (a 20, .inl (E.2.1, 10, .inl (v 20))), (a 21, .inl (E.2.1, 10, .inl (v 21))),
  (a 22, .inl (E.2.1, 6, .inl (v 22)))]
/-- the cells of the reference -/
def cR (E : EE) (a : Nat → Nat) (v : V) : va_W := [
  (a 0, .inr (7, [.ref (a 1), .ref (a 2), .ref (a 3), .int (v 0 3), .ref (a 4), .int (v 0 5), .ref (a 5), .int (v 0 7), .int (v 0 8), .int (v 0 9), .int (v 0 10), .int (v 0 11), .ref (a 6)])),
  (a 1, .inl (E.2.1, 664, .inl (v 1))), (a 2, .inl (E.2.1, 664, .inl (v 2))), (a 3, .inl (E.2.1, 664, .inl (v 3))), (a 4, .inl (E.2.1, 2656, .inl (v 4))), (a 5, .inl (E.2.1, 60, .inl (v 5))), (a 6, .inl (E.2.1, 4, .inl (v 6)))]
/-- the cells of a script -/
def cS (E : EE) (a : Nat → Nat) (v : V) : va_W := [
  (a 0, .inr (4, [.ref (a 1), .int (v 0 1), .int (v 0 2), .ref (a 2), .int (v 0 4), .int (v 0 5), .int (v 0 6), .int (v 0 7)])),
  (a 1, .inl (E.2.2.1, 60, .inl (v 1))), (a 2, .inl (E.2.1, 4, .inl (v 2)))]
/-- which market a place of the history holds -/
def hRow (b0 b1 b2 b3 : Nat) : Nat → Option Nat := va_up (va_up (va_up (va_up (fun _ => none) 0 (some b0)) 1 (some b1)) 2 (some b2)) 3 (some b3)
/-- the cells of the history, but for its markets -/
def cH (E : EE) (a : Nat → Nat) (b0 b1 b2 b3 : Nat) (v : V) : va_W := [
  (a 0, .inr (0, [.ref (a 1), .int (v 0 1), .int (v 0 2)])),
  (a 1, .inl (E.2.2.2.1, 4, .inr (.inr (.inr (.inr (hRow b0 b1 b2 b3))))))]
/-- the outermost cell -/
def cG (a : Nat → Nat) (b0 b1 b2 b3 b4 b5 : Nat) (v : V) : va_W := [
  (a 0, .inr (6, [.ref b0, .ref b1, .ref b2, .ref b3, .ref b4, .ref b5, .int (v 0 6)]))]
end
section
/-! LITERALS: rows over the text constants, and contracts that answer one -/
/-- a contract of a method that answers a literal -/
def KL (l : Launch) (E : EE) (y : MethodName) (ws : List Cond) (rm : Room) (av : List Value) (w0 : va_W) (post : Nat → Prop) : Prop :=
  ∀ sz : Nat, Met l y ws rm (va_Pc av (preW E w0 sz)) (va_Qr (S := Nat) post (fun u a t => a = E.2.2.2.2.1 u ∧ va_P E.1 vwCl w0 t.heap ∧ va_D (va_A w0 sz) w0) (va_A w0 sz)) 0 0 (va_A w0 sz)
abbrev qL (E : EE) (A : Nat → Prop) (w0 : va_W) (post : Nat → Prop) (below : List Frame) (args : Array Value) (s : State) : State → Prop :=
  MQ below (va_Qr (S := Nat) post (fun u a t => a = E.2.2.2.2.1 u ∧ va_P E.1 vwCl w0 t.heap ∧ va_D A w0) A) args s 0 0 A
section FRL
variable {p : Program} {l : Launch} {e : Env} {R : Room} {s : State} {m : MethodId} {args : Array Value} {below : List Frame} {meth : Method} {c : Code} {H : Heap} {locs : List Loc} {cells slots : Nat} {Q : State → Prop}
variable {E : EE} {A : Nat → Prop} {cc : ByteArray} {nL : Nat} {own : String} {Ts : List Cond} {ret : Option FieldType} {pc : Nat} {ls : Array Slot} {rest st0 : List Value} {ws ws' : va_W}
set_option maxHeartbeats 1000000 in
theorem KL.go {y : MethodName} {tw tw' : List Cond} {rm : Room} {av : List Value} {w0 : va_W} {post : Nat → Prop} {maxL : Nat} (hy : plainName y.cls = true) (hw : tw = Cond.code y cc maxL ret :: tw') (hlen : (lg_sl av).length ≤ maxL) (hown : y.cls = own)
    (body : ∀ (p : Program) (e : Env) (s : State) (m : MethodId) (below : List Frame) (meth : Method) (c : Code) (A : Nat → Prop) (ls : Array Slot), Cx E p s m av.toArray meth c A cc maxL own tw ret → mw E A s.heap s.heap [] w0 → lv_has ls maxL (lv_args 0 av) →
      W p l e rm s m av.toArray below meth c s.heap [] 0 0 (qL E A w0 post below av.toArray s) (F0 m 0 ls [])) : KL l E y tw rm av w0 post := by
  intro sz
  refine Met.ofW (cc := cc) (maxL := maxL) (ret := ret) hy hw ?_
  intro p e s m args below meth c s₁ B hml hv
  obtain ⟨rfl, hsz, hP, hK, hD0, hN, hLR, hL⟩ := hv
  subst hsz
  have hts := atoms_spec (ws := tw) B.pre
  have hown' : s.vm.findClass own = some m.cls := by rw [← hown]; exact findClass_of_methodNamed B.named
  have hD := hD0.self (sz := s.heap.size)
  have hl := lv_entry av hlen
  rw [lg_entry_eq]
  have hA : ∀ q : Nat, s.heap.size ≤ q → va_A w0 s.heap.size q := fun q h => Or.inr h
  exact body p e s m below meth c (va_A w0 s.heap.size) _ ⟨B.exec, B.bytes, hml, hown', hts, hK, B.returns, B.notSynchronized, hA, hN, hLR, hL⟩ ⟨hP, hD, va_S.rf⟩ hl
theorem x_retL {post : Nat → Prop} {w0 : va_W} {n : String} (C0 : Cx E p s m args meth c A cc nL own Ts (some (.object n))) (u : Nat) (hw : mw E A s.heap H locs w0) (hp : post u) (hdg : decode cc pc = .ok (.areturn, 1)) :
    W p l e R s m args below meth c H locs 0 0 (qL E A w0 post below args s) (F0 m pc ls [.ref (E.2.2.2.2.1 u)]) := by
  obtain ⟨hx, hb, -, -, -, -, hr, hlocks, -⟩ := C0
  exact W.aret (v := .ref (E.2.2.2.2.1 u)) hx hb hr (Or.inl ⟨_, rfl⟩) (Or.inr ⟨_, rfl⟩) (fun t ht _ => ⟨⟨u, _, rfl, hp, rfl, by rw [ht]; exact hw.1, hw.2.1⟩, hw.2.2.F ht⟩) hw.2.2.2.2 hdg
theorem x_lits (C0 : Cx E p s m args meth c A cc nL own Ts ret) {u : Nat} (hu : u < 7) : va_O "java/lang/String" (E.2.2.2.2.1 u) A s s.heap ∧ va_OF "java/lang/String" "coder" "B" (.int 0) (E.2.2.2.2.1 u) A s s.heap ∧ va_OF "java/lang/String" "value" "[B" (.ref (E.2.2.2.2.2 u)) (E.2.2.2.2.1 u) A s s.heap ∧ va_T .byte (E.2.2.2.2.2 u) (litLen.getD u 0) (fun j => .int ((litByt.getD u []).getD j 0)) A s s.heap :=
  C0.2.2.2.2.2.2.2.2.2.2.2.1.1 u hu
theorem x_litv {index : Nat} (C0 : Cx E p s m args meth c A cc nL own Ts ret) (hw : mw E A s.heap H locs ws) {u : Nat} (hu : u < 7) (i : Nat) (hl : Ts[i]? = some (Cond.fieldLink own index "java/lang/String" "value" "[B")) (hdg : decode cc pc = .ok (.getfield index, 3))
    (kk : W p l e R s m args below meth c H locs cells slots Q (F0 m (pc + 3) ls (.ref (E.2.2.2.2.2 u) :: rest))) : W p l e R s m args below meth c H locs cells slots Q (F0 m pc ls (.ref (E.2.2.2.2.1 u) :: rest)) :=
  vk_getf C0.1 C0.2.1 (x_lits C0 hu).2.2.1 hw.2.2 C0.2.2.2.1 (C0.2.2.2.2.1 _ (List.mem_of_getElem? hl)) (fun _ h => h) hdg kk
theorem x_litc {index : Nat} (C0 : Cx E p s m args meth c A cc nL own Ts ret) (hw : mw E A s.heap H locs ws) {u : Nat} (hu : u < 7) (i : Nat) (hl : Ts[i]? = some (Cond.fieldLink own index "java/lang/String" "coder" "B")) (hdg : decode cc pc = .ok (.getfield index, 3))
    (kk : W p l e R s m args below meth c H locs cells slots Q (F0 m (pc + 3) ls (.int 0 :: rest))) : W p l e R s m args below meth c H locs cells slots Q (F0 m pc ls (.ref (E.2.2.2.2.1 u) :: rest)) :=
  vk_getf C0.1 C0.2.1 (x_lits C0 hu).2.1 hw.2.2 C0.2.2.2.1 (C0.2.2.2.2.1 _ (List.mem_of_getElem? hl)) (fun _ h => h) hdg kk
theorem x_litlen (C0 : Cx E p s m args meth c A cc nL own Ts ret) (hw : mw E A s.heap H locs ws) {u : Nat} (hu : u < 7) (hdg : decode cc pc = .ok (.arraylength, 1))
    (kk : W p l e R s m args below meth c H locs cells slots Q (F0 m (pc + 1) ls (.int (nI (litLen.getD u 0)) :: rest))) : W p l e R s m args below meth c H locs cells slots Q (F0 m pc ls (.ref (E.2.2.2.2.2 u) :: rest)) :=
  va_tlen C0.1 C0.2.1 (x_lits C0 hu).2.2.2 hw.2.2 rfl hdg kk
theorem x_litald {i : Int32} (C0 : Cx E p s m args meth c A cc nL own Ts ret) (hw : mw E A s.heap H locs ws) {u : Nat} (hu : u < 7) (hi : vp_in i (litLen.getD u 0)) (hdg : decode cc pc = .ok (.baload, 1))
    (kk : W p l e R s m args below meth c H locs cells slots Q (F0 m (pc + 1) ls (.int ((litByt.getD u []).getD (tn i) 0) :: rest))) : W p l e R s m args below meth c H locs cells slots Q (F0 m pc ls (.int i :: .ref (E.2.2.2.2.2 u) :: rest)) :=
  va_tb C0.1 C0.2.1 (x_lits C0 hu).2.2.2 hw.2.2 hi rfl hdg kk
theorem x_gsC {index : Nat} (C0 : Cx E p s m args meth c A cc nL own Ts ret) (hw : mw E A s.heap H locs ws) (i : Nat) (hl : Ts[i]? = some (Cond.fieldLink own index "java/lang/String" "COMPACT_STRINGS" "Z")) (hdg : decode cc pc = .ok (.getstatic index, 3))
    (kk : W p l e R s m args below meth c H locs cells slots Q (F0 m (pc + 3) ls (.int 1 :: rest))) : W p l e R s m args below meth c H locs cells slots Q (F0 m pc ls rest) :=
  va_gets C0.1 C0.2.1 C0.2.2.2.2.2.2.2.2.2.2.2.2.1 hw.2.2 C0.2.2.2.1 (C0.2.2.2.2.1 _ (List.mem_of_getElem? hl)) (fun _ h => h) hdg kk
theorem x_gsF {index : Nat} (C0 : Cx E p s m args meth c A cc nL own Ts ret) (hw : mw E A s.heap H locs ws) (i : Nat) (hl : Ts[i]? = some (Cond.fieldLink own index "jdk/internal/util/Preconditions" "SIOOBE_FORMATTER" "Ljava/util/function/BiFunction;")) (hdg : decode cc pc = .ok (.getstatic index, 3))
    (kn : W p l e R s m args below meth c H locs cells slots Q (F0 m (pc + 3) ls (.null :: rest))) (kr : ∀ t : Nat, W p l e R s m args below meth c H locs cells slots Q (F0 m (pc + 3) ls (.ref t :: rest))) : W p l e R s m args below meth c H locs cells slots Q (F0 m pc ls rest) := by
  rcases C0.2.2.2.2.2.2.2.2.2.2.2.2.2.1 with hZ | ⟨t, hZ⟩
  · exact va_gets C0.1 C0.2.1 hZ hw.2.2 C0.2.2.2.1 (C0.2.2.2.2.1 _ (List.mem_of_getElem? hl)) (fun _ h => h) hdg kn
  · exact va_gets C0.1 C0.2.1 hZ hw.2.2 C0.2.2.2.1 (C0.2.2.2.2.1 _ (List.mem_of_getElem? hl)) (fun _ h => h) hdg (kr t)
theorem x_ldcS {index : Nat} (C0 : Cx E p s m args meth c A cc nL RX4 Ts ret) (u : Nat) (hu : u < 7) (hix : litIx.getD u 0 = index) (hdg : decode cc pc = .ok (.ldc index, 2))
    (k : W p l e R s m args below meth c H locs cells slots Q (F0 m (pc + 2) ls (.ref (E.2.2.2.2.1 u) :: rest))) : W p l e R s m args below meth c H locs cells slots Q (F0 m pc ls rest) := by
  subst hix
  exact va_ldcS C0.1 C0.2.1 C0.2.2.2.1 (C0.2.2.2.2.2.2.2.2.2.2.1 u hu) hdg k
section RUNL
variable {yc : MethodName} {wsc wsc' : List Cond} {rmc : Room} {w0 F : va_W} {Qc : Nat → Array Value → State → Outcome → State → Prop} {b : Nat} {As : List Value} {C : String} {T : u_T} {N index maxL n : Nat} {bytes : ByteArray} {retc : Option FieldType}
theorem x_cSv {S : Type} {post : S → Prop} {w1 : S → va_W} (C0 : Cx E p s m args meth c A cc nL own Ts ret) (hw : mw E A s.heap H locs ws) (hp : ws.Perm (w0 ++ F)) (hls : ls.size = nL)
    (cal : KV l E yc wsc rmc As w0 post w1) (n : Nat) (hT : GoodIn Ts (va_wsS own index yc wsc)) (hcode : wsc = Cond.code yc bytes maxL retc :: wsc') (hrc : rmc.cells = 0 ∧ rmc.slots = 0)
    (hd : yc.cls ≠ "java/lang/invoke/MethodHandle" ∧ yc.cls ≠ "java/lang/invoke/VarHandle" ∧ (parseMethodDescriptor yc.desc).map (fun d => d.parameters.length) = some n) (hR : rmc.frames + 1 ≤ R.frames ∧ 8 + (maxL + 11) + rmc.locals ≤ R.locals)
    (hn : As.length = n) (hst : st0 = As.reverse ++ rest) (hcat : (rest.map fun v => v.category).sum ≤ 8) (hdg : decode cc pc = .ok (.invokestatic index, 3)) (hf : cells ≤ R.cells ∧ slots ≤ R.slots)
    (kk : ∀ (u : S) (H1 : Heap) (locs1 : List Loc), post u → mw E A s.heap H1 locs1 (w1 u ++ F) → W p l e R s m args below meth c H1 locs1 cells slots Q (F0 m (pc + 3) ls rest)) : W p l e R s m args below meth c H locs cells slots Q (F0 m pc ls st0) :=
  x_aftv C0 hw hp (x_runS (Qc := fun sz => va_Qv post (fun u t => va_P E.1 vwCl (w1 u) t.heap ∧ va_D (va_A w0 sz) (w1 u)) (va_A w0 sz)) C0 hw hp hls cal n hT hcode hrc hd hR hn hst hcat hdg hf) kk
/-- a static method that answers a literal -/
theorem x_cSL {post : Nat → Prop} (C0 : Cx E p s m args meth c A cc nL own Ts ret) (hw : mw E A s.heap H locs ws) (hp : ws.Perm (w0 ++ F)) (hls : ls.size = nL)
    (cal : KL l E yc wsc rmc As w0 post) (n : Nat) (hT : GoodIn Ts (va_wsS own index yc wsc)) (hcode : wsc = Cond.code yc bytes maxL retc :: wsc') (hrc : rmc.cells = 0 ∧ rmc.slots = 0)
    (hd : yc.cls ≠ "java/lang/invoke/MethodHandle" ∧ yc.cls ≠ "java/lang/invoke/VarHandle" ∧ (parseMethodDescriptor yc.desc).map (fun d => d.parameters.length) = some n) (hR : rmc.frames + 1 ≤ R.frames ∧ 8 + (maxL + 11) + rmc.locals ≤ R.locals)
    (hn : As.length = n) (hst : st0 = As.reverse ++ rest) (hcat : (rest.map fun v => v.category).sum ≤ 8) (hdg : decode cc pc = .ok (.invokestatic index, 3)) (hf : cells ≤ R.cells ∧ slots ≤ R.slots)
    (kk : ∀ (u : Nat) (H1 : Heap) (locs1 : List Loc), post u → mw E A s.heap H1 locs1 (w0 ++ F) → W p l e R s m args below meth c H1 locs1 cells slots Q (F0 m (pc + 3) ls (.ref (E.2.2.2.2.1 u) :: rest))) : W p l e R s m args below meth c H locs cells slots Q (F0 m pc ls st0) := by
  have hfr := x_freeA C0 hw hp
  refine va_callr (x_runS (Qc := fun sz => va_Qr (S := Nat) post (fun u a t => a = E.2.2.2.2.1 u ∧ va_P E.1 vwCl w0 t.heap ∧ va_D (va_A w0 sz) w0) (va_A w0 sz)) C0 hw hp hls cal n hT hcode hrc hd hR hn hst hcat hdg hf) hw.2.2 (fun q _ h => hfr q h) hfr (fun u a t H1 locs1 ht hvm hpo hB hz hk hS => ?_)
  obtain ⟨rfl, hB1, hB2⟩ := hB
  rw [ht] at hB1
  exact kk u H1 locs1 hpo (x_join C0 hw hp hk hB1 hB2 hS)
/-- a method of a literal -/
theorem x_cVL {S : Type} {post : Int32 → S → Prop} {w1 : S → va_W} (C0 : Cx E p s m args meth c A cc nL own Ts ret) (hw : mw E A s.heap H locs ws) (hp : ws.Perm (w0 ++ F)) (hls : ls.size = nL) {u : Nat} (hu : u < 7)
    (cal : KI l E yc wsc rmc (.ref (E.2.2.2.2.1 u) :: As) w0 post w1) (n : Nat) (hT : GoodIn Ts (wsV own index "java/lang/String" yc wsc)) (hcode : wsc = Cond.code yc bytes maxL retc :: wsc') (hrc : rmc.cells = 0 ∧ rmc.slots = 0)
    (hd : yc.cls = "java/lang/String" ∧ yc.cls ≠ "java/lang/invoke/MethodHandle" ∧ yc.cls ≠ "java/lang/invoke/VarHandle" ∧ (parseMethodDescriptor yc.desc).map (fun d => d.parameters.length) = some n) (hR : rmc.frames + 1 ≤ R.frames ∧ 8 + (maxL + 11) + rmc.locals ≤ R.locals)
    (hn : As.length = n) (hst : st0 = As.reverse ++ .ref (E.2.2.2.2.1 u) :: rest) (hcat : (rest.map fun v => v.category).sum ≤ 8) (hdg : decode cc pc = .ok (.invokevirtual index, 3)) (hf : cells ≤ R.cells ∧ slots ≤ R.slots)
    (kk : ∀ (r : Int32) (u : S) (H1 : Heap) (locs1 : List Loc), post r u → mw E A s.heap H1 locs1 (w1 u ++ F) → W p l e R s m args below meth c H1 locs1 cells slots Q (F0 m (pc + 3) ls (.int r :: rest))) : W p l e R s m args below meth c H locs cells slots Q (F0 m pc ls st0) := by
  obtain ⟨cell, h1, h2, h3, -⟩ := (x_lits C0 hu).1.kept hw.2.2.2.1
  exact x_aft C0 hw hp (va_runV (As := As) (rest := rest) (Qc := va_Qi post (fun u t => va_P E.1 vwCl (w1 u) t.heap ∧ va_D (va_A w0 H.size) (w1 u)) (va_A w0 H.size)) ⟨C0.1, C0.2.1, C0.2.2.1, C0.2.2.2.1, C0.2.2.2.2.1⟩ (cal H.size) (cwV n C0.2.2.2.2.1 hT hcode hrc.1 hrc.2 hd hR) ⟨x_blind, ⟨cell, h1, h2, h3⟩, fun _ hU hW => ⟨rfl, x_pre C0 hw hp hU hW⟩⟩ rfl hn hls hst (lv_room hcat) hdg hf) kk
end RUNL
end FRL
end
section
/-! MAKING: rows for constructors, and their contracts KN -/
def KN (l : Launch) (E : EE) (y : MethodName) (ws : List Cond) (rm : Room) (q : Nat) (w0 : va_W) (mc ms : Nat) {S : Type} (post : S → Prop) (w1 : S → va_W) : Prop :=
  ∀ sz : Nat, Met l y ws rm (va_Pc [.ref q] (preW E w0 sz)) (va_Qv post (fun u t => va_P E.1 vwCl (w1 u) t.heap ∧ va_D (va_A w0 sz) (w1 u)) (va_A w0 sz)) mc ms (va_A w0 sz)
abbrev qN (E : EE) (A : Nat → Prop) (mc ms : Nat) {S : Type} (post : S → Prop) (w1 : S → va_W) (below : List Frame) (args : Array Value) (s : State) : State → Prop :=
  MQ below (va_Qv post (fun u t => va_P E.1 vwCl (w1 u) t.heap ∧ va_D A (w1 u)) A) args s mc ms A
section FRN
variable {p : Program} {l : Launch} {e : Env} {R : Room} {s : State} {m : MethodId} {args : Array Value} {below : List Frame} {meth : Method} {c : Code} {H : Heap} {locs : List Loc} {cells slots : Nat} {Q : State → Prop}
variable {E : EE} {A : Nat → Prop} {cc : ByteArray} {nL : Nat} {own : String} {Ts : List Cond} {ret : Option FieldType} {pc : Nat} {ls : Array Slot} {rest st0 : List Value} {ws ws' : va_W}
set_option maxHeartbeats 1000000 in
theorem KN.go {y : MethodName} {tw tw' : List Cond} {rm : Room} {q : Nat} {w0 : va_W} {mc ms : Nat} {S : Type} {post : S → Prop} {w1 : S → va_W} {maxL : Nat} (hy : plainName y.cls = true) (hyn : y.name = "<init>") (hw : tw = Cond.code y cc maxL ret :: tw') (hlen : (lg_sl [Value.ref q]).length ≤ maxL) (hown : y.cls = own)
    (body : ∀ (p : Program) (e : Env) (s : State) (m : MethodId) (below : List Frame) (meth : Method) (c : Code) (A : Nat → Prop) (ls : Array Slot), meth.name = "<init>" → Cx E p s m [Value.ref q].toArray meth c A cc maxL own tw ret → mw E A s.heap s.heap [] w0 → lv_has ls maxL [(0, .ref q)] →
      W p l e rm s m [Value.ref q].toArray below meth c s.heap [] 0 0 (qN E A mc ms post w1 below [Value.ref q].toArray s) (F0 m 0 ls [])) : KN l E y tw rm q w0 mc ms post w1 := by
  intro sz
  refine Met.ofW (cc := cc) (maxL := maxL) (ret := ret) hy hw ?_
  intro p e s m args below meth c s₁ B hml hv
  obtain ⟨rfl, hsz, hP, hK, hD0, hN, hLR, hL⟩ := hv
  subst hsz
  have hts := atoms_spec (ws := tw) B.pre
  have hown' : s.vm.findClass own = some m.cls := by rw [← hown]; exact findClass_of_methodNamed B.named
  have hin : meth.name = "<init>" := by rw [← hyn]; exact (name_of_methodNamed B.named B.method).1
  have hD := hD0.self (sz := s.heap.size)
  have hl := lv_entry [Value.ref q] hlen
  rw [lg_entry_eq]
  have hA : ∀ q : Nat, s.heap.size ≤ q → va_A w0 s.heap.size q := fun q h => Or.inr h
  exact body p e s m below meth c (va_A w0 s.heap.size) _ hin ⟨B.exec, B.bytes, hml, hown', hts, hK, B.returns, B.notSynchronized, hA, hN, hLR, hL⟩ ⟨hP, hD, va_S.rf⟩ hl
theorem x_retN {mc ms : Nat} {S : Type} {post : S → Prop} {w1 : S → va_W} (C0 : Cx E p s m args meth c A cc nL own Ts none) (u : S) (hw : mw E A s.heap H locs (w1 u)) (hp : post u) (hc : cells ≤ mc) (hs : slots ≤ ms) (hdg : decode cc pc = .ok (.return_, 1)) :
    W p l e R s m args below meth c H locs cells slots (qN E A mc ms post w1 below args s) (F0 m pc ls []) := by
  obtain ⟨hx, hb, -, -, -, -, hr, hlocks, -⟩ := C0
  exact W.widen hc hs (W.vret hx hb hr (fun t ht _ => ⟨⟨u, rfl, hp, by rw [ht]; exact hw.1, hw.2.1⟩, hw.2.2.F ht⟩) hw.2.2.2.2 hdg)
theorem x_obj {index a : Nat} (C0 : Cx E p s m args meth c A cc nL own Ts ret) (hls : ls.size = nL) (i1 i2 i3 : Nat) (h1 : Ts[i1]? = some (.methodLink own index objectInit)) (h2 : Ts[i2]? = some (.instanceMethod objectInit)) (h3 : Ts[i3]? = some (.code objectInit ⟨#[0xb1]⟩ 1 none)) (hf : 1 ≤ R.frames) (hlo : (rest.map fun v => v.category).sum + 12 ≤ R.locals) (hdg : decode cc pc = .ok (.invokespecial index, 3))
    (kk : W p l e R s m args below meth c H locs cells slots Q (F0 m (pc + 3) ls rest)) : W p l e R s m args below meth c H locs cells slots Q (F0 m pc ls (.ref a :: rest)) := by
  obtain ⟨hx, hb, hml, hown, hts, -⟩ := C0
  exact W.objInit hx hb hown (hts _ (List.mem_of_getElem? h1)) (hts _ (List.mem_of_getElem? h2)) (hts _ (List.mem_of_getElem? h3)) rfl (by rw [hml]; exact hls) rfl hdg hf (by show 2 * 0 + _ + 12 ≤ _; omega) (W.eq (g2 := F0 m (pc + 3) ls rest) rfl kk)
theorem x_new {C : String} {T : u_T} {N index : Nat} (C0 : Cx E p s m args meth c A cc nL own Ts ret) (hw : mw E A s.heap H locs ws) (ci : Nat) (hin : ∀ w ∈ u_ws C T N, w ∈ Ts) (hc : vwCl[ci]? = some (C, T, N)) (ty0 : Nat → FieldType) (hty : ∀ k, k < N → parseFieldDescriptor (T k).2.2.1 = some (ty0 k)) (i1 i2 i3 : Nat) (h1 : Ts[i1]? = some (.classLink own index C)) (h2 : Ts[i2]? = some (.instantiable C N)) (h3 : Ts[i3]? = some (.initialized C)) {fs : List Value} (hfs : ∀ j, j < N → defaultValue (ty0 j) = vp_V fs j) (hcells : cells + 1 ≤ R.cells) (hslots : slots + N ≤ R.slots) (hdg : decode cc pc = .ok (.new index, 3))
    (kk : ∀ (q : Nat) (H1 : Heap), mw E A s.heap H1 locs (ws ++ [(q, .inr (ci, fs))]) → W p l e R s m args below meth c H1 locs (cells + 1) (slots + N) Q (F0 m (pc + 3) ls (.ref q :: rest))) : W p l e R s m args below meth c H locs cells slots Q (F0 m pc ls rest) := by
  obtain ⟨hx, hb, hml, hown, hts, hK, -, -, hA, -⟩ := C0
  exact va_new hx hb hts hin ty0 hty hown (hts _ (List.mem_of_getElem? h1)) (hts _ (List.mem_of_getElem? h2)) (hts _ (List.mem_of_getElem? h3)) hK hw.1 hw.2.1 hw.2.2 hA hc hfs hcells hslots hdg (fun q H1 a1 a2 a3 => kk q H1 ⟨a1, a2, a3⟩)
theorem x_newi {n : Int32} {N : Nat} (C0 : Cx E p s m args meth c A cc nL own Ts ret) (hw : mw E A s.heap H locs ws) (i : Nat) (hl : Ts[i]? = some (Cond.arrayClass .int)) (hn : n = nI N) (hN : Nat.blt N 65536 = true) (hcells : cells + 1 ≤ R.cells) (hslots : slots + N ≤ R.slots) (hdg : decode cc pc = .ok (.newarray .int, 2))
    (kk : ∀ (q : Nat) (H1 : Heap), mw E A s.heap H1 locs (ws ++ [(q, .inl (E.2.1, N, .inl (fun _ => 0)))]) → W p l e R s m args below meth c H1 locs (cells + 1) (slots + N) Q (F0 m (pc + 2) ls (.ref q :: rest))) : W p l e R s m args below meth c H locs cells slots Q (F0 m pc ls (.int n :: rest)) := by
  obtain ⟨hx, hb, hml, hown, hts, hK, -, -, hA, -⟩ := C0
  have hN' : N < 65536 := Nat.blt_eq.mp hN
  subst hn
  refine va_newa (atype := .int) (ty := .int) (a0 := (N, .inl (fun _ => 0))) hx hb (hts _ (List.mem_of_getElem? hl)) rfl hK hw.1 hw.2.1 hw.2.2 hA (fun cA => rfl) (nI_pos (by omega)) (nI_clamp (by omega)) (by show N * 4 ≤ 536870912; omega) hcells hslots hdg (fun q cA H1 hK1 a1 a2 a3 => ?_)
  have e1 : s.vm.findClass ("[" ++ FieldType.int.toString) = some cA := (hK1.2 3 (cA, .int) rfl).2
  have e2 : s.vm.findClass ("[" ++ FieldType.int.toString) = some E.2.1 := (hK.2 0 (E.2.1, .int) rfl).2
  have e : cA = E.2.1 := Option.some.inj (e1.symm.trans e2)
  subst e
  exact kk q H1 ⟨a1, a2, a3⟩
theorem x_newc {n : Int32} {N : Nat} (C0 : Cx E p s m args meth c A cc nL own Ts ret) (hw : mw E A s.heap H locs ws) (i : Nat) (hl : Ts[i]? = some (Cond.arrayClass .char)) (hn : n = nI N) (hN : Nat.blt N 65536 = true) (hcells : cells + 1 ≤ R.cells) (hslots : slots + N ≤ R.slots) (hdg : decode cc pc = .ok (.newarray .char, 2))
    (kk : ∀ (q : Nat) (H1 : Heap), mw E A s.heap H1 locs (ws ++ [(q, .inl (E.2.2.1, N, .inl (fun _ => 0)))]) → W p l e R s m args below meth c H1 locs (cells + 1) (slots + N) Q (F0 m (pc + 2) ls (.ref q :: rest))) : W p l e R s m args below meth c H locs cells slots Q (F0 m pc ls (.int n :: rest)) := by
  obtain ⟨hx, hb, hml, hown, hts, hK, -, -, hA, -⟩ := C0
  have hN' : N < 65536 := Nat.blt_eq.mp hN
  subst hn
  refine va_newa (atype := .char) (ty := .char) (a0 := (N, .inl (fun _ => 0))) hx hb (hts _ (List.mem_of_getElem? hl)) rfl hK hw.1 hw.2.1 hw.2.2 hA (fun cA => rfl) (nI_pos (by omega)) (nI_clamp (by omega)) (by show N * 2 ≤ 536870912; omega) hcells hslots hdg (fun q cA H1 hK1 a1 a2 a3 => ?_)
  have e1 : s.vm.findClass ("[" ++ FieldType.char.toString) = some cA := (hK1.2 3 (cA, .char) rfl).2
  have e2 : s.vm.findClass ("[" ++ FieldType.char.toString) = some E.2.2.1 := (hK.2 1 (E.2.2.1, .char) rfl).2
  have e : cA = E.2.2.1 := Option.some.inj (e1.symm.trans e2)
  subst e
  exact kk q H1 ⟨a1, a2, a3⟩
theorem x_newq {n : Int32} {N index : Nat} (C0 : Cx E p s m args meth c A cc nL own Ts ret) (hw : mw E A s.heap H locs ws) (i : Nat) (hl : Ts[i]? = some (Cond.classLink own index "GemMemos$Market")) (hn : n = nI N) (hN : Nat.blt N 65536 = true) (hcells : cells + 1 ≤ R.cells) (hslots : slots + N ≤ R.slots) (hdg : decode cc pc = .ok (.anewarray index, 3))
    (kk : ∀ (q : Nat) (H1 : Heap), mw E A s.heap H1 locs (ws ++ [(q, .inl (E.2.2.2.1, N, .inr (.inr (.inr (.inr (fun _ => none))))))]) → W p l e R s m args below meth c H1 locs (cells + 1) (slots + N) Q (F0 m (pc + 3) ls (.ref q :: rest))) : W p l e R s m args below meth c H locs cells slots Q (F0 m pc ls (.int n :: rest)) := by
  obtain ⟨hx, hb, hml, hown, hts, hK, -, -, hA, -, -, hL⟩ := C0
  have hN' : N < 65536 := Nat.blt_eq.mp hN
  subst hn
  refine va_newq (C := "GemMemos$Market") (N' := N) hx hb hown (hts _ (List.mem_of_getElem? hl)) hL.2.2.2 hK hw.1 hw.2.1 hw.2.2 hA (nI_pos (by omega)) (nI_clamp (by omega)) (by omega) hcells hslots hdg (fun q cA H1 hK1 a1 a2 a3 => ?_)
  have e1 : s.vm.findClass ("[" ++ (FieldType.object "GemMemos$Market").toString) = some cA := (hK1.2 3 (cA, .object "GemMemos$Market") rfl).2.choose_spec.choose_spec.2.2.2
  have e2 : s.vm.findClass ("[" ++ (FieldType.object "GemMemos$Market").toString) = some E.2.2.2.1 := (hK.2 2 (E.2.2.2.1, .object "GemMemos$Market") rfl).2.choose_spec.choose_spec.2.2.2
  have e : cA = E.2.2.2.1 := Option.some.inj (e1.symm.trans e2)
  subst e
  exact kk q H1 ⟨a1, a2, a3⟩
theorem x_putF {C : String} {T : u_T} {N index : Nat} (C0 : Cx E p s m args meth c A cc nL own Ts ret) (hin2 : meth.name = "<init>") (hw : mw E A s.heap H locs ws) (ci : Nat) (hin : ∀ w ∈ u_ws C T N, w ∈ Ts) (hc : vwCl[ci]? = some (C, T, N)) (ty0 : Nat → FieldType) (hty : ∀ k, k < N → parseFieldDescriptor (T k).2.2.1 = some (ty0 k)) (hnm : ∀ a, a < N → ∀ b, b < N → a ≠ b → (T a).2.1 ≠ (T b).2.1) (q0 : Nat) {a : Nat} {fs : List Value} (he : ws[q0]? = some (a, .inr (ci, fs))) (k : Nat) (hk : k < N) (i : Nat) (hl : Ts[i]? = some (Cond.fieldLink own index (T k).1 (T k).2.1 (T k).2.2.1)) (hfin : (T k).2.2.2 = true) (hdecl : (T k).1 = own) {v : Value} (hn : narrow (ty0 k) v = v) (hfit : fits (ty0 k) v = true) (hlen : k < fs.length) (hset : ws.set q0 (a, .inr (ci, fs.set k v)) = ws') (hdg : decode cc pc = .ok (.putfield index, 3))
    (kk : ∀ (H1 : Heap) (locs1 : List Loc), mw E A s.heap H1 locs1 ws' → W p l e R s m args below meth c H1 locs1 cells slots Q (F0 m (pc + 3) ls rest)) : W p l e R s m args below meth c H locs cells slots Q (F0 m pc ls (v :: .ref a :: rest)) := by
  subst hset
  exact va_putF C0.1 C0.2.1 C0.2.2.2.2.1 hin ty0 hty hnm C0.2.2.2.1 C0.2.2.2.2.2.1 hw.1 hw.2.1 hw.2.2 q0 he hc k hk (C0.2.2.2.2.1 _ (List.mem_of_getElem? hl)) (fun _ h => h) hfin hin2 hdecl (hty k hk) hn hfit hlen hdg (fun H1 locs1 h1 h2 h3 => kk H1 locs1 ⟨h1, h2, h3⟩)
theorem x_astq {i : Int32} (C0 : Cx E p s m args meth c A cc nL own Ts ret) (hw : mw E A s.heap H locs ws) (q0 qk : Nat) {a n v : Nat} {vs : List Value} {f : Nat → Option Nat} (ha : ws[q0]? = some (a, .inl (E.2.2.2.1, n, .inr (.inr (.inr (.inr f)))))) (hv : ws[qk]? = some (v, .inr (1, vs))) (hi : vp_in i n) (hset : ws.set q0 (a, .inl (E.2.2.2.1, n, .inr (.inr (.inr (.inr (va_up f (tn i) (some v))))))) = ws') (hdg : decode cc pc = .ok (.aastore, 1))
    (kk : ∀ (H1 : Heap) (locs1 : List Loc), mw E A s.heap H1 locs1 ws' → W p l e R s m args below meth c H1 locs1 cells slots Q (F0 m (pc + 1) ls rest)) : W p l e R s m args below meth c H locs cells slots Q (F0 m pc ls (.ref v :: .int i :: .ref a :: rest)) := by
  subst hset
  exact va_astq (r := (RX1, TX1, 9)) C0.1 C0.2.1 C0.2.2.2.2.2.1 hw.1 hw.2.1 hw.2.2 q0 2 qk 1 ha rfl hv rfl hi hdg (fun H1 locs1 h1 h2 h3 => kk H1 locs1 ⟨h1, h2, h3⟩)
section RUNN
variable {yc : MethodName} {wsc wsc' : List Cond} {rmc : Room} {w0 F : va_W} {b : Nat} {index maxL mc ms : Nat} {bytes : ByteArray} {S : Type} {post : S → Prop} {w1 : S → va_W} {a : Array Value}
theorem x_aftN (C0 : Cx E p s m args meth c A cc nL own Ts ret) (hw : mw E A s.heap H locs ws) (hp : ws.Perm (w0 ++ F))
    (hr : va_Run p l e R s m args below meth c H locs cells slots mc ms (F0 m pc ls st0) rest (va_Qv post (fun u t => va_P E.1 vwCl (w1 u) t.heap ∧ va_D (va_A w0 H.size) (w1 u)) (va_A w0 H.size) a) (va_A w0 H.size))
    (kk : ∀ (u : S) (H1 : Heap) (locs1 : List Loc), post u → mw E A s.heap H1 locs1 (w1 u ++ F) → W p l e R s m args below meth c H1 locs1 (cells + mc) (slots + ms) Q (F0 m (pc + 3) ls rest)) : W p l e R s m args below meth c H locs cells slots Q (F0 m pc ls st0) := by
  have hfr := x_freeA C0 hw hp
  refine va_callv hr hw.2.2 (fun q _ h => hfr q h) hfr (fun u t H1 locs1 ht hvm hpo hB hz hk hS => ?_)
  rw [ht] at hB
  exact kk u H1 locs1 hpo (x_join C0 hw hp hk hB.1 hB.2 hS)
theorem x_cI (C0 : Cx E p s m args meth c A cc nL own Ts ret) (hw : mw E A s.heap H locs ws) (hp : ws.Perm (w0 ++ F)) (hls : ls.size = nL)
    (cal : KN l E yc wsc rmc b w0 mc ms post w1) (hT : GoodIn Ts wsc) (hcode : wsc = Cond.code yc bytes maxL none :: wsc') (hrc : rmc.cells = mc ∧ rmc.slots = ms) (i1 i2 i3 : Nat) (h1 : Ts[i1]? = some (Cond.initialized yc.cls)) (h2 : Ts[i2]? = some (Cond.methodLink own index yc)) (h3 : Ts[i3]? = some (Cond.instanceMethod yc)) (hyn : yc.name = "<init>")
    (hd : yc.cls ≠ "java/lang/invoke/MethodHandle" ∧ yc.cls ≠ "java/lang/invoke/VarHandle" ∧ (parseMethodDescriptor yc.desc).map (fun d => d.parameters.length) = some 0) (hR : rmc.frames + 1 ≤ R.frames ∧ 8 + (maxL + 11) + rmc.locals ≤ R.locals)
    (hst : st0 = .ref b :: rest) (hcat : (rest.map fun v => v.category).sum ≤ 8) (hdg : decode cc pc = .ok (.invokespecial index, 3)) (hf : cells + mc ≤ R.cells ∧ slots + ms ≤ R.slots)
    (kk : ∀ (u : S) (H1 : Heap) (locs1 : List Loc), post u → mw E A s.heap H1 locs1 (w1 u ++ F) → W p l e R s m args below meth c H1 locs1 (cells + mc) (slots + ms) Q (F0 m (pc + 3) ls rest)) : W p l e R s m args below meth c H locs cells slots Q (F0 m pc ls st0) :=
  x_aftN C0 hw hp (va_runI (As := []) (rest := rest) ⟨C0.1, C0.2.1, C0.2.2.1, C0.2.2.2.1, C0.2.2.2.2.1⟩ (cal H.size) (cwI 0 C0.2.2.2.2.1 hT hcode hrc.1 hrc.2 (C0.2.2.2.2.1 _ (List.mem_of_getElem? h1)) (C0.2.2.2.2.1 _ (List.mem_of_getElem? h2)) (C0.2.2.2.2.1 _ (List.mem_of_getElem? h3)) hyn hd hR) ⟨x_blind, fun _ hU hW => ⟨rfl, x_pre C0 hw hp hU hW⟩⟩ rfl rfl hls hst (lv_room hcat) hdg hf) kk
theorem x_cIN {host : String} (C0 : Cx E p s m args meth c A cc nL own Ts ret) (hw : mw E A s.heap H locs ws) (hp : ws.Perm (w0 ++ F)) (hls : ls.size = nL)
    (cal : KN l E yc wsc rmc b w0 mc ms post w1) (hT : GoodIn Ts wsc) (hcode : wsc = Cond.code yc bytes maxL none :: wsc') (hrc : rmc.cells = mc ∧ rmc.slots = ms) (i1 i2 i3 : Nat) (h1 : Ts[i1]? = some (Cond.initialized yc.cls)) (h2 : nestWords[i2]? = some (.methodLinkNest own index yc host)) (h3 : Ts[i3]? = some (Cond.instanceMethod yc)) (hyn : yc.name = "<init>")
    (hd : yc.cls ≠ "java/lang/invoke/MethodHandle" ∧ yc.cls ≠ "java/lang/invoke/VarHandle" ∧ (parseMethodDescriptor yc.desc).map (fun d => d.parameters.length) = some 0) (hR : rmc.frames + 1 ≤ R.frames ∧ 8 + (maxL + 11) + rmc.locals ≤ R.locals)
    (hst : st0 = .ref b :: rest) (hcat : (rest.map fun v => v.category).sum ≤ 8) (hdg : decode cc pc = .ok (.invokespecial index, 3)) (hf : cells + mc ≤ R.cells ∧ slots + ms ≤ R.slots)
    (kk : ∀ (u : S) (H1 : Heap) (locs1 : List Loc), post u → mw E A s.heap H1 locs1 (w1 u ++ F) → W p l e R s m args below meth c H1 locs1 (cells + mc) (slots + ms) Q (F0 m (pc + 3) ls rest)) : W p l e R s m args below meth c H locs cells slots Q (F0 m pc ls st0) :=
  x_aftN C0 hw hp (va_runIN (As := []) (rest := rest) (host := host) ⟨C0.1, C0.2.1, C0.2.2.1, C0.2.2.2.1, C0.2.2.2.2.1⟩ (cal H.size) ⟨va_cnB 0 C0.2.2.2.2.1 hT hcode hrc.1 hrc.2 (C0.2.2.2.2.2.2.2.2.2.1 _ (List.mem_of_getElem? h2)) (C0.2.2.2.2.1 _ (List.mem_of_getElem? h1)) hd hR, hyn, C0.2.2.2.2.1 _ (List.mem_of_getElem? h3)⟩ ⟨x_blind, fun _ hU hW => ⟨rfl, x_pre C0 hw hp hU hW⟩⟩ rfl rfl hls hst (lv_room hcat) hdg hf) kk
end RUNN
end FRN
/-- a fresh market, a fresh reference, a fresh script -/
def iM : V := fun p => bif Nat.beq p 0 then (fun k => bif Nat.beq k 6 then 3 else bif Nat.beq k 7 then 10 else 0) else fun _ => 0
def z0 : V := fun _ _ => 0
def iS : V := fun p => bif Nat.beq p 0 then (fun k => bif Nat.beq k 5 then -1 else 0) else fun _ => 0
def iR : V := fun p => bif Nat.beq p 1 then upd (upd (fun _ => 0) 6 3) 7 10 else fun _ => 0
/-- addresses out of a list -/
def adr (l : List Nat) : Nat → Nat := fun k => l.getD k 0
def c3 (E : EE) (a : Nat → Nat) : va_W := [(a 0, .inr (3, [.ref (a 1), .ref (a 2), .ref (a 3), .ref (a 4)])), (a 1, .inl (E.2.1, 24, .inl (fun _ => 0))), (a 2, .inl (E.2.1, 24, .inl (fun _ => 0))), (a 3, .inl (E.2.1, 24, .inl (fun _ => 0))), (a 4, .inl (E.2.1, 24, .inl (fun _ => 0)))]
def c5 (E : EE) (a : Nat → Nat) : va_W := [(a 0, .inr (5, [.int 0, .ref (a 1), .ref (a 2), .ref (a 3), .ref (a 4), .ref (a 5), .ref (a 6), .ref (a 7), .ref (a 8), .ref (a 9)])), (a 1, .inl (E.2.1, 20, .inl (fun _ => 0))), (a 2, .inl (E.2.1, 20, .inl (fun _ => 0))), (a 3, .inl (E.2.1, 20, .inl (fun _ => 0))), (a 4, .inl (E.2.1, 20, .inl (fun _ => 0))), (a 5, .inl (E.2.1, 20, .inl (fun _ => 0))), (a 6, .inl (E.2.1, 20, .inl (fun _ => 0))), (a 7, .inl (E.2.1, 20, .inl (fun _ => 0))), (a 8, .inl (E.2.1, 20, .inl (fun _ => 0))), (a 9, .inl (E.2.1, 20, .inl (fun _ => 0)))]
def c2 (E : EE) (a : Nat → Nat) : va_W := [(a 0, .inr (2, [.int 0, .ref (a 1), .ref (a 2), .ref (a 3), .ref (a 4), .ref (a 5)])), (a 1, .inl (E.2.1, 10, .inl (fun _ => 0))), (a 2, .inl (E.2.1, 10, .inl (fun _ => 0))), (a 3, .inl (E.2.1, 10, .inl (fun _ => 0))), (a 4, .inl (E.2.1, 10, .inl (fun _ => 0))), (a 5, .inl (E.2.1, 10, .inl (fun _ => 0)))]
end
